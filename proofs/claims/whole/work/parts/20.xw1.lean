theorem hvX0_classOf : yX0_classOf.cls = RX0 ∧ yX0_classOf.cls ≠ "java/lang/invoke/MethodHandle" ∧ yX0_classOf.cls ≠ "java/lang/invoke/VarHandle" ∧ (parseMethodDescriptor yX0_classOf.desc).map (fun d => d.parameters.length) = some 1 := by decide +kernel
theorem hvX0_combining : yX0_combining.cls = RX0 ∧ yX0_combining.cls ≠ "java/lang/invoke/MethodHandle" ∧ yX0_combining.cls ≠ "java/lang/invoke/VarHandle" ∧ (parseMethodDescriptor yX0_combining.desc).map (fun d => d.parameters.length) = some 1 := by decide +kernel
theorem hvX0_complete : yX0_complete.cls = RX0 ∧ yX0_complete.cls ≠ "java/lang/invoke/MethodHandle" ∧ yX0_complete.cls ≠ "java/lang/invoke/VarHandle" ∧ (parseMethodDescriptor yX0_complete.desc).map (fun d => d.parameters.length) = some 1 := by decide +kernel
theorem hvX0_cuts : yX0_cuts.cls = RX0 ∧ yX0_cuts.cls ≠ "java/lang/invoke/MethodHandle" ∧ yX0_cuts.cls ≠ "java/lang/invoke/VarHandle" ∧ (parseMethodDescriptor yX0_cuts.desc).map (fun d => d.parameters.length) = some 2 := by decide +kernel
theorem hvX0_differentForms : yX0_differentForms.cls = RX0 ∧ yX0_differentForms.cls ≠ "java/lang/invoke/MethodHandle" ∧ yX0_differentForms.cls ≠ "java/lang/invoke/VarHandle" ∧ (parseMethodDescriptor yX0_differentForms.desc).map (fun d => d.parameters.length) = some 1 := by decide +kernel
theorem hvX0_formOfOther : yX0_formOfOther.cls = RX0 ∧ yX0_formOfOther.cls ≠ "java/lang/invoke/MethodHandle" ∧ yX0_formOfOther.cls ≠ "java/lang/invoke/VarHandle" ∧ (parseMethodDescriptor yX0_formOfOther.desc).map (fun d => d.parameters.length) = some 1 := by decide +kernel
theorem hvX0_formsWithPhrase : yX0_formsWithPhrase.cls = RX0 ∧ yX0_formsWithPhrase.cls ≠ "java/lang/invoke/MethodHandle" ∧ yX0_formsWithPhrase.cls ≠ "java/lang/invoke/VarHandle" ∧ (parseMethodDescriptor yX0_formsWithPhrase.desc).map (fun d => d.parameters.length) = some 1 := by decide +kernel
theorem hvX0_hasAllIntervals : yX0_hasAllIntervals.cls = RX0 ∧ yX0_hasAllIntervals.cls ≠ "java/lang/invoke/MethodHandle" ∧ yX0_hasAllIntervals.cls ≠ "java/lang/invoke/VarHandle" ∧ (parseMethodDescriptor yX0_hasAllIntervals.desc).map (fun d => d.parameters.length) = some 1 := by decide +kernel
theorem hvX0_interval : yX0_interval.cls = RX0 ∧ yX0_interval.cls ≠ "java/lang/invoke/MethodHandle" ∧ yX0_interval.cls ≠ "java/lang/invoke/VarHandle" ∧ (parseMethodDescriptor yX0_interval.desc).map (fun d => d.parameters.length) = some 2 := by decide +kernel
theorem hvX0_isDerived : yX0_isDerived.cls = RX0 ∧ yX0_isDerived.cls ≠ "java/lang/invoke/MethodHandle" ∧ yX0_isDerived.cls ≠ "java/lang/invoke/VarHandle" ∧ (parseMethodDescriptor yX0_isDerived.desc).map (fun d => d.parameters.length) = some 2 := by decide +kernel
theorem hvX0_keptSets : yX0_keptSets.cls = RX0 ∧ yX0_keptSets.cls ≠ "java/lang/invoke/MethodHandle" ∧ yX0_keptSets.cls ≠ "java/lang/invoke/VarHandle" ∧ (parseMethodDescriptor yX0_keptSets.desc).map (fun d => d.parameters.length) = some 4 := by decide +kernel
theorem hvX0_longestKept : yX0_longestKept.cls = RX0 ∧ yX0_longestKept.cls ≠ "java/lang/invoke/MethodHandle" ∧ yX0_longestKept.cls ≠ "java/lang/invoke/VarHandle" ∧ (parseMethodDescriptor yX0_longestKept.desc).map (fun d => d.parameters.length) = some 3 := by decide +kernel
theorem hvX0_matrix : yX0_matrix.cls = RX0 ∧ yX0_matrix.cls ≠ "java/lang/invoke/MethodHandle" ∧ yX0_matrix.cls ≠ "java/lang/invoke/VarHandle" ∧ (parseMethodDescriptor yX0_matrix.desc).map (fun d => d.parameters.length) = some 3 := by decide +kernel
theorem hvX0_mostKept : yX0_mostKept.cls = RX0 ∧ yX0_mostKept.cls ≠ "java/lang/invoke/MethodHandle" ∧ yX0_mostKept.cls ≠ "java/lang/invoke/VarHandle" ∧ (parseMethodDescriptor yX0_mostKept.desc).map (fun d => d.parameters.length) = some 2 := by decide +kernel
theorem hvX0_multiply : yX0_multiply.cls = RX0 ∧ yX0_multiply.cls ≠ "java/lang/invoke/MethodHandle" ∧ yX0_multiply.cls ≠ "java/lang/invoke/VarHandle" ∧ (parseMethodDescriptor yX0_multiply.desc).map (fun d => d.parameters.length) = some 2 := by decide +kernel
theorem hvX0_pairs : yX0_pairs.cls = RX0 ∧ yX0_pairs.cls ≠ "java/lang/invoke/MethodHandle" ∧ yX0_pairs.cls ≠ "java/lang/invoke/VarHandle" ∧ (parseMethodDescriptor yX0_pairs.desc).map (fun d => d.parameters.length) = some 2 := by decide +kernel
theorem hvX0_placeOfPhrase : yX0_placeOfPhrase.cls = RX0 ∧ yX0_placeOfPhrase.cls ≠ "java/lang/invoke/MethodHandle" ∧ yX0_placeOfPhrase.cls ≠ "java/lang/invoke/VarHandle" ∧ (parseMethodDescriptor yX0_placeOfPhrase.desc).map (fun d => d.parameters.length) = some 2 := by decide +kernel
theorem hvX0_put : yX0_put.cls = RX0 ∧ yX0_put.cls ≠ "java/lang/invoke/MethodHandle" ∧ yX0_put.cls ≠ "java/lang/invoke/VarHandle" ∧ (parseMethodDescriptor yX0_put.desc).map (fun d => d.parameters.length) = some 3 := by decide +kernel
theorem hvX0_rotate : yX0_rotate.cls = RX0 ∧ yX0_rotate.cls ≠ "java/lang/invoke/MethodHandle" ∧ yX0_rotate.cls ≠ "java/lang/invoke/VarHandle" ∧ (parseMethodDescriptor yX0_rotate.desc).map (fun d => d.parameters.length) = some 2 := by decide +kernel
theorem hvX0_segment : yX0_segment.cls = RX0 ∧ yX0_segment.cls ≠ "java/lang/invoke/MethodHandle" ∧ yX0_segment.cls ≠ "java/lang/invoke/VarHandle" ∧ (parseMethodDescriptor yX0_segment.desc).map (fun d => d.parameters.length) = some 3 := by decide +kernel
theorem hvX0_take : yX0_take.cls = RX0 ∧ yX0_take.cls ≠ "java/lang/invoke/MethodHandle" ∧ yX0_take.cls ≠ "java/lang/invoke/VarHandle" ∧ (parseMethodDescriptor yX0_take.desc).map (fun d => d.parameters.length) = some 4 := by decide +kernel
theorem hvX0_tone : yX0_tone.cls = RX0 ∧ yX0_tone.cls ≠ "java/lang/invoke/MethodHandle" ∧ yX0_tone.cls ≠ "java/lang/invoke/VarHandle" ∧ (parseMethodDescriptor yX0_tone.desc).map (fun d => d.parameters.length) = some 2 := by decide +kernel
theorem hvX0_toneOf : yX0_toneOf.cls = RX0 ∧ yX0_toneOf.cls ≠ "java/lang/invoke/MethodHandle" ∧ yX0_toneOf.cls ≠ "java/lang/invoke/VarHandle" ∧ (parseMethodDescriptor yX0_toneOf.desc).map (fun d => d.parameters.length) = some 4 := by decide +kernel
theorem hvX0_write : yX0_write.cls = RX0 ∧ yX0_write.cls ≠ "java/lang/invoke/MethodHandle" ∧ yX0_write.cls ≠ "java/lang/invoke/VarHandle" ∧ (parseMethodDescriptor yX0_write.desc).map (fun d => d.parameters.length) = some 1 := by decide +kernel
set_option maxHeartbeats 4000000 in
set_option maxRecDepth 100000 in
theorem mL_put_ok (l : Launch) (dC : Nat → ClassId) (dI : Nat → Nat → Nat) (cJ : ClassId) (o0 u0 : Nat) (a0 a1 q : Nat → Nat) (w : Nat) (hp0 : Pm a0) (hp1 : Pm a1) (hw : w ≤ 12) (hq : ∀ i, i < w → q i < 12) (hqd : ∀ i j, i < w → j < w → q i = q j → i = j) (g : Nat → Int64) (r i t : Nat) (hr9 : r < 2) (hi : i < 12) (ht : t < 12) : wr l yL_put wsL_put { frames := 3, cells := 0, slots := 0, locals := 73 } [.ref o0, .int (iI ((r : Nat) : Int)), .int (iI ((i : Nat) : Int)), .int (iI ((t : Nat) : Int)), .ref u0] (dC, dI) [(o0, .inr (0, [.long (pk a0), .long (pk a1), .long (pkn q w), .int (iI ((w : Nat) : Int))])), (u0, .inl (cJ, 1, .inr (.inl (g))))] [(cJ, .long)] [(o0, .inr (0, [.long (pk (sr0 r (putF (rw_ r a0 a1) i t) a0)), .long (pk (sr1 r (putF (rw_ r a0 a1) i t) a1)), .long (pkn q w), .int (iI ((w : Nat) : Int))])), (u0, .inl (cJ, 1, .inr (.inl (fun _ => (iI ((rw_ r a0 a1 i : Nat) : Int)).toInt64))))] (some (.int (iI 0))) := by
  refine mt_ofWH (cc := cL_put) (maxL := 6) (ret := (some .int)) (hh := [(0, 12, 15, 13), (0, 12, 19, 15)]) (by decide +kernel) rfl ?_
  intro P0 e s m args below meth c s₁ B hml hv
  obtain ⟨rfl, hP, hK, hD0⟩ := hv
  have hx := B.exec
  have hb := B.bytes
  have hr := B.returns
  have hts := atoms_spec (ws := wsL_put) B.pre
  have hown : s.vm.findClass RL = some m.cls := findClass_of_methodNamed B.named
  have hlocks := B.notSynchronized
  have hD : va_D (inW [(o0, .inr (0, [.long (pk a0), .long (pk a1), .long (pkn q w), .int (iI ((w : Nat) : Int))])), (u0, .inl (cJ, 1, .inr (.inl (g))))]) [(o0, .inr (0, [.long (pk a0), .long (pk a1), .long (pkn q w), .int (iI ((w : Nat) : Int))])), (u0, .inl (cJ, 1, .inr (.inl (g))))] := va_D_in hD0
  have hS : va_S (inW [(o0, .inr (0, [.long (pk a0), .long (pk a1), .long (pkn q w), .int (iI ((w : Nat) : Int))])), (u0, .inl (cJ, 1, .inr (.inl (g))))]) s.heap s.heap [] := va_S.rf
  have hl := lv_entry ([.ref o0, .int (iI ((r : Nat) : Int)), .int (iI ((i : Nat) : Int)), .int (iI ((t : Nat) : Int)), .ref u0]) (n := 6) (Nat.le_of_ble_eq_true rfl)
  rw [lg_entry_eq]
  generalize (lg_sl ([.ref o0, .int (iI ((r : Nat) : Int)), .int (iI ((i : Nat) : Int)), .int (iI ((t : Nat) : Int)), .ref u0]) ++ List.replicate (6 - (lg_sl ([.ref o0, .int (iI ((r : Nat) : Int)), .int (iI ((i : Nat) : Int)), .int (iI ((t : Nat) : Int)), .ref u0])).length) Slot.unset).toArray = ls at hl ⊢
  have hl : lv_has ls 6 [(0, .ref o0), (1, .int (iI ((r : Nat) : Int))), (2, .int (iI ((i : Nat) : Int))), (3, .int (iI ((t : Nat) : Int))), (4, .ref u0)] := hl
  refine lv_aload hx hb dL_put_0 (lv_at hl 4 rfl) ?_
  refine ib_const hx hb dL_put_2 ?_
  refine lv_aload_n hx hb dL_put_3 rfl (lv_at hl 0 rfl) ?_
  refine lv_iload_n hx hb dL_put_4 rfl (lv_at hl 1 rfl) ?_
  refine lv_iload_n hx hb dL_put_5 rfl (lv_at hl 2 rfl) ?_
  refine lv_iload_n hx hb dL_put_6 rfl (lv_at hl 3 rfl) ?_
  have hPc : va_P (dC, dI) vwCl [(o0, .inr (0, [.long (pk a0), .long (pk a1), .long (pkn q w), .int (iI ((w : Nat) : Int))]))] s.heap := va_P_l (w1 := [(o0, .inr (0, [.long (pk a0), .long (pk a1), .long (pkn q w), .int (iI ((w : Nat) : Int))]))]) (w2 := [(u0, .inl (cJ, 1, .inr (.inl (g))))]) hP
  have hKc := hK.sub (tys' := []) [] rfl
  have hDc : va_D (inW [(o0, .inr (0, [.long (pk a0), .long (pk a1), .long (pkn q w), .int (iI ((w : Nat) : Int))])), (u0, .inl (cJ, 1, .inr (.inl (g))))]) [(o0, .inr (0, [.long (pk a0), .long (pk a1), .long (pkn q w), .int (iI ((w : Nat) : Int))]))] := va_D_l (w1 := [(o0, .inr (0, [.long (pk a0), .long (pk a1), .long (pkn q w), .int (iI ((w : Nat) : Int))]))]) (w2 := [(u0, .inl (cJ, 1, .inr (.inl (g))))]) hD
  refine wr_call (va_runV (As := [.int (iI ((r : Nat) : Int)), .int (iI ((i : Nat) : Int)), .int (iI ((t : Nat) : Int))]) (rest := [.int (iI 0), .ref u0]) ⟨hx, hb, hml, hown, hts⟩ (mX0_put_ok l dC dI o0 a0 a1 q w hp0 hp1 hw hq hqd r i t hr9 hi ht) (cwV 3 hts gL_put_X0_put rfl rfl rfl hvX0_put ⟨Nat.le_of_ble_eq_true rfl, Nat.le_of_ble_eq_true rfl⟩) (bD_pre (ci := 0) (q0 := 0) hKc hPc hDc rfl rfl rfl) rfl rfl hl.1 rfl (lv_room (Nat.le_of_ble_eq_true rfl)) dL_put_7 ⟨Nat.le_of_ble_eq_true rfl, Nat.le_of_ble_eq_true rfl⟩) hS (fun q9 h => inW_l (w1 := [(o0, .inr (0, [.long (pk a0), .long (pk a1), .long (pkn q w), .int (iI ((w : Nat) : Int))]))]) (w2 := [(u0, .inl (cJ, 1, .inr (.inl (g))))]) h) (fun H locs hP1 hz hk hS => ?_)
  have hP : va_P (dC, dI) vwCl [(o0, .inr (0, [.long (pk (sr0 r (putF (rw_ r a0 a1) i t) a0)), .long (pk (sr1 r (putF (rw_ r a0 a1) i t) a1)), .long (pkn q w), .int (iI ((w : Nat) : Int))])), (u0, .inl (cJ, 1, .inr (.inl (g))))] H := wj_l (w1 := [(o0, .inr (0, [.long (pk a0), .long (pk a1), .long (pkn q w), .int (iI ((w : Nat) : Int))]))]) (w2 := [(u0, .inl (cJ, 1, .inr (.inl (g))))]) (w1' := [(o0, .inr (0, [.long (pk (sr0 r (putF (rw_ r a0 a1) i t) a0)), .long (pk (sr1 r (putF (rw_ r a0 a1) i t) a1)), .long (pkn q w), .int (iI ((w : Nat) : Int))]))]) hP hD hP1 hk
  have hD : va_D (inW [(o0, .inr (0, [.long (pk a0), .long (pk a1), .long (pkn q w), .int (iI ((w : Nat) : Int))])), (u0, .inl (cJ, 1, .inr (.inl (g))))]) [(o0, .inr (0, [.long (pk (sr0 r (putF (rw_ r a0 a1) i t) a0)), .long (pk (sr1 r (putF (rw_ r a0 a1) i t) a1)), .long (pkn q w), .int (iI ((w : Nat) : Int))])), (u0, .inl (cJ, 1, .inr (.inl (g))))] := va_D_same (w := [(o0, .inr (0, [.long (pk a0), .long (pk a1), .long (pkn q w), .int (iI ((w : Nat) : Int))])), (u0, .inl (cJ, 1, .inr (.inl (g))))]) (Eq.trans (b := [o0, u0]) rfl rfl) hD
  refine lv_i2l hx hb dL_put_10 rfl ?_
  refine va_last hx hb hK hP hD hS 1 0 rfl rfl vp0 dL_put_11 (fun H locs hP hD hS => ?_)
  have hP : va_P (dC, dI) vwCl [(o0, .inr (0, [.long (pk (sr0 r (putF (rw_ r a0 a1) i t) a0)), .long (pk (sr1 r (putF (rw_ r a0 a1) i t) a1)), .long (pkn q w), .int (iI ((w : Nat) : Int))])), (u0, .inl (cJ, 1, .inr (.inl (vp_updL (g) (iI 0).toNatClampNeg ((iI ((rw_ r a0 a1 i : Nat) : Int)).toInt64)))))] H := hP
  have hD : va_D (inW [(o0, .inr (0, [.long (pk a0), .long (pk a1), .long (pkn q w), .int (iI ((w : Nat) : Int))])), (u0, .inl (cJ, 1, .inr (.inl (g))))]) [(o0, .inr (0, [.long (pk (sr0 r (putF (rw_ r a0 a1) i t) a0)), .long (pk (sr1 r (putF (rw_ r a0 a1) i t) a1)), .long (pkn q w), .int (iI ((w : Nat) : Int))])), (u0, .inl (cJ, 1, .inr (.inl (vp_updL (g) (iI 0).toNatClampNeg ((iI ((rw_ r a0 a1 i : Nat) : Int)).toInt64)))))] := hD
  have hP : va_P (dC, dI) vwCl [(o0, .inr (0, [.long (pk (sr0 r (putF (rw_ r a0 a1) i t) a0)), .long (pk (sr1 r (putF (rw_ r a0 a1) i t) a1)), .long (pkn q w), .int (iI ((w : Nat) : Int))])), (u0, .inl (cJ, 1, .inr (.inl (fun _ => (iI ((rw_ r a0 a1 i : Nat) : Int)).toInt64))))] H := va_P_larr (q0 := 1) (g := fun _ => (iI ((rw_ r a0 a1 i : Nat) : Int)).toInt64) (fun j hj => lup j hj) rfl hP
  have hD : va_D (inW [(o0, .inr (0, [.long (pk a0), .long (pk a1), .long (pkn q w), .int (iI ((w : Nat) : Int))])), (u0, .inl (cJ, 1, .inr (.inl (g))))]) [(o0, .inr (0, [.long (pk (sr0 r (putF (rw_ r a0 a1) i t) a0)), .long (pk (sr1 r (putF (rw_ r a0 a1) i t) a1)), .long (pkn q w), .int (iI ((w : Nat) : Int))])), (u0, .inl (cJ, 1, .inr (.inl (fun _ => (iI ((rw_ r a0 a1 i : Nat) : Int)).toInt64))))] := va_D_same (w := [(o0, .inr (0, [.long (pk (sr0 r (putF (rw_ r a0 a1) i t) a0)), .long (pk (sr1 r (putF (rw_ r a0 a1) i t) a1)), .long (pkn q w), .int (iI ((w : Nat) : Int))])), (u0, .inl (cJ, 1, .inr (.inl (vp_updL (g) (iI 0).toNatClampNeg ((iI ((rw_ r a0 a1 i : Nat) : Int)).toInt64)))))]) (Eq.trans (b := [o0, u0]) rfl rfl) hD
  refine lv_goto (tgt := 23) hx hb dL_put_12 (by decide) ?_
  refine ib_const hx hb dL_put_23 ?_
  exact W.iret hx hb hr (fun t ht _ => ⟨rfl, by rw [ht]; exact hP, hS.F ht⟩) hS.2.2 dL_put_24

set_option maxHeartbeats 4000000 in
set_option maxRecDepth 100000 in
theorem mL_take_ok (l : Launch) (dC : Nat → ClassId) (dI : Nat → Nat → Nat) (cJ : ClassId) (o0 u0 : Nat) (a0 a1 q : Nat → Nat) (w : Nat) (hp0 : Pm a0) (hp1 : Pm a1) (hw : w ≤ 12) (hq : ∀ i, i < w → q i < 12) (hqd : ∀ i j, i < w → j < w → q i = q j → i = j) (g : Nat → Int64) (r k i t : Nat) (hr9 : r < 2) (hk : k < 4) (hi : i < 12) (ht : t < 2) : wr l yL_take wsL_take { frames := 4, cells := 0, slots := 0, locals := 98 } [.ref o0, .int (iI ((r : Nat) : Int)), .int (iI ((k : Nat) : Int)), .int (iI ((i : Nat) : Int)), .int (iI ((t : Nat) : Int)), .ref u0] (dC, dI) [(o0, .inr (0, [.long (pk a0), .long (pk a1), .long (pkn q w), .int (iI ((w : Nat) : Int))])), (u0, .inl (cJ, 1, .inr (.inl (g))))] [(cJ, .long)] [(o0, .inr (0, [.long (pk (sr0 t (fm (rw_ r a0 a1) (12 * k + i)) a0)), .long (pk (sr1 t (fm (rw_ r a0 a1) (12 * k + i)) a1)), .long (pkn q w), .int (iI ((w : Nat) : Int))])), (u0, .inl (cJ, 1, .inr (.inl (fun _ => (iI ((fm (rw_ r a0 a1) (12 * k + i) 0 : Nat) : Int)).toInt64))))] (some (.int (iI 0))) := by
  refine mt_ofWH (cc := cL_take) (maxL := 7) (ret := (some .int)) (hh := [(0, 14, 17, 13), (0, 14, 21, 15)]) (by decide +kernel) rfl ?_
  intro P0 e s m args below meth c s₁ B hml hv
  obtain ⟨rfl, hP, hK, hD0⟩ := hv
  have hx := B.exec
  have hb := B.bytes
  have hr := B.returns
  have hts := atoms_spec (ws := wsL_take) B.pre
  have hown : s.vm.findClass RL = some m.cls := findClass_of_methodNamed B.named
  have hlocks := B.notSynchronized
  have hD : va_D (inW [(o0, .inr (0, [.long (pk a0), .long (pk a1), .long (pkn q w), .int (iI ((w : Nat) : Int))])), (u0, .inl (cJ, 1, .inr (.inl (g))))]) [(o0, .inr (0, [.long (pk a0), .long (pk a1), .long (pkn q w), .int (iI ((w : Nat) : Int))])), (u0, .inl (cJ, 1, .inr (.inl (g))))] := va_D_in hD0
  have hS : va_S (inW [(o0, .inr (0, [.long (pk a0), .long (pk a1), .long (pkn q w), .int (iI ((w : Nat) : Int))])), (u0, .inl (cJ, 1, .inr (.inl (g))))]) s.heap s.heap [] := va_S.rf
  have hl := lv_entry ([.ref o0, .int (iI ((r : Nat) : Int)), .int (iI ((k : Nat) : Int)), .int (iI ((i : Nat) : Int)), .int (iI ((t : Nat) : Int)), .ref u0]) (n := 7) (Nat.le_of_ble_eq_true rfl)
  rw [lg_entry_eq]
  generalize (lg_sl ([.ref o0, .int (iI ((r : Nat) : Int)), .int (iI ((k : Nat) : Int)), .int (iI ((i : Nat) : Int)), .int (iI ((t : Nat) : Int)), .ref u0]) ++ List.replicate (7 - (lg_sl ([.ref o0, .int (iI ((r : Nat) : Int)), .int (iI ((k : Nat) : Int)), .int (iI ((i : Nat) : Int)), .int (iI ((t : Nat) : Int)), .ref u0])).length) Slot.unset).toArray = ls at hl ⊢
  have hl : lv_has ls 7 [(0, .ref o0), (1, .int (iI ((r : Nat) : Int))), (2, .int (iI ((k : Nat) : Int))), (3, .int (iI ((i : Nat) : Int))), (4, .int (iI ((t : Nat) : Int))), (5, .ref u0)] := hl
  refine lv_aload hx hb dL_take_0 (lv_at hl 5 rfl) ?_
  refine ib_const hx hb dL_take_2 ?_
  refine lv_aload_n hx hb dL_take_3 rfl (lv_at hl 0 rfl) ?_
  refine lv_iload_n hx hb dL_take_4 rfl (lv_at hl 1 rfl) ?_
  refine lv_iload_n hx hb dL_take_5 rfl (lv_at hl 2 rfl) ?_
  refine lv_iload_n hx hb dL_take_6 rfl (lv_at hl 3 rfl) ?_
  refine lv_iload hx hb dL_take_7 (lv_at hl 4 rfl) ?_
  have hPc : va_P (dC, dI) vwCl [(o0, .inr (0, [.long (pk a0), .long (pk a1), .long (pkn q w), .int (iI ((w : Nat) : Int))]))] s.heap := va_P_l (w1 := [(o0, .inr (0, [.long (pk a0), .long (pk a1), .long (pkn q w), .int (iI ((w : Nat) : Int))]))]) (w2 := [(u0, .inl (cJ, 1, .inr (.inl (g))))]) hP
  have hKc := hK.sub (tys' := []) [] rfl
  have hDc : va_D (inW [(o0, .inr (0, [.long (pk a0), .long (pk a1), .long (pkn q w), .int (iI ((w : Nat) : Int))])), (u0, .inl (cJ, 1, .inr (.inl (g))))]) [(o0, .inr (0, [.long (pk a0), .long (pk a1), .long (pkn q w), .int (iI ((w : Nat) : Int))]))] := va_D_l (w1 := [(o0, .inr (0, [.long (pk a0), .long (pk a1), .long (pkn q w), .int (iI ((w : Nat) : Int))]))]) (w2 := [(u0, .inl (cJ, 1, .inr (.inl (g))))]) hD
  refine wr_call (va_runV (As := [.int (iI ((r : Nat) : Int)), .int (iI ((k : Nat) : Int)), .int (iI ((i : Nat) : Int)), .int (iI ((t : Nat) : Int))]) (rest := [.int (iI 0), .ref u0]) ⟨hx, hb, hml, hown, hts⟩ (mX0_take_ok l dC dI o0 a0 a1 q w hp0 hp1 hw hq hqd r k i t hr9 hk hi ht) (cwV 4 hts gL_take_X0_take rfl rfl rfl hvX0_take ⟨Nat.le_of_ble_eq_true rfl, Nat.le_of_ble_eq_true rfl⟩) (bD_pre (ci := 0) (q0 := 0) hKc hPc hDc rfl rfl rfl) rfl rfl hl.1 rfl (lv_room (Nat.le_of_ble_eq_true rfl)) dL_take_9 ⟨Nat.le_of_ble_eq_true rfl, Nat.le_of_ble_eq_true rfl⟩) hS (fun q9 h => inW_l (w1 := [(o0, .inr (0, [.long (pk a0), .long (pk a1), .long (pkn q w), .int (iI ((w : Nat) : Int))]))]) (w2 := [(u0, .inl (cJ, 1, .inr (.inl (g))))]) h) (fun H locs hP1 hz hk hS => ?_)
  have hP : va_P (dC, dI) vwCl [(o0, .inr (0, [.long (pk (sr0 t (fm (rw_ r a0 a1) (12 * k + i)) a0)), .long (pk (sr1 t (fm (rw_ r a0 a1) (12 * k + i)) a1)), .long (pkn q w), .int (iI ((w : Nat) : Int))])), (u0, .inl (cJ, 1, .inr (.inl (g))))] H := wj_l (w1 := [(o0, .inr (0, [.long (pk a0), .long (pk a1), .long (pkn q w), .int (iI ((w : Nat) : Int))]))]) (w2 := [(u0, .inl (cJ, 1, .inr (.inl (g))))]) (w1' := [(o0, .inr (0, [.long (pk (sr0 t (fm (rw_ r a0 a1) (12 * k + i)) a0)), .long (pk (sr1 t (fm (rw_ r a0 a1) (12 * k + i)) a1)), .long (pkn q w), .int (iI ((w : Nat) : Int))]))]) hP hD hP1 hk
  have hD : va_D (inW [(o0, .inr (0, [.long (pk a0), .long (pk a1), .long (pkn q w), .int (iI ((w : Nat) : Int))])), (u0, .inl (cJ, 1, .inr (.inl (g))))]) [(o0, .inr (0, [.long (pk (sr0 t (fm (rw_ r a0 a1) (12 * k + i)) a0)), .long (pk (sr1 t (fm (rw_ r a0 a1) (12 * k + i)) a1)), .long (pkn q w), .int (iI ((w : Nat) : Int))])), (u0, .inl (cJ, 1, .inr (.inl (g))))] := va_D_same (w := [(o0, .inr (0, [.long (pk a0), .long (pk a1), .long (pkn q w), .int (iI ((w : Nat) : Int))])), (u0, .inl (cJ, 1, .inr (.inl (g))))]) (Eq.trans (b := [o0, u0]) rfl rfl) hD
  refine lv_i2l hx hb dL_take_12 rfl ?_
  refine va_last hx hb hK hP hD hS 1 0 rfl rfl vp0 dL_take_13 (fun H locs hP hD hS => ?_)
  have hP : va_P (dC, dI) vwCl [(o0, .inr (0, [.long (pk (sr0 t (fm (rw_ r a0 a1) (12 * k + i)) a0)), .long (pk (sr1 t (fm (rw_ r a0 a1) (12 * k + i)) a1)), .long (pkn q w), .int (iI ((w : Nat) : Int))])), (u0, .inl (cJ, 1, .inr (.inl (vp_updL (g) (iI 0).toNatClampNeg ((iI ((fm (rw_ r a0 a1) (12 * k + i) 0 : Nat) : Int)).toInt64)))))] H := hP
  have hD : va_D (inW [(o0, .inr (0, [.long (pk a0), .long (pk a1), .long (pkn q w), .int (iI ((w : Nat) : Int))])), (u0, .inl (cJ, 1, .inr (.inl (g))))]) [(o0, .inr (0, [.long (pk (sr0 t (fm (rw_ r a0 a1) (12 * k + i)) a0)), .long (pk (sr1 t (fm (rw_ r a0 a1) (12 * k + i)) a1)), .long (pkn q w), .int (iI ((w : Nat) : Int))])), (u0, .inl (cJ, 1, .inr (.inl (vp_updL (g) (iI 0).toNatClampNeg ((iI ((fm (rw_ r a0 a1) (12 * k + i) 0 : Nat) : Int)).toInt64)))))] := hD
  have hP : va_P (dC, dI) vwCl [(o0, .inr (0, [.long (pk (sr0 t (fm (rw_ r a0 a1) (12 * k + i)) a0)), .long (pk (sr1 t (fm (rw_ r a0 a1) (12 * k + i)) a1)), .long (pkn q w), .int (iI ((w : Nat) : Int))])), (u0, .inl (cJ, 1, .inr (.inl (fun _ => (iI ((fm (rw_ r a0 a1) (12 * k + i) 0 : Nat) : Int)).toInt64))))] H := va_P_larr (q0 := 1) (g := fun _ => (iI ((fm (rw_ r a0 a1) (12 * k + i) 0 : Nat) : Int)).toInt64) (fun j hj => lup j hj) rfl hP
  have hD : va_D (inW [(o0, .inr (0, [.long (pk a0), .long (pk a1), .long (pkn q w), .int (iI ((w : Nat) : Int))])), (u0, .inl (cJ, 1, .inr (.inl (g))))]) [(o0, .inr (0, [.long (pk (sr0 t (fm (rw_ r a0 a1) (12 * k + i)) a0)), .long (pk (sr1 t (fm (rw_ r a0 a1) (12 * k + i)) a1)), .long (pkn q w), .int (iI ((w : Nat) : Int))])), (u0, .inl (cJ, 1, .inr (.inl (fun _ => (iI ((fm (rw_ r a0 a1) (12 * k + i) 0 : Nat) : Int)).toInt64))))] := va_D_same (w := [(o0, .inr (0, [.long (pk (sr0 t (fm (rw_ r a0 a1) (12 * k + i)) a0)), .long (pk (sr1 t (fm (rw_ r a0 a1) (12 * k + i)) a1)), .long (pkn q w), .int (iI ((w : Nat) : Int))])), (u0, .inl (cJ, 1, .inr (.inl (vp_updL (g) (iI 0).toNatClampNeg ((iI ((fm (rw_ r a0 a1) (12 * k + i) 0 : Nat) : Int)).toInt64)))))]) (Eq.trans (b := [o0, u0]) rfl rfl) hD
  refine lv_goto (tgt := 25) hx hb dL_take_14 (by decide) ?_
  refine ib_const hx hb dL_take_25 ?_
  exact W.iret hx hb hr (fun t ht _ => ⟨rfl, by rw [ht]; exact hP, hS.F ht⟩) hS.2.2 dL_take_26

set_option maxHeartbeats 4000000 in
set_option maxRecDepth 100000 in
theorem mL_multiply_ok (l : Launch) (dC : Nat → ClassId) (dI : Nat → Nat → Nat) (cJ : ClassId) (o0 u0 : Nat) (a0 a1 q : Nat → Nat) (w : Nat) (hp0 : Pm a0) (hp1 : Pm a1) (hw : w ≤ 12) (hq : ∀ i, i < w → q i < 12) (hqd : ∀ i j, i < w → j < w → q i = q j → i = j) (g : Nat → Int64) (r f : Nat) (hr9 : r < 2) (hf : f = 1 ∨ f = 5 ∨ f = 7 ∨ f = 11) : wr l yL_multiply wsL_multiply { frames := 3, cells := 0, slots := 0, locals := 73 } [.ref o0, .int (iI ((r : Nat) : Int)), .int (iI ((f : Nat) : Int)), .ref u0] (dC, dI) [(o0, .inr (0, [.long (pk a0), .long (pk a1), .long (pkn q w), .int (iI ((w : Nat) : Int))])), (u0, .inl (cJ, 1, .inr (.inl (g))))] [(cJ, .long)] [(o0, .inr (0, [.long (pk (sr0 r (mulF (rw_ r a0 a1) f) a0)), .long (pk (sr1 r (mulF (rw_ r a0 a1) f) a1)), .long (pkn q w), .int (iI ((w : Nat) : Int))])), (u0, .inl (cJ, 1, .inr (.inl (fun _ => (iI ((mulF (rw_ r a0 a1) f 0 : Nat) : Int)).toInt64))))] (some (.int (iI 0))) := by
  refine mt_ofWH (cc := cL_multiply) (maxL := 5) (ret := (some .int)) (hh := [(0, 10, 13, 13), (0, 10, 17, 15)]) (by decide +kernel) rfl ?_
  intro P0 e s m args below meth c s₁ B hml hv
  obtain ⟨rfl, hP, hK, hD0⟩ := hv
  have hx := B.exec
  have hb := B.bytes
  have hr := B.returns
  have hts := atoms_spec (ws := wsL_multiply) B.pre
  have hown : s.vm.findClass RL = some m.cls := findClass_of_methodNamed B.named
  have hlocks := B.notSynchronized
  have hD : va_D (inW [(o0, .inr (0, [.long (pk a0), .long (pk a1), .long (pkn q w), .int (iI ((w : Nat) : Int))])), (u0, .inl (cJ, 1, .inr (.inl (g))))]) [(o0, .inr (0, [.long (pk a0), .long (pk a1), .long (pkn q w), .int (iI ((w : Nat) : Int))])), (u0, .inl (cJ, 1, .inr (.inl (g))))] := va_D_in hD0
  have hS : va_S (inW [(o0, .inr (0, [.long (pk a0), .long (pk a1), .long (pkn q w), .int (iI ((w : Nat) : Int))])), (u0, .inl (cJ, 1, .inr (.inl (g))))]) s.heap s.heap [] := va_S.rf
  have hl := lv_entry ([.ref o0, .int (iI ((r : Nat) : Int)), .int (iI ((f : Nat) : Int)), .ref u0]) (n := 5) (Nat.le_of_ble_eq_true rfl)
  rw [lg_entry_eq]
  generalize (lg_sl ([.ref o0, .int (iI ((r : Nat) : Int)), .int (iI ((f : Nat) : Int)), .ref u0]) ++ List.replicate (5 - (lg_sl ([.ref o0, .int (iI ((r : Nat) : Int)), .int (iI ((f : Nat) : Int)), .ref u0])).length) Slot.unset).toArray = ls at hl ⊢
  have hl : lv_has ls 5 [(0, .ref o0), (1, .int (iI ((r : Nat) : Int))), (2, .int (iI ((f : Nat) : Int))), (3, .ref u0)] := hl
  refine lv_aload_n hx hb dL_multiply_0 rfl (lv_at hl 3 rfl) ?_
  refine ib_const hx hb dL_multiply_1 ?_
  refine lv_aload_n hx hb dL_multiply_2 rfl (lv_at hl 0 rfl) ?_
  refine lv_iload_n hx hb dL_multiply_3 rfl (lv_at hl 1 rfl) ?_
  refine lv_iload_n hx hb dL_multiply_4 rfl (lv_at hl 2 rfl) ?_
  have hPc : va_P (dC, dI) vwCl [(o0, .inr (0, [.long (pk a0), .long (pk a1), .long (pkn q w), .int (iI ((w : Nat) : Int))]))] s.heap := va_P_l (w1 := [(o0, .inr (0, [.long (pk a0), .long (pk a1), .long (pkn q w), .int (iI ((w : Nat) : Int))]))]) (w2 := [(u0, .inl (cJ, 1, .inr (.inl (g))))]) hP
  have hKc := hK.sub (tys' := []) [] rfl
  have hDc : va_D (inW [(o0, .inr (0, [.long (pk a0), .long (pk a1), .long (pkn q w), .int (iI ((w : Nat) : Int))])), (u0, .inl (cJ, 1, .inr (.inl (g))))]) [(o0, .inr (0, [.long (pk a0), .long (pk a1), .long (pkn q w), .int (iI ((w : Nat) : Int))]))] := va_D_l (w1 := [(o0, .inr (0, [.long (pk a0), .long (pk a1), .long (pkn q w), .int (iI ((w : Nat) : Int))]))]) (w2 := [(u0, .inl (cJ, 1, .inr (.inl (g))))]) hD
  refine wr_call (va_runV (As := [.int (iI ((r : Nat) : Int)), .int (iI ((f : Nat) : Int))]) (rest := [.int (iI 0), .ref u0]) ⟨hx, hb, hml, hown, hts⟩ (mX0_multiply_ok l dC dI o0 a0 a1 q w hp0 hp1 hw hq hqd r f hr9 hf) (cwV 2 hts gL_multiply_X0_multiply rfl rfl rfl hvX0_multiply ⟨Nat.le_of_ble_eq_true rfl, Nat.le_of_ble_eq_true rfl⟩) (bD_pre (ci := 0) (q0 := 0) hKc hPc hDc rfl rfl rfl) rfl rfl hl.1 rfl (lv_room (Nat.le_of_ble_eq_true rfl)) dL_multiply_5 ⟨Nat.le_of_ble_eq_true rfl, Nat.le_of_ble_eq_true rfl⟩) hS (fun q9 h => inW_l (w1 := [(o0, .inr (0, [.long (pk a0), .long (pk a1), .long (pkn q w), .int (iI ((w : Nat) : Int))]))]) (w2 := [(u0, .inl (cJ, 1, .inr (.inl (g))))]) h) (fun H locs hP1 hz hk hS => ?_)
  have hP : va_P (dC, dI) vwCl [(o0, .inr (0, [.long (pk (sr0 r (mulF (rw_ r a0 a1) f) a0)), .long (pk (sr1 r (mulF (rw_ r a0 a1) f) a1)), .long (pkn q w), .int (iI ((w : Nat) : Int))])), (u0, .inl (cJ, 1, .inr (.inl (g))))] H := wj_l (w1 := [(o0, .inr (0, [.long (pk a0), .long (pk a1), .long (pkn q w), .int (iI ((w : Nat) : Int))]))]) (w2 := [(u0, .inl (cJ, 1, .inr (.inl (g))))]) (w1' := [(o0, .inr (0, [.long (pk (sr0 r (mulF (rw_ r a0 a1) f) a0)), .long (pk (sr1 r (mulF (rw_ r a0 a1) f) a1)), .long (pkn q w), .int (iI ((w : Nat) : Int))]))]) hP hD hP1 hk
  have hD : va_D (inW [(o0, .inr (0, [.long (pk a0), .long (pk a1), .long (pkn q w), .int (iI ((w : Nat) : Int))])), (u0, .inl (cJ, 1, .inr (.inl (g))))]) [(o0, .inr (0, [.long (pk (sr0 r (mulF (rw_ r a0 a1) f) a0)), .long (pk (sr1 r (mulF (rw_ r a0 a1) f) a1)), .long (pkn q w), .int (iI ((w : Nat) : Int))])), (u0, .inl (cJ, 1, .inr (.inl (g))))] := va_D_same (w := [(o0, .inr (0, [.long (pk a0), .long (pk a1), .long (pkn q w), .int (iI ((w : Nat) : Int))])), (u0, .inl (cJ, 1, .inr (.inl (g))))]) (Eq.trans (b := [o0, u0]) rfl rfl) hD
  refine lv_i2l hx hb dL_multiply_8 rfl ?_
  refine va_last hx hb hK hP hD hS 1 0 rfl rfl vp0 dL_multiply_9 (fun H locs hP hD hS => ?_)
  have hP : va_P (dC, dI) vwCl [(o0, .inr (0, [.long (pk (sr0 r (mulF (rw_ r a0 a1) f) a0)), .long (pk (sr1 r (mulF (rw_ r a0 a1) f) a1)), .long (pkn q w), .int (iI ((w : Nat) : Int))])), (u0, .inl (cJ, 1, .inr (.inl (vp_updL (g) (iI 0).toNatClampNeg ((iI ((mulF (rw_ r a0 a1) f 0 : Nat) : Int)).toInt64)))))] H := hP
  have hD : va_D (inW [(o0, .inr (0, [.long (pk a0), .long (pk a1), .long (pkn q w), .int (iI ((w : Nat) : Int))])), (u0, .inl (cJ, 1, .inr (.inl (g))))]) [(o0, .inr (0, [.long (pk (sr0 r (mulF (rw_ r a0 a1) f) a0)), .long (pk (sr1 r (mulF (rw_ r a0 a1) f) a1)), .long (pkn q w), .int (iI ((w : Nat) : Int))])), (u0, .inl (cJ, 1, .inr (.inl (vp_updL (g) (iI 0).toNatClampNeg ((iI ((mulF (rw_ r a0 a1) f 0 : Nat) : Int)).toInt64)))))] := hD
  have hP : va_P (dC, dI) vwCl [(o0, .inr (0, [.long (pk (sr0 r (mulF (rw_ r a0 a1) f) a0)), .long (pk (sr1 r (mulF (rw_ r a0 a1) f) a1)), .long (pkn q w), .int (iI ((w : Nat) : Int))])), (u0, .inl (cJ, 1, .inr (.inl (fun _ => (iI ((mulF (rw_ r a0 a1) f 0 : Nat) : Int)).toInt64))))] H := va_P_larr (q0 := 1) (g := fun _ => (iI ((mulF (rw_ r a0 a1) f 0 : Nat) : Int)).toInt64) (fun j hj => lup j hj) rfl hP
  have hD : va_D (inW [(o0, .inr (0, [.long (pk a0), .long (pk a1), .long (pkn q w), .int (iI ((w : Nat) : Int))])), (u0, .inl (cJ, 1, .inr (.inl (g))))]) [(o0, .inr (0, [.long (pk (sr0 r (mulF (rw_ r a0 a1) f) a0)), .long (pk (sr1 r (mulF (rw_ r a0 a1) f) a1)), .long (pkn q w), .int (iI ((w : Nat) : Int))])), (u0, .inl (cJ, 1, .inr (.inl (fun _ => (iI ((mulF (rw_ r a0 a1) f 0 : Nat) : Int)).toInt64))))] := va_D_same (w := [(o0, .inr (0, [.long (pk (sr0 r (mulF (rw_ r a0 a1) f) a0)), .long (pk (sr1 r (mulF (rw_ r a0 a1) f) a1)), .long (pkn q w), .int (iI ((w : Nat) : Int))])), (u0, .inl (cJ, 1, .inr (.inl (vp_updL (g) (iI 0).toNatClampNeg ((iI ((mulF (rw_ r a0 a1) f 0 : Nat) : Int)).toInt64)))))]) (Eq.trans (b := [o0, u0]) rfl rfl) hD
  refine lv_goto (tgt := 21) hx hb dL_multiply_10 (by decide) ?_
  refine ib_const hx hb dL_multiply_21 ?_
  exact W.iret hx hb hr (fun t ht _ => ⟨rfl, by rw [ht]; exact hP, hS.F ht⟩) hS.2.2 dL_multiply_22

set_option maxHeartbeats 4000000 in
set_option maxRecDepth 100000 in
theorem mL_rotate_ok (l : Launch) (dC : Nat → ClassId) (dI : Nat → Nat → Nat) (cJ : ClassId) (o0 u0 : Nat) (a0 a1 q : Nat → Nat) (w : Nat) (hp0 : Pm a0) (hp1 : Pm a1) (hw : w ≤ 12) (hq : ∀ i, i < w → q i < 12) (hqd : ∀ i j, i < w → j < w → q i = q j → i = j) (g : Nat → Int64) (r b : Nat) (hr9 : r < 2) (hb9 : b < 12) : wr l yL_rotate wsL_rotate { frames := 3, cells := 0, slots := 0, locals := 73 } [.ref o0, .int (iI ((r : Nat) : Int)), .int (iI ((b : Nat) : Int)), .ref u0] (dC, dI) [(o0, .inr (0, [.long (pk a0), .long (pk a1), .long (pkn q w), .int (iI ((w : Nat) : Int))])), (u0, .inl (cJ, 1, .inr (.inl (g))))] [(cJ, .long)] [(o0, .inr (0, [.long (pk (sr0 r (rotF (rw_ r a0 a1) b) a0)), .long (pk (sr1 r (rotF (rw_ r a0 a1) b) a1)), .long (pkn q w), .int (iI ((w : Nat) : Int))])), (u0, .inl (cJ, 1, .inr (.inl (fun _ => (iI ((rotF (rw_ r a0 a1) b 0 : Nat) : Int)).toInt64))))] (some (.int (iI 0))) := by
  refine mt_ofWH (cc := cL_rotate) (maxL := 5) (ret := (some .int)) (hh := [(0, 10, 13, 13), (0, 10, 17, 15)]) (by decide +kernel) rfl ?_
  intro P0 e s m args below meth c s₁ B hml hv
  obtain ⟨rfl, hP, hK, hD0⟩ := hv
  have hx := B.exec
  have hb := B.bytes
  have hr := B.returns
  have hts := atoms_spec (ws := wsL_rotate) B.pre
  have hown : s.vm.findClass RL = some m.cls := findClass_of_methodNamed B.named
  have hlocks := B.notSynchronized
  have hD : va_D (inW [(o0, .inr (0, [.long (pk a0), .long (pk a1), .long (pkn q w), .int (iI ((w : Nat) : Int))])), (u0, .inl (cJ, 1, .inr (.inl (g))))]) [(o0, .inr (0, [.long (pk a0), .long (pk a1), .long (pkn q w), .int (iI ((w : Nat) : Int))])), (u0, .inl (cJ, 1, .inr (.inl (g))))] := va_D_in hD0
  have hS : va_S (inW [(o0, .inr (0, [.long (pk a0), .long (pk a1), .long (pkn q w), .int (iI ((w : Nat) : Int))])), (u0, .inl (cJ, 1, .inr (.inl (g))))]) s.heap s.heap [] := va_S.rf
  have hl := lv_entry ([.ref o0, .int (iI ((r : Nat) : Int)), .int (iI ((b : Nat) : Int)), .ref u0]) (n := 5) (Nat.le_of_ble_eq_true rfl)
  rw [lg_entry_eq]
  generalize (lg_sl ([.ref o0, .int (iI ((r : Nat) : Int)), .int (iI ((b : Nat) : Int)), .ref u0]) ++ List.replicate (5 - (lg_sl ([.ref o0, .int (iI ((r : Nat) : Int)), .int (iI ((b : Nat) : Int)), .ref u0])).length) Slot.unset).toArray = ls at hl ⊢
  have hl : lv_has ls 5 [(0, .ref o0), (1, .int (iI ((r : Nat) : Int))), (2, .int (iI ((b : Nat) : Int))), (3, .ref u0)] := hl
  refine lv_aload_n hx hb dL_rotate_0 rfl (lv_at hl 3 rfl) ?_
  refine ib_const hx hb dL_rotate_1 ?_
  refine lv_aload_n hx hb dL_rotate_2 rfl (lv_at hl 0 rfl) ?_
  refine lv_iload_n hx hb dL_rotate_3 rfl (lv_at hl 1 rfl) ?_
  refine lv_iload_n hx hb dL_rotate_4 rfl (lv_at hl 2 rfl) ?_
  have hPc : va_P (dC, dI) vwCl [(o0, .inr (0, [.long (pk a0), .long (pk a1), .long (pkn q w), .int (iI ((w : Nat) : Int))]))] s.heap := va_P_l (w1 := [(o0, .inr (0, [.long (pk a0), .long (pk a1), .long (pkn q w), .int (iI ((w : Nat) : Int))]))]) (w2 := [(u0, .inl (cJ, 1, .inr (.inl (g))))]) hP
  have hKc := hK.sub (tys' := []) [] rfl
  have hDc : va_D (inW [(o0, .inr (0, [.long (pk a0), .long (pk a1), .long (pkn q w), .int (iI ((w : Nat) : Int))])), (u0, .inl (cJ, 1, .inr (.inl (g))))]) [(o0, .inr (0, [.long (pk a0), .long (pk a1), .long (pkn q w), .int (iI ((w : Nat) : Int))]))] := va_D_l (w1 := [(o0, .inr (0, [.long (pk a0), .long (pk a1), .long (pkn q w), .int (iI ((w : Nat) : Int))]))]) (w2 := [(u0, .inl (cJ, 1, .inr (.inl (g))))]) hD
  refine wr_call (va_runV (As := [.int (iI ((r : Nat) : Int)), .int (iI ((b : Nat) : Int))]) (rest := [.int (iI 0), .ref u0]) ⟨hx, hb, hml, hown, hts⟩ (mX0_rotate_ok l dC dI o0 a0 a1 q w hp0 hp1 hw hq hqd r b hr9 hb9) (cwV 2 hts gL_rotate_X0_rotate rfl rfl rfl hvX0_rotate ⟨Nat.le_of_ble_eq_true rfl, Nat.le_of_ble_eq_true rfl⟩) (bD_pre (ci := 0) (q0 := 0) hKc hPc hDc rfl rfl rfl) rfl rfl hl.1 rfl (lv_room (Nat.le_of_ble_eq_true rfl)) dL_rotate_5 ⟨Nat.le_of_ble_eq_true rfl, Nat.le_of_ble_eq_true rfl⟩) hS (fun q9 h => inW_l (w1 := [(o0, .inr (0, [.long (pk a0), .long (pk a1), .long (pkn q w), .int (iI ((w : Nat) : Int))]))]) (w2 := [(u0, .inl (cJ, 1, .inr (.inl (g))))]) h) (fun H locs hP1 hz hk hS => ?_)
  have hP : va_P (dC, dI) vwCl [(o0, .inr (0, [.long (pk (sr0 r (rotF (rw_ r a0 a1) b) a0)), .long (pk (sr1 r (rotF (rw_ r a0 a1) b) a1)), .long (pkn q w), .int (iI ((w : Nat) : Int))])), (u0, .inl (cJ, 1, .inr (.inl (g))))] H := wj_l (w1 := [(o0, .inr (0, [.long (pk a0), .long (pk a1), .long (pkn q w), .int (iI ((w : Nat) : Int))]))]) (w2 := [(u0, .inl (cJ, 1, .inr (.inl (g))))]) (w1' := [(o0, .inr (0, [.long (pk (sr0 r (rotF (rw_ r a0 a1) b) a0)), .long (pk (sr1 r (rotF (rw_ r a0 a1) b) a1)), .long (pkn q w), .int (iI ((w : Nat) : Int))]))]) hP hD hP1 hk
  have hD : va_D (inW [(o0, .inr (0, [.long (pk a0), .long (pk a1), .long (pkn q w), .int (iI ((w : Nat) : Int))])), (u0, .inl (cJ, 1, .inr (.inl (g))))]) [(o0, .inr (0, [.long (pk (sr0 r (rotF (rw_ r a0 a1) b) a0)), .long (pk (sr1 r (rotF (rw_ r a0 a1) b) a1)), .long (pkn q w), .int (iI ((w : Nat) : Int))])), (u0, .inl (cJ, 1, .inr (.inl (g))))] := va_D_same (w := [(o0, .inr (0, [.long (pk a0), .long (pk a1), .long (pkn q w), .int (iI ((w : Nat) : Int))])), (u0, .inl (cJ, 1, .inr (.inl (g))))]) (Eq.trans (b := [o0, u0]) rfl rfl) hD
  refine lv_i2l hx hb dL_rotate_8 rfl ?_
  refine va_last hx hb hK hP hD hS 1 0 rfl rfl vp0 dL_rotate_9 (fun H locs hP hD hS => ?_)
  have hP : va_P (dC, dI) vwCl [(o0, .inr (0, [.long (pk (sr0 r (rotF (rw_ r a0 a1) b) a0)), .long (pk (sr1 r (rotF (rw_ r a0 a1) b) a1)), .long (pkn q w), .int (iI ((w : Nat) : Int))])), (u0, .inl (cJ, 1, .inr (.inl (vp_updL (g) (iI 0).toNatClampNeg ((iI ((rotF (rw_ r a0 a1) b 0 : Nat) : Int)).toInt64)))))] H := hP
  have hD : va_D (inW [(o0, .inr (0, [.long (pk a0), .long (pk a1), .long (pkn q w), .int (iI ((w : Nat) : Int))])), (u0, .inl (cJ, 1, .inr (.inl (g))))]) [(o0, .inr (0, [.long (pk (sr0 r (rotF (rw_ r a0 a1) b) a0)), .long (pk (sr1 r (rotF (rw_ r a0 a1) b) a1)), .long (pkn q w), .int (iI ((w : Nat) : Int))])), (u0, .inl (cJ, 1, .inr (.inl (vp_updL (g) (iI 0).toNatClampNeg ((iI ((rotF (rw_ r a0 a1) b 0 : Nat) : Int)).toInt64)))))] := hD
  have hP : va_P (dC, dI) vwCl [(o0, .inr (0, [.long (pk (sr0 r (rotF (rw_ r a0 a1) b) a0)), .long (pk (sr1 r (rotF (rw_ r a0 a1) b) a1)), .long (pkn q w), .int (iI ((w : Nat) : Int))])), (u0, .inl (cJ, 1, .inr (.inl (fun _ => (iI ((rotF (rw_ r a0 a1) b 0 : Nat) : Int)).toInt64))))] H := va_P_larr (q0 := 1) (g := fun _ => (iI ((rotF (rw_ r a0 a1) b 0 : Nat) : Int)).toInt64) (fun j hj => lup j hj) rfl hP
  have hD : va_D (inW [(o0, .inr (0, [.long (pk a0), .long (pk a1), .long (pkn q w), .int (iI ((w : Nat) : Int))])), (u0, .inl (cJ, 1, .inr (.inl (g))))]) [(o0, .inr (0, [.long (pk (sr0 r (rotF (rw_ r a0 a1) b) a0)), .long (pk (sr1 r (rotF (rw_ r a0 a1) b) a1)), .long (pkn q w), .int (iI ((w : Nat) : Int))])), (u0, .inl (cJ, 1, .inr (.inl (fun _ => (iI ((rotF (rw_ r a0 a1) b 0 : Nat) : Int)).toInt64))))] := va_D_same (w := [(o0, .inr (0, [.long (pk (sr0 r (rotF (rw_ r a0 a1) b) a0)), .long (pk (sr1 r (rotF (rw_ r a0 a1) b) a1)), .long (pkn q w), .int (iI ((w : Nat) : Int))])), (u0, .inl (cJ, 1, .inr (.inl (vp_updL (g) (iI 0).toNatClampNeg ((iI ((rotF (rw_ r a0 a1) b 0 : Nat) : Int)).toInt64)))))]) (Eq.trans (b := [o0, u0]) rfl rfl) hD
  refine lv_goto (tgt := 21) hx hb dL_rotate_10 (by decide) ?_
  refine ib_const hx hb dL_rotate_21 ?_
  exact W.iret hx hb hr (fun t ht _ => ⟨rfl, by rw [ht]; exact hP, hS.F ht⟩) hS.2.2 dL_rotate_22

set_option maxHeartbeats 4000000 in
set_option maxRecDepth 100000 in
theorem mL_tone_ok (l : Launch) (dC : Nat → ClassId) (dI : Nat → Nat → Nat) (cJ : ClassId) (o0 u0 : Nat) (a0 a1 q : Nat → Nat) (w : Nat) (hp0 : Pm a0) (hp1 : Pm a1) (hw : w ≤ 12) (hq : ∀ i, i < w → q i < 12) (hqd : ∀ i j, i < w → j < w → q i = q j → i = j) (g : Nat → Int64) (r i : Nat) (hr9 : r < 2) (hi : i < 12) : wr l yL_tone wsL_tone { frames := 2, cells := 0, slots := 0, locals := 44 } [.ref o0, .int (iI ((r : Nat) : Int)), .int (iI ((i : Nat) : Int)), .ref u0] (dC, dI) [(o0, .inr (0, [.long (pk a0), .long (pk a1), .long (pkn q w), .int (iI ((w : Nat) : Int))])), (u0, .inl (cJ, 1, .inr (.inl (g))))] [(cJ, .long)] [(o0, .inr (0, [.long (pk a0), .long (pk a1), .long (pkn q w), .int (iI ((w : Nat) : Int))])), (u0, .inl (cJ, 1, .inr (.inl (fun _ => (iI ((rw_ r a0 a1 i : Nat) : Int)).toInt64))))] (some (.int (iI 0))) := by
  refine mt_ofWH (cc := cL_tone) (maxL := 5) (ret := (some .int)) (hh := [(0, 10, 13, 13)]) (by decide +kernel) rfl ?_
  intro P0 e s m args below meth c s₁ B hml hv
  obtain ⟨rfl, hP, hK, hD0⟩ := hv
  have hx := B.exec
  have hb := B.bytes
  have hr := B.returns
  have hts := atoms_spec (ws := wsL_tone) B.pre
  have hown : s.vm.findClass RL = some m.cls := findClass_of_methodNamed B.named
  have hlocks := B.notSynchronized
  have hD : va_D (inW [(o0, .inr (0, [.long (pk a0), .long (pk a1), .long (pkn q w), .int (iI ((w : Nat) : Int))])), (u0, .inl (cJ, 1, .inr (.inl (g))))]) [(o0, .inr (0, [.long (pk a0), .long (pk a1), .long (pkn q w), .int (iI ((w : Nat) : Int))])), (u0, .inl (cJ, 1, .inr (.inl (g))))] := va_D_in hD0
  have hS : va_S (inW [(o0, .inr (0, [.long (pk a0), .long (pk a1), .long (pkn q w), .int (iI ((w : Nat) : Int))])), (u0, .inl (cJ, 1, .inr (.inl (g))))]) s.heap s.heap [] := va_S.rf
  have hl := lv_entry ([.ref o0, .int (iI ((r : Nat) : Int)), .int (iI ((i : Nat) : Int)), .ref u0]) (n := 5) (Nat.le_of_ble_eq_true rfl)
  rw [lg_entry_eq]
  generalize (lg_sl ([.ref o0, .int (iI ((r : Nat) : Int)), .int (iI ((i : Nat) : Int)), .ref u0]) ++ List.replicate (5 - (lg_sl ([.ref o0, .int (iI ((r : Nat) : Int)), .int (iI ((i : Nat) : Int)), .ref u0])).length) Slot.unset).toArray = ls at hl ⊢
  have hl : lv_has ls 5 [(0, .ref o0), (1, .int (iI ((r : Nat) : Int))), (2, .int (iI ((i : Nat) : Int))), (3, .ref u0)] := hl
  refine lv_aload_n hx hb dL_tone_0 rfl (lv_at hl 3 rfl) ?_
  refine ib_const hx hb dL_tone_1 ?_
  refine lv_aload_n hx hb dL_tone_2 rfl (lv_at hl 0 rfl) ?_
  refine lv_iload_n hx hb dL_tone_3 rfl (lv_at hl 1 rfl) ?_
  refine lv_iload_n hx hb dL_tone_4 rfl (lv_at hl 2 rfl) ?_
  have hPc : va_P (dC, dI) vwCl [(o0, .inr (0, [.long (pk a0), .long (pk a1), .long (pkn q w), .int (iI ((w : Nat) : Int))]))] s.heap := va_P_l (w1 := [(o0, .inr (0, [.long (pk a0), .long (pk a1), .long (pkn q w), .int (iI ((w : Nat) : Int))]))]) (w2 := [(u0, .inl (cJ, 1, .inr (.inl (g))))]) hP
  have hKc := hK.sub (tys' := []) [] rfl
  refine rd_call (va_runV (As := [.int (iI ((r : Nat) : Int)), .int (iI ((i : Nat) : Int))]) (rest := [.int (iI 0), .ref u0]) ⟨hx, hb, hml, hown, hts⟩ (mX0_tone_ok l dC dI o0 a0 a1 q w hp0 hp1 hw hq hqd r i hr9 hi) (cwV 2 hts gL_tone_X0_tone rfl rfl rfl hvX0_tone ⟨Nat.le_of_ble_eq_true rfl, Nat.le_of_ble_eq_true rfl⟩) (bW_pre (ci := 0) (q0 := 0) hKc hPc rfl rfl rfl) rfl rfl hl.1 rfl (lv_room (Nat.le_of_ble_eq_true rfl)) dL_tone_5 ⟨Nat.le_of_ble_eq_true rfl, Nat.le_of_ble_eq_true rfl⟩) ?_
  refine lv_i2l hx hb dL_tone_8 rfl ?_
  refine va_last hx hb hK hP hD hS 1 0 rfl rfl vp0 dL_tone_9 (fun H locs hP hD hS => ?_)
  have hP : va_P (dC, dI) vwCl [(o0, .inr (0, [.long (pk a0), .long (pk a1), .long (pkn q w), .int (iI ((w : Nat) : Int))])), (u0, .inl (cJ, 1, .inr (.inl (vp_updL (g) (iI 0).toNatClampNeg ((iI ((rw_ r a0 a1 i : Nat) : Int)).toInt64)))))] H := hP
  have hD : va_D (inW [(o0, .inr (0, [.long (pk a0), .long (pk a1), .long (pkn q w), .int (iI ((w : Nat) : Int))])), (u0, .inl (cJ, 1, .inr (.inl (g))))]) [(o0, .inr (0, [.long (pk a0), .long (pk a1), .long (pkn q w), .int (iI ((w : Nat) : Int))])), (u0, .inl (cJ, 1, .inr (.inl (vp_updL (g) (iI 0).toNatClampNeg ((iI ((rw_ r a0 a1 i : Nat) : Int)).toInt64)))))] := hD
  have hP : va_P (dC, dI) vwCl [(o0, .inr (0, [.long (pk a0), .long (pk a1), .long (pkn q w), .int (iI ((w : Nat) : Int))])), (u0, .inl (cJ, 1, .inr (.inl (fun _ => (iI ((rw_ r a0 a1 i : Nat) : Int)).toInt64))))] H := va_P_larr (q0 := 1) (g := fun _ => (iI ((rw_ r a0 a1 i : Nat) : Int)).toInt64) (fun j hj => lup j hj) rfl hP
  have hD : va_D (inW [(o0, .inr (0, [.long (pk a0), .long (pk a1), .long (pkn q w), .int (iI ((w : Nat) : Int))])), (u0, .inl (cJ, 1, .inr (.inl (g))))]) [(o0, .inr (0, [.long (pk a0), .long (pk a1), .long (pkn q w), .int (iI ((w : Nat) : Int))])), (u0, .inl (cJ, 1, .inr (.inl (fun _ => (iI ((rw_ r a0 a1 i : Nat) : Int)).toInt64))))] := va_D_same (w := [(o0, .inr (0, [.long (pk a0), .long (pk a1), .long (pkn q w), .int (iI ((w : Nat) : Int))])), (u0, .inl (cJ, 1, .inr (.inl (vp_updL (g) (iI 0).toNatClampNeg ((iI ((rw_ r a0 a1 i : Nat) : Int)).toInt64)))))]) (Eq.trans (b := [o0, u0]) rfl rfl) hD
  refine lv_goto (tgt := 17) hx hb dL_tone_10 (by decide) ?_
  refine ib_const hx hb dL_tone_17 ?_
  exact W.iret hx hb hr (fun t ht _ => ⟨rfl, by rw [ht]; exact hP, hS.F ht⟩) hS.2.2 dL_tone_18

set_option maxHeartbeats 4000000 in
set_option maxRecDepth 100000 in
theorem mL_interval_ok (l : Launch) (dC : Nat → ClassId) (dI : Nat → Nat → Nat) (cJ : ClassId) (o0 u0 : Nat) (a0 a1 q : Nat → Nat) (w : Nat) (hp0 : Pm a0) (hp1 : Pm a1) (hw : w ≤ 12) (hq : ∀ i, i < w → q i < 12) (hqd : ∀ i j, i < w → j < w → q i = q j → i = j) (g : Nat → Int64) (r i : Nat) (hr9 : r < 2) (hi : i < 11) : wr l yL_interval wsL_interval { frames := 4, cells := 0, slots := 0, locals := 86 } [.ref o0, .int (iI ((r : Nat) : Int)), .int (iI ((i : Nat) : Int)), .ref u0] (dC, dI) [(o0, .inr (0, [.long (pk a0), .long (pk a1), .long (pkn q w), .int (iI ((w : Nat) : Int))])), (u0, .inl (cJ, 1, .inr (.inl (g))))] [(cJ, .long)] [(o0, .inr (0, [.long (pk a0), .long (pk a1), .long (pkn q w), .int (iI ((w : Nat) : Int))])), (u0, .inl (cJ, 1, .inr (.inl (fun _ => (iI ((md (((rw_ r a0 a1 (i + 1) : Nat) : Int) - ((rw_ r a0 a1 i : Nat) : Int)) : Nat) : Int)).toInt64))))] (some (.int (iI 0))) := by
  refine mt_ofWH (cc := cL_interval) (maxL := 5) (ret := (some .int)) (hh := [(0, 10, 13, 13)]) (by decide +kernel) rfl ?_
  intro P0 e s m args below meth c s₁ B hml hv
  obtain ⟨rfl, hP, hK, hD0⟩ := hv
  have hx := B.exec
  have hb := B.bytes
  have hr := B.returns
  have hts := atoms_spec (ws := wsL_interval) B.pre
  have hown : s.vm.findClass RL = some m.cls := findClass_of_methodNamed B.named
  have hlocks := B.notSynchronized
  have hD : va_D (inW [(o0, .inr (0, [.long (pk a0), .long (pk a1), .long (pkn q w), .int (iI ((w : Nat) : Int))])), (u0, .inl (cJ, 1, .inr (.inl (g))))]) [(o0, .inr (0, [.long (pk a0), .long (pk a1), .long (pkn q w), .int (iI ((w : Nat) : Int))])), (u0, .inl (cJ, 1, .inr (.inl (g))))] := va_D_in hD0
  have hS : va_S (inW [(o0, .inr (0, [.long (pk a0), .long (pk a1), .long (pkn q w), .int (iI ((w : Nat) : Int))])), (u0, .inl (cJ, 1, .inr (.inl (g))))]) s.heap s.heap [] := va_S.rf
  have hl := lv_entry ([.ref o0, .int (iI ((r : Nat) : Int)), .int (iI ((i : Nat) : Int)), .ref u0]) (n := 5) (Nat.le_of_ble_eq_true rfl)
  rw [lg_entry_eq]
  generalize (lg_sl ([.ref o0, .int (iI ((r : Nat) : Int)), .int (iI ((i : Nat) : Int)), .ref u0]) ++ List.replicate (5 - (lg_sl ([.ref o0, .int (iI ((r : Nat) : Int)), .int (iI ((i : Nat) : Int)), .ref u0])).length) Slot.unset).toArray = ls at hl ⊢
  have hl : lv_has ls 5 [(0, .ref o0), (1, .int (iI ((r : Nat) : Int))), (2, .int (iI ((i : Nat) : Int))), (3, .ref u0)] := hl
  refine lv_aload_n hx hb dL_interval_0 rfl (lv_at hl 3 rfl) ?_
  refine ib_const hx hb dL_interval_1 ?_
  refine lv_aload_n hx hb dL_interval_2 rfl (lv_at hl 0 rfl) ?_
  refine lv_iload_n hx hb dL_interval_3 rfl (lv_at hl 1 rfl) ?_
  refine lv_iload_n hx hb dL_interval_4 rfl (lv_at hl 2 rfl) ?_
  have hPc : va_P (dC, dI) vwCl [(o0, .inr (0, [.long (pk a0), .long (pk a1), .long (pkn q w), .int (iI ((w : Nat) : Int))]))] s.heap := va_P_l (w1 := [(o0, .inr (0, [.long (pk a0), .long (pk a1), .long (pkn q w), .int (iI ((w : Nat) : Int))]))]) (w2 := [(u0, .inl (cJ, 1, .inr (.inl (g))))]) hP
  have hKc := hK.sub (tys' := []) [] rfl
  refine rd_call (va_runV (As := [.int (iI ((r : Nat) : Int)), .int (iI ((i : Nat) : Int))]) (rest := [.int (iI 0), .ref u0]) ⟨hx, hb, hml, hown, hts⟩ (mX0_interval_ok l dC dI o0 a0 a1 q w hp0 hp1 hw hq hqd r i hr9 hi) (cwV 2 hts gL_interval_X0_interval rfl rfl rfl hvX0_interval ⟨Nat.le_of_ble_eq_true rfl, Nat.le_of_ble_eq_true rfl⟩) (bW_pre (ci := 0) (q0 := 0) hKc hPc rfl rfl rfl) rfl rfl hl.1 rfl (lv_room (Nat.le_of_ble_eq_true rfl)) dL_interval_5 ⟨Nat.le_of_ble_eq_true rfl, Nat.le_of_ble_eq_true rfl⟩) ?_
  refine lv_i2l hx hb dL_interval_8 rfl ?_
  refine va_last hx hb hK hP hD hS 1 0 rfl rfl vp0 dL_interval_9 (fun H locs hP hD hS => ?_)
  have hP : va_P (dC, dI) vwCl [(o0, .inr (0, [.long (pk a0), .long (pk a1), .long (pkn q w), .int (iI ((w : Nat) : Int))])), (u0, .inl (cJ, 1, .inr (.inl (vp_updL (g) (iI 0).toNatClampNeg ((iI ((md (((rw_ r a0 a1 (i + 1) : Nat) : Int) - ((rw_ r a0 a1 i : Nat) : Int)) : Nat) : Int)).toInt64)))))] H := hP
  have hD : va_D (inW [(o0, .inr (0, [.long (pk a0), .long (pk a1), .long (pkn q w), .int (iI ((w : Nat) : Int))])), (u0, .inl (cJ, 1, .inr (.inl (g))))]) [(o0, .inr (0, [.long (pk a0), .long (pk a1), .long (pkn q w), .int (iI ((w : Nat) : Int))])), (u0, .inl (cJ, 1, .inr (.inl (vp_updL (g) (iI 0).toNatClampNeg ((iI ((md (((rw_ r a0 a1 (i + 1) : Nat) : Int) - ((rw_ r a0 a1 i : Nat) : Int)) : Nat) : Int)).toInt64)))))] := hD
  have hP : va_P (dC, dI) vwCl [(o0, .inr (0, [.long (pk a0), .long (pk a1), .long (pkn q w), .int (iI ((w : Nat) : Int))])), (u0, .inl (cJ, 1, .inr (.inl (fun _ => (iI ((md (((rw_ r a0 a1 (i + 1) : Nat) : Int) - ((rw_ r a0 a1 i : Nat) : Int)) : Nat) : Int)).toInt64))))] H := va_P_larr (q0 := 1) (g := fun _ => (iI ((md (((rw_ r a0 a1 (i + 1) : Nat) : Int) - ((rw_ r a0 a1 i : Nat) : Int)) : Nat) : Int)).toInt64) (fun j hj => lup j hj) rfl hP
  have hD : va_D (inW [(o0, .inr (0, [.long (pk a0), .long (pk a1), .long (pkn q w), .int (iI ((w : Nat) : Int))])), (u0, .inl (cJ, 1, .inr (.inl (g))))]) [(o0, .inr (0, [.long (pk a0), .long (pk a1), .long (pkn q w), .int (iI ((w : Nat) : Int))])), (u0, .inl (cJ, 1, .inr (.inl (fun _ => (iI ((md (((rw_ r a0 a1 (i + 1) : Nat) : Int) - ((rw_ r a0 a1 i : Nat) : Int)) : Nat) : Int)).toInt64))))] := va_D_same (w := [(o0, .inr (0, [.long (pk a0), .long (pk a1), .long (pkn q w), .int (iI ((w : Nat) : Int))])), (u0, .inl (cJ, 1, .inr (.inl (vp_updL (g) (iI 0).toNatClampNeg ((iI ((md (((rw_ r a0 a1 (i + 1) : Nat) : Int) - ((rw_ r a0 a1 i : Nat) : Int)) : Nat) : Int)).toInt64)))))]) (Eq.trans (b := [o0, u0]) rfl rfl) hD
  refine lv_goto (tgt := 17) hx hb dL_interval_10 (by decide) ?_
  refine ib_const hx hb dL_interval_17 ?_
  exact W.iret hx hb hr (fun t ht _ => ⟨rfl, by rw [ht]; exact hP, hS.F ht⟩) hS.2.2 dL_interval_18

set_option maxHeartbeats 4000000 in
set_option maxRecDepth 100000 in
theorem mL_hasAllIntervals_ok (l : Launch) (dC : Nat → ClassId) (dI : Nat → Nat → Nat) (cJ : ClassId) (o0 u0 : Nat) (a0 a1 q : Nat → Nat) (w : Nat) (hp0 : Pm a0) (hp1 : Pm a1) (hw : w ≤ 12) (hq : ∀ i, i < w → q i < 12) (hqd : ∀ i j, i < w → j < w → q i = q j → i = j) (g : Nat → Int64) (r : Nat) (hr9 : r < 2) : wr l yL_hasAllIntervals wsL_hasAllIntervals { frames := 4, cells := 0, slots := 0, locals := 89 } [.ref o0, .int (iI ((r : Nat) : Int)), .ref u0] (dC, dI) [(o0, .inr (0, [.long (pk a0), .long (pk a1), .long (pkn q w), .int (iI ((w : Nat) : Int))])), (u0, .inl (cJ, 1, .inr (.inl (g))))] [(cJ, .long)] [(o0, .inr (0, [.long (pk a0), .long (pk a1), .long (pkn q w), .int (iI ((w : Nat) : Int))])), (u0, .inl (cJ, 1, .inr (.inl (fun _ => (if ivsN (rw_ r a0 a1) 11 = 4094 then (1 : Int64) else 0)))))] (some (.int (iI 0))) := by
  refine mt_ofWH (cc := cL_hasAllIntervals) (maxL := 4) (ret := (some .int)) (hh := [(0, 16, 19, 13)]) (by decide +kernel) rfl ?_
  intro P0 e s m args below meth c s₁ B hml hv
  obtain ⟨rfl, hP, hK, hD0⟩ := hv
  have hx := B.exec
  have hb := B.bytes
  have hr := B.returns
  have hts := atoms_spec (ws := wsL_hasAllIntervals) B.pre
  have hown : s.vm.findClass RL = some m.cls := findClass_of_methodNamed B.named
  have hlocks := B.notSynchronized
  have hD : va_D (inW [(o0, .inr (0, [.long (pk a0), .long (pk a1), .long (pkn q w), .int (iI ((w : Nat) : Int))])), (u0, .inl (cJ, 1, .inr (.inl (g))))]) [(o0, .inr (0, [.long (pk a0), .long (pk a1), .long (pkn q w), .int (iI ((w : Nat) : Int))])), (u0, .inl (cJ, 1, .inr (.inl (g))))] := va_D_in hD0
  have hS : va_S (inW [(o0, .inr (0, [.long (pk a0), .long (pk a1), .long (pkn q w), .int (iI ((w : Nat) : Int))])), (u0, .inl (cJ, 1, .inr (.inl (g))))]) s.heap s.heap [] := va_S.rf
  have hl := lv_entry ([.ref o0, .int (iI ((r : Nat) : Int)), .ref u0]) (n := 4) (Nat.le_of_ble_eq_true rfl)
  rw [lg_entry_eq]
  generalize (lg_sl ([.ref o0, .int (iI ((r : Nat) : Int)), .ref u0]) ++ List.replicate (4 - (lg_sl ([.ref o0, .int (iI ((r : Nat) : Int)), .ref u0])).length) Slot.unset).toArray = ls at hl ⊢
  have hl : lv_has ls 4 [(0, .ref o0), (1, .int (iI ((r : Nat) : Int))), (2, .ref u0)] := hl
  refine lv_aload_n hx hb dL_hasAllIntervals_0 rfl (lv_at hl 2 rfl) ?_
  refine ib_const hx hb dL_hasAllIntervals_1 ?_
  refine lv_aload_n hx hb dL_hasAllIntervals_2 rfl (lv_at hl 0 rfl) ?_
  refine lv_iload_n hx hb dL_hasAllIntervals_3 rfl (lv_at hl 1 rfl) ?_
  have hPc : va_P (dC, dI) vwCl [(o0, .inr (0, [.long (pk a0), .long (pk a1), .long (pkn q w), .int (iI ((w : Nat) : Int))]))] s.heap := va_P_l (w1 := [(o0, .inr (0, [.long (pk a0), .long (pk a1), .long (pkn q w), .int (iI ((w : Nat) : Int))]))]) (w2 := [(u0, .inl (cJ, 1, .inr (.inl (g))))]) hP
  have hKc := hK.sub (tys' := []) [] rfl
  refine rd_call (va_runV (As := [.int (iI ((r : Nat) : Int))]) (rest := [.int (iI 0), .ref u0]) ⟨hx, hb, hml, hown, hts⟩ (mX0_hasAllIntervals_ok l dC dI o0 a0 a1 q w hp0 hp1 hw hq hqd r hr9) (cwV 1 hts gL_hasAllIntervals_X0_hasAllIntervals rfl rfl rfl hvX0_hasAllIntervals ⟨Nat.le_of_ble_eq_true rfl, Nat.le_of_ble_eq_true rfl⟩) (bW_pre (ci := 0) (q0 := 0) hKc hPc rfl rfl rfl) rfl rfl hl.1 rfl (lv_room (Nat.le_of_ble_eq_true rfl)) dL_hasAllIntervals_4 ⟨Nat.le_of_ble_eq_true rfl, Nat.le_of_ble_eq_true rfl⟩) ?_
  refine bb_eq (tgt := 14) hx hb dL_hasAllIntervals_7 (by decide) (fun c_7 => ?_) (fun c_7 => ?_)
  · skip
    refine lv_lconst (v := 0) hx hb dL_hasAllIntervals_14 (by decide) ?_
    refine va_last hx hb hK hP hD hS 1 0 rfl rfl vp0 dL_hasAllIntervals_15 (fun H locs hP hD hS => ?_)
    have hP : va_P (dC, dI) vwCl [(o0, .inr (0, [.long (pk a0), .long (pk a1), .long (pkn q w), .int (iI ((w : Nat) : Int))])), (u0, .inl (cJ, 1, .inr (.inl (vp_updL (g) (iI 0).toNatClampNeg (0 : Int64)))))] H := hP
    have hD : va_D (inW [(o0, .inr (0, [.long (pk a0), .long (pk a1), .long (pkn q w), .int (iI ((w : Nat) : Int))])), (u0, .inl (cJ, 1, .inr (.inl (g))))]) [(o0, .inr (0, [.long (pk a0), .long (pk a1), .long (pkn q w), .int (iI ((w : Nat) : Int))])), (u0, .inl (cJ, 1, .inr (.inl (vp_updL (g) (iI 0).toNatClampNeg (0 : Int64)))))] := hD
    have hP : va_P (dC, dI) vwCl [(o0, .inr (0, [.long (pk a0), .long (pk a1), .long (pkn q w), .int (iI ((w : Nat) : Int))])), (u0, .inl (cJ, 1, .inr (.inl (fun _ => (if ivsN (rw_ r a0 a1) 11 = 4094 then (1 : Int64) else 0)))))] H := va_P_larr (q0 := 1) (g := fun _ => (if ivsN (rw_ r a0 a1) 11 = 4094 then (1 : Int64) else 0)) (fun j hj => (lup j hj).trans ((if_neg (by assumption)).symm)) rfl hP
    have hD : va_D (inW [(o0, .inr (0, [.long (pk a0), .long (pk a1), .long (pkn q w), .int (iI ((w : Nat) : Int))])), (u0, .inl (cJ, 1, .inr (.inl (g))))]) [(o0, .inr (0, [.long (pk a0), .long (pk a1), .long (pkn q w), .int (iI ((w : Nat) : Int))])), (u0, .inl (cJ, 1, .inr (.inl (fun _ => (if ivsN (rw_ r a0 a1) 11 = 4094 then (1 : Int64) else 0)))))] := va_D_same (w := [(o0, .inr (0, [.long (pk a0), .long (pk a1), .long (pkn q w), .int (iI ((w : Nat) : Int))])), (u0, .inl (cJ, 1, .inr (.inl (vp_updL (g) (iI 0).toNatClampNeg (0 : Int64)))))]) (Eq.trans (b := [o0, u0]) rfl rfl) hD
    refine lv_goto (tgt := 22) hx hb dL_hasAllIntervals_16 (by decide) ?_
    refine ib_const hx hb dL_hasAllIntervals_22 ?_
    exact W.iret hx hb hr (fun t ht _ => ⟨rfl, by rw [ht]; exact hP, hS.F ht⟩) hS.2.2 dL_hasAllIntervals_23
  · skip
    refine lv_lconst (v := 1) hx hb dL_hasAllIntervals_10 (by decide) ?_
    refine lv_goto (tgt := 15) hx hb dL_hasAllIntervals_11 (by decide) ?_
    refine va_last hx hb hK hP hD hS 1 0 rfl rfl vp0 dL_hasAllIntervals_15 (fun H locs hP hD hS => ?_)
    have hP : va_P (dC, dI) vwCl [(o0, .inr (0, [.long (pk a0), .long (pk a1), .long (pkn q w), .int (iI ((w : Nat) : Int))])), (u0, .inl (cJ, 1, .inr (.inl (vp_updL (g) (iI 0).toNatClampNeg (1 : Int64)))))] H := hP
    have hD : va_D (inW [(o0, .inr (0, [.long (pk a0), .long (pk a1), .long (pkn q w), .int (iI ((w : Nat) : Int))])), (u0, .inl (cJ, 1, .inr (.inl (g))))]) [(o0, .inr (0, [.long (pk a0), .long (pk a1), .long (pkn q w), .int (iI ((w : Nat) : Int))])), (u0, .inl (cJ, 1, .inr (.inl (vp_updL (g) (iI 0).toNatClampNeg (1 : Int64)))))] := hD
    have hP : va_P (dC, dI) vwCl [(o0, .inr (0, [.long (pk a0), .long (pk a1), .long (pkn q w), .int (iI ((w : Nat) : Int))])), (u0, .inl (cJ, 1, .inr (.inl (fun _ => (if ivsN (rw_ r a0 a1) 11 = 4094 then (1 : Int64) else 0)))))] H := va_P_larr (q0 := 1) (g := fun _ => (if ivsN (rw_ r a0 a1) 11 = 4094 then (1 : Int64) else 0)) (fun j hj => (lup j hj).trans ((if_pos (by assumption)).symm)) rfl hP
    have hD : va_D (inW [(o0, .inr (0, [.long (pk a0), .long (pk a1), .long (pkn q w), .int (iI ((w : Nat) : Int))])), (u0, .inl (cJ, 1, .inr (.inl (g))))]) [(o0, .inr (0, [.long (pk a0), .long (pk a1), .long (pkn q w), .int (iI ((w : Nat) : Int))])), (u0, .inl (cJ, 1, .inr (.inl (fun _ => (if ivsN (rw_ r a0 a1) 11 = 4094 then (1 : Int64) else 0)))))] := va_D_same (w := [(o0, .inr (0, [.long (pk a0), .long (pk a1), .long (pkn q w), .int (iI ((w : Nat) : Int))])), (u0, .inl (cJ, 1, .inr (.inl (vp_updL (g) (iI 0).toNatClampNeg (1 : Int64)))))]) (Eq.trans (b := [o0, u0]) rfl rfl) hD
    refine lv_goto (tgt := 22) hx hb dL_hasAllIntervals_16 (by decide) ?_
    refine ib_const hx hb dL_hasAllIntervals_22 ?_
    exact W.iret hx hb hr (fun t ht _ => ⟨rfl, by rw [ht]; exact hP, hS.F ht⟩) hS.2.2 dL_hasAllIntervals_23

set_option maxHeartbeats 4000000 in
set_option maxRecDepth 100000 in
theorem mL_toneOf_ok (l : Launch) (dC : Nat → ClassId) (dI : Nat → Nat → Nat) (cJ : ClassId) (o0 u0 : Nat) (a0 a1 q : Nat → Nat) (w : Nat) (hp0 : Pm a0) (hp1 : Pm a1) (hw : w ≤ 12) (hq : ∀ i, i < w → q i < 12) (hqd : ∀ i j, i < w → j < w → q i = q j → i = j) (g : Nat → Int64) (r k i j : Nat) (hr9 : r < 2) (hk : k < 4) (hi : i < 12) (hj : j < 12) : wr l yL_toneOf wsL_toneOf { frames := 4, cells := 0, slots := 0, locals := 98 } [.ref o0, .int (iI ((r : Nat) : Int)), .int (iI ((k : Nat) : Int)), .int (iI ((i : Nat) : Int)), .int (iI ((j : Nat) : Int)), .ref u0] (dC, dI) [(o0, .inr (0, [.long (pk a0), .long (pk a1), .long (pkn q w), .int (iI ((w : Nat) : Int))])), (u0, .inl (cJ, 1, .inr (.inl (g))))] [(cJ, .long)] [(o0, .inr (0, [.long (pk a0), .long (pk a1), .long (pkn q w), .int (iI ((w : Nat) : Int))])), (u0, .inl (cJ, 1, .inr (.inl (fun _ => (iI ((fm (rw_ r a0 a1) (12 * k + i) j : Nat) : Int)).toInt64))))] (some (.int (iI 0))) := by
  refine mt_ofWH (cc := cL_toneOf) (maxL := 7) (ret := (some .int)) (hh := [(0, 14, 17, 13), (0, 14, 21, 15)]) (by decide +kernel) rfl ?_
  intro P0 e s m args below meth c s₁ B hml hv
  obtain ⟨rfl, hP, hK, hD0⟩ := hv
  have hx := B.exec
  have hb := B.bytes
  have hr := B.returns
  have hts := atoms_spec (ws := wsL_toneOf) B.pre
  have hown : s.vm.findClass RL = some m.cls := findClass_of_methodNamed B.named
  have hlocks := B.notSynchronized
  have hD : va_D (inW [(o0, .inr (0, [.long (pk a0), .long (pk a1), .long (pkn q w), .int (iI ((w : Nat) : Int))])), (u0, .inl (cJ, 1, .inr (.inl (g))))]) [(o0, .inr (0, [.long (pk a0), .long (pk a1), .long (pkn q w), .int (iI ((w : Nat) : Int))])), (u0, .inl (cJ, 1, .inr (.inl (g))))] := va_D_in hD0
  have hS : va_S (inW [(o0, .inr (0, [.long (pk a0), .long (pk a1), .long (pkn q w), .int (iI ((w : Nat) : Int))])), (u0, .inl (cJ, 1, .inr (.inl (g))))]) s.heap s.heap [] := va_S.rf
  have hl := lv_entry ([.ref o0, .int (iI ((r : Nat) : Int)), .int (iI ((k : Nat) : Int)), .int (iI ((i : Nat) : Int)), .int (iI ((j : Nat) : Int)), .ref u0]) (n := 7) (Nat.le_of_ble_eq_true rfl)
  rw [lg_entry_eq]
  generalize (lg_sl ([.ref o0, .int (iI ((r : Nat) : Int)), .int (iI ((k : Nat) : Int)), .int (iI ((i : Nat) : Int)), .int (iI ((j : Nat) : Int)), .ref u0]) ++ List.replicate (7 - (lg_sl ([.ref o0, .int (iI ((r : Nat) : Int)), .int (iI ((k : Nat) : Int)), .int (iI ((i : Nat) : Int)), .int (iI ((j : Nat) : Int)), .ref u0])).length) Slot.unset).toArray = ls at hl ⊢
  have hl : lv_has ls 7 [(0, .ref o0), (1, .int (iI ((r : Nat) : Int))), (2, .int (iI ((k : Nat) : Int))), (3, .int (iI ((i : Nat) : Int))), (4, .int (iI ((j : Nat) : Int))), (5, .ref u0)] := hl
  refine lv_aload hx hb dL_toneOf_0 (lv_at hl 5 rfl) ?_
  refine ib_const hx hb dL_toneOf_2 ?_
  refine lv_aload_n hx hb dL_toneOf_3 rfl (lv_at hl 0 rfl) ?_
  refine lv_iload_n hx hb dL_toneOf_4 rfl (lv_at hl 1 rfl) ?_
  refine lv_iload_n hx hb dL_toneOf_5 rfl (lv_at hl 2 rfl) ?_
  refine lv_iload_n hx hb dL_toneOf_6 rfl (lv_at hl 3 rfl) ?_
  refine lv_iload hx hb dL_toneOf_7 (lv_at hl 4 rfl) ?_
  have hPc : va_P (dC, dI) vwCl [(o0, .inr (0, [.long (pk a0), .long (pk a1), .long (pkn q w), .int (iI ((w : Nat) : Int))]))] s.heap := va_P_l (w1 := [(o0, .inr (0, [.long (pk a0), .long (pk a1), .long (pkn q w), .int (iI ((w : Nat) : Int))]))]) (w2 := [(u0, .inl (cJ, 1, .inr (.inl (g))))]) hP
  have hKc := hK.sub (tys' := []) [] rfl
  refine rd_call (va_runV (As := [.int (iI ((r : Nat) : Int)), .int (iI ((k : Nat) : Int)), .int (iI ((i : Nat) : Int)), .int (iI ((j : Nat) : Int))]) (rest := [.int (iI 0), .ref u0]) ⟨hx, hb, hml, hown, hts⟩ (mX0_toneOf_ok l dC dI o0 a0 a1 q w hp0 hp1 hw hq hqd r k i j hr9 hk hi hj) (cwV 4 hts gL_toneOf_X0_toneOf rfl rfl rfl hvX0_toneOf ⟨Nat.le_of_ble_eq_true rfl, Nat.le_of_ble_eq_true rfl⟩) (bW_pre (ci := 0) (q0 := 0) hKc hPc rfl rfl rfl) rfl rfl hl.1 rfl (lv_room (Nat.le_of_ble_eq_true rfl)) dL_toneOf_9 ⟨Nat.le_of_ble_eq_true rfl, Nat.le_of_ble_eq_true rfl⟩) ?_
  refine lv_i2l hx hb dL_toneOf_12 rfl ?_
  refine va_last hx hb hK hP hD hS 1 0 rfl rfl vp0 dL_toneOf_13 (fun H locs hP hD hS => ?_)
  have hP : va_P (dC, dI) vwCl [(o0, .inr (0, [.long (pk a0), .long (pk a1), .long (pkn q w), .int (iI ((w : Nat) : Int))])), (u0, .inl (cJ, 1, .inr (.inl (vp_updL (g) (iI 0).toNatClampNeg ((iI ((fm (rw_ r a0 a1) (12 * k + i) j : Nat) : Int)).toInt64)))))] H := hP
  have hD : va_D (inW [(o0, .inr (0, [.long (pk a0), .long (pk a1), .long (pkn q w), .int (iI ((w : Nat) : Int))])), (u0, .inl (cJ, 1, .inr (.inl (g))))]) [(o0, .inr (0, [.long (pk a0), .long (pk a1), .long (pkn q w), .int (iI ((w : Nat) : Int))])), (u0, .inl (cJ, 1, .inr (.inl (vp_updL (g) (iI 0).toNatClampNeg ((iI ((fm (rw_ r a0 a1) (12 * k + i) j : Nat) : Int)).toInt64)))))] := hD
  have hP : va_P (dC, dI) vwCl [(o0, .inr (0, [.long (pk a0), .long (pk a1), .long (pkn q w), .int (iI ((w : Nat) : Int))])), (u0, .inl (cJ, 1, .inr (.inl (fun _ => (iI ((fm (rw_ r a0 a1) (12 * k + i) j : Nat) : Int)).toInt64))))] H := va_P_larr (q0 := 1) (g := fun _ => (iI ((fm (rw_ r a0 a1) (12 * k + i) j : Nat) : Int)).toInt64) (fun j hj => lup j hj) rfl hP
  have hD : va_D (inW [(o0, .inr (0, [.long (pk a0), .long (pk a1), .long (pkn q w), .int (iI ((w : Nat) : Int))])), (u0, .inl (cJ, 1, .inr (.inl (g))))]) [(o0, .inr (0, [.long (pk a0), .long (pk a1), .long (pkn q w), .int (iI ((w : Nat) : Int))])), (u0, .inl (cJ, 1, .inr (.inl (fun _ => (iI ((fm (rw_ r a0 a1) (12 * k + i) j : Nat) : Int)).toInt64))))] := va_D_same (w := [(o0, .inr (0, [.long (pk a0), .long (pk a1), .long (pkn q w), .int (iI ((w : Nat) : Int))])), (u0, .inl (cJ, 1, .inr (.inl (vp_updL (g) (iI 0).toNatClampNeg ((iI ((fm (rw_ r a0 a1) (12 * k + i) j : Nat) : Int)).toInt64)))))]) (Eq.trans (b := [o0, u0]) rfl rfl) hD
  refine lv_goto (tgt := 25) hx hb dL_toneOf_14 (by decide) ?_
  refine ib_const hx hb dL_toneOf_25 ?_
  exact W.iret hx hb hr (fun t ht _ => ⟨rfl, by rw [ht]; exact hP, hS.F ht⟩) hS.2.2 dL_toneOf_26

set_option maxHeartbeats 4000000 in
set_option maxRecDepth 100000 in
theorem mL_matrix_ok (l : Launch) (dC : Nat → ClassId) (dI : Nat → Nat → Nat) (cJ : ClassId) (o0 u0 : Nat) (a0 a1 q : Nat → Nat) (w : Nat) (hp0 : Pm a0) (hp1 : Pm a1) (hw : w ≤ 12) (hq : ∀ i, i < w → q i < 12) (hqd : ∀ i j, i < w → j < w → q i = q j → i = j) (g : Nat → Int64) (r i j : Nat) (hr9 : r < 2) (hi : i < 12) (hj : j < 12) : wr l yL_matrix wsL_matrix { frames := 3, cells := 0, slots := 0, locals := 69 } [.ref o0, .int (iI ((r : Nat) : Int)), .int (iI ((i : Nat) : Int)), .int (iI ((j : Nat) : Int)), .ref u0] (dC, dI) [(o0, .inr (0, [.long (pk a0), .long (pk a1), .long (pkn q w), .int (iI ((w : Nat) : Int))])), (u0, .inl (cJ, 1, .inr (.inl (g))))] [(cJ, .long)] [(o0, .inr (0, [.long (pk a0), .long (pk a1), .long (pkn q w), .int (iI ((w : Nat) : Int))])), (u0, .inl (cJ, 1, .inr (.inl (fun _ => (iI ((fm (rw_ r a0 a1) (12 * 0 + fm (rw_ r a0 a1) (12 * 1 + rw_ r a0 a1 0) i) j : Nat) : Int)).toInt64))))] (some (.int (iI 0))) := by
  refine mt_ofWH (cc := cL_matrix) (maxL := 6) (ret := (some .int)) (hh := [(0, 12, 15, 13)]) (by decide +kernel) rfl ?_
  intro P0 e s m args below meth c s₁ B hml hv
  obtain ⟨rfl, hP, hK, hD0⟩ := hv
  have hx := B.exec
  have hb := B.bytes
  have hr := B.returns
  have hts := atoms_spec (ws := wsL_matrix) B.pre
  have hown : s.vm.findClass RL = some m.cls := findClass_of_methodNamed B.named
  have hlocks := B.notSynchronized
  have hD : va_D (inW [(o0, .inr (0, [.long (pk a0), .long (pk a1), .long (pkn q w), .int (iI ((w : Nat) : Int))])), (u0, .inl (cJ, 1, .inr (.inl (g))))]) [(o0, .inr (0, [.long (pk a0), .long (pk a1), .long (pkn q w), .int (iI ((w : Nat) : Int))])), (u0, .inl (cJ, 1, .inr (.inl (g))))] := va_D_in hD0
  have hS : va_S (inW [(o0, .inr (0, [.long (pk a0), .long (pk a1), .long (pkn q w), .int (iI ((w : Nat) : Int))])), (u0, .inl (cJ, 1, .inr (.inl (g))))]) s.heap s.heap [] := va_S.rf
  have hl := lv_entry ([.ref o0, .int (iI ((r : Nat) : Int)), .int (iI ((i : Nat) : Int)), .int (iI ((j : Nat) : Int)), .ref u0]) (n := 6) (Nat.le_of_ble_eq_true rfl)
  rw [lg_entry_eq]
  generalize (lg_sl ([.ref o0, .int (iI ((r : Nat) : Int)), .int (iI ((i : Nat) : Int)), .int (iI ((j : Nat) : Int)), .ref u0]) ++ List.replicate (6 - (lg_sl ([.ref o0, .int (iI ((r : Nat) : Int)), .int (iI ((i : Nat) : Int)), .int (iI ((j : Nat) : Int)), .ref u0])).length) Slot.unset).toArray = ls at hl ⊢
  have hl : lv_has ls 6 [(0, .ref o0), (1, .int (iI ((r : Nat) : Int))), (2, .int (iI ((i : Nat) : Int))), (3, .int (iI ((j : Nat) : Int))), (4, .ref u0)] := hl
  refine lv_aload hx hb dL_matrix_0 (lv_at hl 4 rfl) ?_
  refine ib_const hx hb dL_matrix_2 ?_
  refine lv_aload_n hx hb dL_matrix_3 rfl (lv_at hl 0 rfl) ?_
  refine lv_iload_n hx hb dL_matrix_4 rfl (lv_at hl 1 rfl) ?_
  refine lv_iload_n hx hb dL_matrix_5 rfl (lv_at hl 2 rfl) ?_
  refine lv_iload_n hx hb dL_matrix_6 rfl (lv_at hl 3 rfl) ?_
  have hPc : va_P (dC, dI) vwCl [(o0, .inr (0, [.long (pk a0), .long (pk a1), .long (pkn q w), .int (iI ((w : Nat) : Int))]))] s.heap := va_P_l (w1 := [(o0, .inr (0, [.long (pk a0), .long (pk a1), .long (pkn q w), .int (iI ((w : Nat) : Int))]))]) (w2 := [(u0, .inl (cJ, 1, .inr (.inl (g))))]) hP
  have hKc := hK.sub (tys' := []) [] rfl
  refine rd_call (va_runV (As := [.int (iI ((r : Nat) : Int)), .int (iI ((i : Nat) : Int)), .int (iI ((j : Nat) : Int))]) (rest := [.int (iI 0), .ref u0]) ⟨hx, hb, hml, hown, hts⟩ (mX0_matrix_ok l dC dI o0 a0 a1 q w hp0 hp1 hw hq hqd r i j hr9 hi hj) (cwV 3 hts gL_matrix_X0_matrix rfl rfl rfl hvX0_matrix ⟨Nat.le_of_ble_eq_true rfl, Nat.le_of_ble_eq_true rfl⟩) (bW_pre (ci := 0) (q0 := 0) hKc hPc rfl rfl rfl) rfl rfl hl.1 rfl (lv_room (Nat.le_of_ble_eq_true rfl)) dL_matrix_7 ⟨Nat.le_of_ble_eq_true rfl, Nat.le_of_ble_eq_true rfl⟩) ?_
  refine lv_i2l hx hb dL_matrix_10 rfl ?_
  refine va_last hx hb hK hP hD hS 1 0 rfl rfl vp0 dL_matrix_11 (fun H locs hP hD hS => ?_)
  have hP : va_P (dC, dI) vwCl [(o0, .inr (0, [.long (pk a0), .long (pk a1), .long (pkn q w), .int (iI ((w : Nat) : Int))])), (u0, .inl (cJ, 1, .inr (.inl (vp_updL (g) (iI 0).toNatClampNeg ((iI ((fm (rw_ r a0 a1) (12 * 0 + fm (rw_ r a0 a1) (12 * 1 + rw_ r a0 a1 0) i) j : Nat) : Int)).toInt64)))))] H := hP
  have hD : va_D (inW [(o0, .inr (0, [.long (pk a0), .long (pk a1), .long (pkn q w), .int (iI ((w : Nat) : Int))])), (u0, .inl (cJ, 1, .inr (.inl (g))))]) [(o0, .inr (0, [.long (pk a0), .long (pk a1), .long (pkn q w), .int (iI ((w : Nat) : Int))])), (u0, .inl (cJ, 1, .inr (.inl (vp_updL (g) (iI 0).toNatClampNeg ((iI ((fm (rw_ r a0 a1) (12 * 0 + fm (rw_ r a0 a1) (12 * 1 + rw_ r a0 a1 0) i) j : Nat) : Int)).toInt64)))))] := hD
  have hP : va_P (dC, dI) vwCl [(o0, .inr (0, [.long (pk a0), .long (pk a1), .long (pkn q w), .int (iI ((w : Nat) : Int))])), (u0, .inl (cJ, 1, .inr (.inl (fun _ => (iI ((fm (rw_ r a0 a1) (12 * 0 + fm (rw_ r a0 a1) (12 * 1 + rw_ r a0 a1 0) i) j : Nat) : Int)).toInt64))))] H := va_P_larr (q0 := 1) (g := fun _ => (iI ((fm (rw_ r a0 a1) (12 * 0 + fm (rw_ r a0 a1) (12 * 1 + rw_ r a0 a1 0) i) j : Nat) : Int)).toInt64) (fun j hj => lup j hj) rfl hP
  have hD : va_D (inW [(o0, .inr (0, [.long (pk a0), .long (pk a1), .long (pkn q w), .int (iI ((w : Nat) : Int))])), (u0, .inl (cJ, 1, .inr (.inl (g))))]) [(o0, .inr (0, [.long (pk a0), .long (pk a1), .long (pkn q w), .int (iI ((w : Nat) : Int))])), (u0, .inl (cJ, 1, .inr (.inl (fun _ => (iI ((fm (rw_ r a0 a1) (12 * 0 + fm (rw_ r a0 a1) (12 * 1 + rw_ r a0 a1 0) i) j : Nat) : Int)).toInt64))))] := va_D_same (w := [(o0, .inr (0, [.long (pk a0), .long (pk a1), .long (pkn q w), .int (iI ((w : Nat) : Int))])), (u0, .inl (cJ, 1, .inr (.inl (vp_updL (g) (iI 0).toNatClampNeg ((iI ((fm (rw_ r a0 a1) (12 * 0 + fm (rw_ r a0 a1) (12 * 1 + rw_ r a0 a1 0) i) j : Nat) : Int)).toInt64)))))]) (Eq.trans (b := [o0, u0]) rfl rfl) hD
  refine lv_goto (tgt := 19) hx hb dL_matrix_12 (by decide) ?_
  refine ib_const hx hb dL_matrix_19 ?_
  exact W.iret hx hb hr (fun t ht _ => ⟨rfl, by rw [ht]; exact hP, hS.F ht⟩) hS.2.2 dL_matrix_20

set_option maxHeartbeats 4000000 in
set_option maxRecDepth 100000 in
theorem mL_differentForms_ok (l : Launch) (dC : Nat → ClassId) (dI : Nat → Nat → Nat) (cJ : ClassId) (o0 u0 : Nat) (a0 a1 q : Nat → Nat) (w : Nat) (hp0 : Pm a0) (hp1 : Pm a1) (hw : w ≤ 12) (hq : ∀ i, i < w → q i < 12) (hqd : ∀ i j, i < w → j < w → q i = q j → i = j) (g : Nat → Int64) (r : Nat) (hr9 : r < 2) : wr l yL_differentForms wsL_differentForms { frames := 4, cells := 0, slots := 0, locals := 100 } [.ref o0, .int (iI ((r : Nat) : Int)), .ref u0] (dC, dI) [(o0, .inr (0, [.long (pk a0), .long (pk a1), .long (pkn q w), .int (iI ((w : Nat) : Int))])), (u0, .inl (cJ, 1, .inr (.inl (g))))] [(cJ, .long)] [(o0, .inr (0, [.long (pk a0), .long (pk a1), .long (pkn q w), .int (iI ((w : Nat) : Int))])), (u0, .inl (cJ, 1, .inr (.inl (fun _ => (iI ((dfN (rw_ r a0 a1) 48 : Nat) : Int)).toInt64))))] (some (.int (iI 0))) := by
  refine mt_ofWH (cc := cL_differentForms) (maxL := 4) (ret := (some .int)) (hh := [(0, 9, 12, 13)]) (by decide +kernel) rfl ?_
  intro P0 e s m args below meth c s₁ B hml hv
  obtain ⟨rfl, hP, hK, hD0⟩ := hv
  have hx := B.exec
  have hb := B.bytes
  have hr := B.returns
  have hts := atoms_spec (ws := wsL_differentForms) B.pre
  have hown : s.vm.findClass RL = some m.cls := findClass_of_methodNamed B.named
  have hlocks := B.notSynchronized
  have hD : va_D (inW [(o0, .inr (0, [.long (pk a0), .long (pk a1), .long (pkn q w), .int (iI ((w : Nat) : Int))])), (u0, .inl (cJ, 1, .inr (.inl (g))))]) [(o0, .inr (0, [.long (pk a0), .long (pk a1), .long (pkn q w), .int (iI ((w : Nat) : Int))])), (u0, .inl (cJ, 1, .inr (.inl (g))))] := va_D_in hD0
  have hS : va_S (inW [(o0, .inr (0, [.long (pk a0), .long (pk a1), .long (pkn q w), .int (iI ((w : Nat) : Int))])), (u0, .inl (cJ, 1, .inr (.inl (g))))]) s.heap s.heap [] := va_S.rf
  have hl := lv_entry ([.ref o0, .int (iI ((r : Nat) : Int)), .ref u0]) (n := 4) (Nat.le_of_ble_eq_true rfl)
  rw [lg_entry_eq]
  generalize (lg_sl ([.ref o0, .int (iI ((r : Nat) : Int)), .ref u0]) ++ List.replicate (4 - (lg_sl ([.ref o0, .int (iI ((r : Nat) : Int)), .ref u0])).length) Slot.unset).toArray = ls at hl ⊢
  have hl : lv_has ls 4 [(0, .ref o0), (1, .int (iI ((r : Nat) : Int))), (2, .ref u0)] := hl
  refine lv_aload_n hx hb dL_differentForms_0 rfl (lv_at hl 2 rfl) ?_
  refine ib_const hx hb dL_differentForms_1 ?_
  refine lv_aload_n hx hb dL_differentForms_2 rfl (lv_at hl 0 rfl) ?_
  refine lv_iload_n hx hb dL_differentForms_3 rfl (lv_at hl 1 rfl) ?_
  have hPc : va_P (dC, dI) vwCl [(o0, .inr (0, [.long (pk a0), .long (pk a1), .long (pkn q w), .int (iI ((w : Nat) : Int))]))] s.heap := va_P_l (w1 := [(o0, .inr (0, [.long (pk a0), .long (pk a1), .long (pkn q w), .int (iI ((w : Nat) : Int))]))]) (w2 := [(u0, .inl (cJ, 1, .inr (.inl (g))))]) hP
  have hKc := hK.sub (tys' := []) [] rfl
  refine rd_call (va_runV (As := [.int (iI ((r : Nat) : Int))]) (rest := [.int (iI 0), .ref u0]) ⟨hx, hb, hml, hown, hts⟩ (mX0_differentForms_ok l dC dI o0 a0 a1 q w hp0 hp1 hw hq hqd r hr9) (cwV 1 hts gL_differentForms_X0_differentForms rfl rfl rfl hvX0_differentForms ⟨Nat.le_of_ble_eq_true rfl, Nat.le_of_ble_eq_true rfl⟩) (bW_pre (ci := 0) (q0 := 0) hKc hPc rfl rfl rfl) rfl rfl hl.1 rfl (lv_room (Nat.le_of_ble_eq_true rfl)) dL_differentForms_4 ⟨Nat.le_of_ble_eq_true rfl, Nat.le_of_ble_eq_true rfl⟩) ?_
  refine lv_i2l hx hb dL_differentForms_7 rfl ?_
  refine va_last hx hb hK hP hD hS 1 0 rfl rfl vp0 dL_differentForms_8 (fun H locs hP hD hS => ?_)
  have hP : va_P (dC, dI) vwCl [(o0, .inr (0, [.long (pk a0), .long (pk a1), .long (pkn q w), .int (iI ((w : Nat) : Int))])), (u0, .inl (cJ, 1, .inr (.inl (vp_updL (g) (iI 0).toNatClampNeg ((iI ((dfN (rw_ r a0 a1) 48 : Nat) : Int)).toInt64)))))] H := hP
  have hD : va_D (inW [(o0, .inr (0, [.long (pk a0), .long (pk a1), .long (pkn q w), .int (iI ((w : Nat) : Int))])), (u0, .inl (cJ, 1, .inr (.inl (g))))]) [(o0, .inr (0, [.long (pk a0), .long (pk a1), .long (pkn q w), .int (iI ((w : Nat) : Int))])), (u0, .inl (cJ, 1, .inr (.inl (vp_updL (g) (iI 0).toNatClampNeg ((iI ((dfN (rw_ r a0 a1) 48 : Nat) : Int)).toInt64)))))] := hD
  have hP : va_P (dC, dI) vwCl [(o0, .inr (0, [.long (pk a0), .long (pk a1), .long (pkn q w), .int (iI ((w : Nat) : Int))])), (u0, .inl (cJ, 1, .inr (.inl (fun _ => (iI ((dfN (rw_ r a0 a1) 48 : Nat) : Int)).toInt64))))] H := va_P_larr (q0 := 1) (g := fun _ => (iI ((dfN (rw_ r a0 a1) 48 : Nat) : Int)).toInt64) (fun j hj => lup j hj) rfl hP
  have hD : va_D (inW [(o0, .inr (0, [.long (pk a0), .long (pk a1), .long (pkn q w), .int (iI ((w : Nat) : Int))])), (u0, .inl (cJ, 1, .inr (.inl (g))))]) [(o0, .inr (0, [.long (pk a0), .long (pk a1), .long (pkn q w), .int (iI ((w : Nat) : Int))])), (u0, .inl (cJ, 1, .inr (.inl (fun _ => (iI ((dfN (rw_ r a0 a1) 48 : Nat) : Int)).toInt64))))] := va_D_same (w := [(o0, .inr (0, [.long (pk a0), .long (pk a1), .long (pkn q w), .int (iI ((w : Nat) : Int))])), (u0, .inl (cJ, 1, .inr (.inl (vp_updL (g) (iI 0).toNatClampNeg ((iI ((dfN (rw_ r a0 a1) 48 : Nat) : Int)).toInt64)))))]) (Eq.trans (b := [o0, u0]) rfl rfl) hD
  refine lv_goto (tgt := 15) hx hb dL_differentForms_9 (by decide) ?_
  refine ib_const hx hb dL_differentForms_15 ?_
  exact W.iret hx hb hr (fun t ht _ => ⟨rfl, by rw [ht]; exact hP, hS.F ht⟩) hS.2.2 dL_differentForms_16

set_option maxHeartbeats 4000000 in
set_option maxRecDepth 100000 in
theorem mL_formOfOther_ok (l : Launch) (dC : Nat → ClassId) (dI : Nat → Nat → Nat) (cJ : ClassId) (o0 u0 : Nat) (a0 a1 q : Nat → Nat) (w : Nat) (hp0 : Pm a0) (hp1 : Pm a1) (hw : w ≤ 12) (hq : ∀ i, i < w → q i < 12) (hqd : ∀ i j, i < w → j < w → q i = q j → i = j) (g : Nat → Int64) (r : Nat) (hr9 : r < 2) : wr l yL_formOfOther wsL_formOfOther { frames := 4, cells := 0, slots := 0, locals := 100 } [.ref o0, .int (iI ((r : Nat) : Int)), .ref u0] (dC, dI) [(o0, .inr (0, [.long (pk a0), .long (pk a1), .long (pkn q w), .int (iI ((w : Nat) : Int))])), (u0, .inl (cJ, 1, .inr (.inl (g))))] [(cJ, .long)] [(o0, .inr (0, [.long (pk a0), .long (pk a1), .long (pkn q w), .int (iI ((w : Nat) : Int))])), (u0, .inl (cJ, 1, .inr (.inl (fun _ => (iI (foF (rw_ r a0 a1) (rw_ (1 - r) a0 a1))).toInt64))))] (some (.int (iI 0))) := by
  refine mt_ofWH (cc := cL_formOfOther) (maxL := 4) (ret := (some .int)) (hh := [(0, 9, 12, 13)]) (by decide +kernel) rfl ?_
  intro P0 e s m args below meth c s₁ B hml hv
  obtain ⟨rfl, hP, hK, hD0⟩ := hv
  have hx := B.exec
  have hb := B.bytes
  have hr := B.returns
  have hts := atoms_spec (ws := wsL_formOfOther) B.pre
  have hown : s.vm.findClass RL = some m.cls := findClass_of_methodNamed B.named
  have hlocks := B.notSynchronized
  have hD : va_D (inW [(o0, .inr (0, [.long (pk a0), .long (pk a1), .long (pkn q w), .int (iI ((w : Nat) : Int))])), (u0, .inl (cJ, 1, .inr (.inl (g))))]) [(o0, .inr (0, [.long (pk a0), .long (pk a1), .long (pkn q w), .int (iI ((w : Nat) : Int))])), (u0, .inl (cJ, 1, .inr (.inl (g))))] := va_D_in hD0
  have hS : va_S (inW [(o0, .inr (0, [.long (pk a0), .long (pk a1), .long (pkn q w), .int (iI ((w : Nat) : Int))])), (u0, .inl (cJ, 1, .inr (.inl (g))))]) s.heap s.heap [] := va_S.rf
  have hl := lv_entry ([.ref o0, .int (iI ((r : Nat) : Int)), .ref u0]) (n := 4) (Nat.le_of_ble_eq_true rfl)
  rw [lg_entry_eq]
  generalize (lg_sl ([.ref o0, .int (iI ((r : Nat) : Int)), .ref u0]) ++ List.replicate (4 - (lg_sl ([.ref o0, .int (iI ((r : Nat) : Int)), .ref u0])).length) Slot.unset).toArray = ls at hl ⊢
  have hl : lv_has ls 4 [(0, .ref o0), (1, .int (iI ((r : Nat) : Int))), (2, .ref u0)] := hl
  refine lv_aload_n hx hb dL_formOfOther_0 rfl (lv_at hl 2 rfl) ?_
  refine ib_const hx hb dL_formOfOther_1 ?_
  refine lv_aload_n hx hb dL_formOfOther_2 rfl (lv_at hl 0 rfl) ?_
  refine lv_iload_n hx hb dL_formOfOther_3 rfl (lv_at hl 1 rfl) ?_
  have hPc : va_P (dC, dI) vwCl [(o0, .inr (0, [.long (pk a0), .long (pk a1), .long (pkn q w), .int (iI ((w : Nat) : Int))]))] s.heap := va_P_l (w1 := [(o0, .inr (0, [.long (pk a0), .long (pk a1), .long (pkn q w), .int (iI ((w : Nat) : Int))]))]) (w2 := [(u0, .inl (cJ, 1, .inr (.inl (g))))]) hP
  have hKc := hK.sub (tys' := []) [] rfl
  refine rd_call (va_runV (As := [.int (iI ((r : Nat) : Int))]) (rest := [.int (iI 0), .ref u0]) ⟨hx, hb, hml, hown, hts⟩ (mX0_formOfOther_ok l dC dI o0 a0 a1 q w hp0 hp1 hw hq hqd r hr9) (cwV 1 hts gL_formOfOther_X0_formOfOther rfl rfl rfl hvX0_formOfOther ⟨Nat.le_of_ble_eq_true rfl, Nat.le_of_ble_eq_true rfl⟩) (bW_pre (ci := 0) (q0 := 0) hKc hPc rfl rfl rfl) rfl rfl hl.1 rfl (lv_room (Nat.le_of_ble_eq_true rfl)) dL_formOfOther_4 ⟨Nat.le_of_ble_eq_true rfl, Nat.le_of_ble_eq_true rfl⟩) ?_
  refine lv_i2l hx hb dL_formOfOther_7 rfl ?_
  refine va_last hx hb hK hP hD hS 1 0 rfl rfl vp0 dL_formOfOther_8 (fun H locs hP hD hS => ?_)
  have hP : va_P (dC, dI) vwCl [(o0, .inr (0, [.long (pk a0), .long (pk a1), .long (pkn q w), .int (iI ((w : Nat) : Int))])), (u0, .inl (cJ, 1, .inr (.inl (vp_updL (g) (iI 0).toNatClampNeg ((iI (foF (rw_ r a0 a1) (rw_ (1 - r) a0 a1))).toInt64)))))] H := hP
  have hD : va_D (inW [(o0, .inr (0, [.long (pk a0), .long (pk a1), .long (pkn q w), .int (iI ((w : Nat) : Int))])), (u0, .inl (cJ, 1, .inr (.inl (g))))]) [(o0, .inr (0, [.long (pk a0), .long (pk a1), .long (pkn q w), .int (iI ((w : Nat) : Int))])), (u0, .inl (cJ, 1, .inr (.inl (vp_updL (g) (iI 0).toNatClampNeg ((iI (foF (rw_ r a0 a1) (rw_ (1 - r) a0 a1))).toInt64)))))] := hD
  have hP : va_P (dC, dI) vwCl [(o0, .inr (0, [.long (pk a0), .long (pk a1), .long (pkn q w), .int (iI ((w : Nat) : Int))])), (u0, .inl (cJ, 1, .inr (.inl (fun _ => (iI (foF (rw_ r a0 a1) (rw_ (1 - r) a0 a1))).toInt64))))] H := va_P_larr (q0 := 1) (g := fun _ => (iI (foF (rw_ r a0 a1) (rw_ (1 - r) a0 a1))).toInt64) (fun j hj => lup j hj) rfl hP
  have hD : va_D (inW [(o0, .inr (0, [.long (pk a0), .long (pk a1), .long (pkn q w), .int (iI ((w : Nat) : Int))])), (u0, .inl (cJ, 1, .inr (.inl (g))))]) [(o0, .inr (0, [.long (pk a0), .long (pk a1), .long (pkn q w), .int (iI ((w : Nat) : Int))])), (u0, .inl (cJ, 1, .inr (.inl (fun _ => (iI (foF (rw_ r a0 a1) (rw_ (1 - r) a0 a1))).toInt64))))] := va_D_same (w := [(o0, .inr (0, [.long (pk a0), .long (pk a1), .long (pkn q w), .int (iI ((w : Nat) : Int))])), (u0, .inl (cJ, 1, .inr (.inl (vp_updL (g) (iI 0).toNatClampNeg ((iI (foF (rw_ r a0 a1) (rw_ (1 - r) a0 a1))).toInt64)))))]) (Eq.trans (b := [o0, u0]) rfl rfl) hD
  refine lv_goto (tgt := 15) hx hb dL_formOfOther_9 (by decide) ?_
  refine ib_const hx hb dL_formOfOther_15 ?_
  exact W.iret hx hb hr (fun t ht _ => ⟨rfl, by rw [ht]; exact hP, hS.F ht⟩) hS.2.2 dL_formOfOther_16

set_option maxHeartbeats 4000000 in
set_option maxRecDepth 100000 in
theorem mL_segment_ok (l : Launch) (dC : Nat → ClassId) (dI : Nat → Nat → Nat) (cJ : ClassId) (o0 u0 : Nat) (a0 a1 q : Nat → Nat) (w : Nat) (hp0 : Pm a0) (hp1 : Pm a1) (hw : w ≤ 12) (hq : ∀ i, i < w → q i < 12) (hqd : ∀ i j, i < w → j < w → q i = q j → i = j) (g : Nat → Int64) (r i k : Nat) (hr9 : r < 2) (hi : i < 12) (hk1 : 1 ≤ k) (hik : i + k ≤ 12) : wr l yL_segment wsL_segment { frames := 3, cells := 0, slots := 0, locals := 70 } [.ref o0, .int (iI ((r : Nat) : Int)), .int (iI ((i : Nat) : Int)), .int (iI ((k : Nat) : Int)), .ref u0] (dC, dI) [(o0, .inr (0, [.long (pk a0), .long (pk a1), .long (pkn q w), .int (iI ((w : Nat) : Int))])), (u0, .inl (cJ, 1, .inr (.inl (g))))] [(cJ, .long)] [(o0, .inr (0, [.long (pk a0), .long (pk a1), .long (pkn q w), .int (iI ((w : Nat) : Int))])), (u0, .inl (cJ, 1, .inr (.inl (fun _ => (iI ((setF (fm (rw_ r a0 a1) (rw_ r a0 a1 0)) i k : Nat) : Int)).toInt64))))] (some (.int (iI 0))) := by
  refine mt_ofWH (cc := cL_segment) (maxL := 6) (ret := (some .int)) (hh := [(0, 12, 15, 13), (0, 12, 19, 15)]) (by decide +kernel) rfl ?_
  intro P0 e s m args below meth c s₁ B hml hv
  obtain ⟨rfl, hP, hK, hD0⟩ := hv
  have hx := B.exec
  have hb := B.bytes
  have hr := B.returns
  have hts := atoms_spec (ws := wsL_segment) B.pre
  have hown : s.vm.findClass RL = some m.cls := findClass_of_methodNamed B.named
  have hlocks := B.notSynchronized
  have hD : va_D (inW [(o0, .inr (0, [.long (pk a0), .long (pk a1), .long (pkn q w), .int (iI ((w : Nat) : Int))])), (u0, .inl (cJ, 1, .inr (.inl (g))))]) [(o0, .inr (0, [.long (pk a0), .long (pk a1), .long (pkn q w), .int (iI ((w : Nat) : Int))])), (u0, .inl (cJ, 1, .inr (.inl (g))))] := va_D_in hD0
  have hS : va_S (inW [(o0, .inr (0, [.long (pk a0), .long (pk a1), .long (pkn q w), .int (iI ((w : Nat) : Int))])), (u0, .inl (cJ, 1, .inr (.inl (g))))]) s.heap s.heap [] := va_S.rf
  have hl := lv_entry ([.ref o0, .int (iI ((r : Nat) : Int)), .int (iI ((i : Nat) : Int)), .int (iI ((k : Nat) : Int)), .ref u0]) (n := 6) (Nat.le_of_ble_eq_true rfl)
  rw [lg_entry_eq]
  generalize (lg_sl ([.ref o0, .int (iI ((r : Nat) : Int)), .int (iI ((i : Nat) : Int)), .int (iI ((k : Nat) : Int)), .ref u0]) ++ List.replicate (6 - (lg_sl ([.ref o0, .int (iI ((r : Nat) : Int)), .int (iI ((i : Nat) : Int)), .int (iI ((k : Nat) : Int)), .ref u0])).length) Slot.unset).toArray = ls at hl ⊢
  have hl : lv_has ls 6 [(0, .ref o0), (1, .int (iI ((r : Nat) : Int))), (2, .int (iI ((i : Nat) : Int))), (3, .int (iI ((k : Nat) : Int))), (4, .ref u0)] := hl
  refine lv_aload hx hb dL_segment_0 (lv_at hl 4 rfl) ?_
  refine ib_const hx hb dL_segment_2 ?_
  refine lv_aload_n hx hb dL_segment_3 rfl (lv_at hl 0 rfl) ?_
  refine lv_iload_n hx hb dL_segment_4 rfl (lv_at hl 1 rfl) ?_
  refine lv_iload_n hx hb dL_segment_5 rfl (lv_at hl 2 rfl) ?_
  refine lv_iload_n hx hb dL_segment_6 rfl (lv_at hl 3 rfl) ?_
  have hPc : va_P (dC, dI) vwCl [(o0, .inr (0, [.long (pk a0), .long (pk a1), .long (pkn q w), .int (iI ((w : Nat) : Int))]))] s.heap := va_P_l (w1 := [(o0, .inr (0, [.long (pk a0), .long (pk a1), .long (pkn q w), .int (iI ((w : Nat) : Int))]))]) (w2 := [(u0, .inl (cJ, 1, .inr (.inl (g))))]) hP
  have hKc := hK.sub (tys' := []) [] rfl
  refine rd_call (va_runV (As := [.int (iI ((r : Nat) : Int)), .int (iI ((i : Nat) : Int)), .int (iI ((k : Nat) : Int))]) (rest := [.int (iI 0), .ref u0]) ⟨hx, hb, hml, hown, hts⟩ (mX0_segment_ok l dC dI o0 a0 a1 q w hp0 hp1 hw hq hqd r i k hr9 hi hk1 hik) (cwV 3 hts gL_segment_X0_segment rfl rfl rfl hvX0_segment ⟨Nat.le_of_ble_eq_true rfl, Nat.le_of_ble_eq_true rfl⟩) (bW_pre (ci := 0) (q0 := 0) hKc hPc rfl rfl rfl) rfl rfl hl.1 rfl (lv_room (Nat.le_of_ble_eq_true rfl)) dL_segment_7 ⟨Nat.le_of_ble_eq_true rfl, Nat.le_of_ble_eq_true rfl⟩) ?_
  refine lv_i2l hx hb dL_segment_10 rfl ?_
  refine va_last hx hb hK hP hD hS 1 0 rfl rfl vp0 dL_segment_11 (fun H locs hP hD hS => ?_)
  have hP : va_P (dC, dI) vwCl [(o0, .inr (0, [.long (pk a0), .long (pk a1), .long (pkn q w), .int (iI ((w : Nat) : Int))])), (u0, .inl (cJ, 1, .inr (.inl (vp_updL (g) (iI 0).toNatClampNeg ((iI ((setF (fm (rw_ r a0 a1) (rw_ r a0 a1 0)) i k : Nat) : Int)).toInt64)))))] H := hP
  have hD : va_D (inW [(o0, .inr (0, [.long (pk a0), .long (pk a1), .long (pkn q w), .int (iI ((w : Nat) : Int))])), (u0, .inl (cJ, 1, .inr (.inl (g))))]) [(o0, .inr (0, [.long (pk a0), .long (pk a1), .long (pkn q w), .int (iI ((w : Nat) : Int))])), (u0, .inl (cJ, 1, .inr (.inl (vp_updL (g) (iI 0).toNatClampNeg ((iI ((setF (fm (rw_ r a0 a1) (rw_ r a0 a1 0)) i k : Nat) : Int)).toInt64)))))] := hD
  have hP : va_P (dC, dI) vwCl [(o0, .inr (0, [.long (pk a0), .long (pk a1), .long (pkn q w), .int (iI ((w : Nat) : Int))])), (u0, .inl (cJ, 1, .inr (.inl (fun _ => (iI ((setF (fm (rw_ r a0 a1) (rw_ r a0 a1 0)) i k : Nat) : Int)).toInt64))))] H := va_P_larr (q0 := 1) (g := fun _ => (iI ((setF (fm (rw_ r a0 a1) (rw_ r a0 a1 0)) i k : Nat) : Int)).toInt64) (fun j hj => lup j hj) rfl hP
  have hD : va_D (inW [(o0, .inr (0, [.long (pk a0), .long (pk a1), .long (pkn q w), .int (iI ((w : Nat) : Int))])), (u0, .inl (cJ, 1, .inr (.inl (g))))]) [(o0, .inr (0, [.long (pk a0), .long (pk a1), .long (pkn q w), .int (iI ((w : Nat) : Int))])), (u0, .inl (cJ, 1, .inr (.inl (fun _ => (iI ((setF (fm (rw_ r a0 a1) (rw_ r a0 a1 0)) i k : Nat) : Int)).toInt64))))] := va_D_same (w := [(o0, .inr (0, [.long (pk a0), .long (pk a1), .long (pkn q w), .int (iI ((w : Nat) : Int))])), (u0, .inl (cJ, 1, .inr (.inl (vp_updL (g) (iI 0).toNatClampNeg ((iI ((setF (fm (rw_ r a0 a1) (rw_ r a0 a1 0)) i k : Nat) : Int)).toInt64)))))]) (Eq.trans (b := [o0, u0]) rfl rfl) hD
  refine lv_goto (tgt := 23) hx hb dL_segment_12 (by decide) ?_
  refine ib_const hx hb dL_segment_23 ?_
  exact W.iret hx hb hr (fun t ht _ => ⟨rfl, by rw [ht]; exact hP, hS.F ht⟩) hS.2.2 dL_segment_24

set_option maxHeartbeats 4000000 in
set_option maxRecDepth 100000 in
theorem mL_classOf_ok (l : Launch) (dC : Nat → ClassId) (dI : Nat → Nat → Nat) (cJ : ClassId) (o0 u0 : Nat) (a0 a1 q : Nat → Nat) (w : Nat) (hp0 : Pm a0) (hp1 : Pm a1) (hw : w ≤ 12) (hq : ∀ i, i < w → q i < 12) (hqd : ∀ i j, i < w → j < w → q i = q j → i = j) (g : Nat → Int64) (sv : Nat) (hs : sv < 4096) : wr l yL_classOf wsL_classOf { frames := 5, cells := 0, slots := 0, locals := 108 } [.ref o0, .int (iI ((sv : Nat) : Int)), .ref u0] (dC, dI) [(o0, .inr (0, [.long (pk a0), .long (pk a1), .long (pkn q w), .int (iI ((w : Nat) : Int))])), (u0, .inl (cJ, 1, .inr (.inl (g))))] [(cJ, .long)] [(o0, .inr (0, [.long (pk a0), .long (pk a1), .long (pkn q w), .int (iI ((w : Nat) : Int))])), (u0, .inl (cJ, 1, .inr (.inl (fun _ => (iI ((lsN sv 12 : Nat) : Int)).toInt64))))] (some (.int (iI 0))) := by
  refine mt_ofWH (cc := cL_classOf) (maxL := 4) (ret := (some .int)) (hh := [(0, 9, 12, 15)]) (by decide +kernel) rfl ?_
  intro P0 e s m args below meth c s₁ B hml hv
  obtain ⟨rfl, hP, hK, hD0⟩ := hv
  have hx := B.exec
  have hb := B.bytes
  have hr := B.returns
  have hts := atoms_spec (ws := wsL_classOf) B.pre
  have hown : s.vm.findClass RL = some m.cls := findClass_of_methodNamed B.named
  have hlocks := B.notSynchronized
  have hD : va_D (inW [(o0, .inr (0, [.long (pk a0), .long (pk a1), .long (pkn q w), .int (iI ((w : Nat) : Int))])), (u0, .inl (cJ, 1, .inr (.inl (g))))]) [(o0, .inr (0, [.long (pk a0), .long (pk a1), .long (pkn q w), .int (iI ((w : Nat) : Int))])), (u0, .inl (cJ, 1, .inr (.inl (g))))] := va_D_in hD0
  have hS : va_S (inW [(o0, .inr (0, [.long (pk a0), .long (pk a1), .long (pkn q w), .int (iI ((w : Nat) : Int))])), (u0, .inl (cJ, 1, .inr (.inl (g))))]) s.heap s.heap [] := va_S.rf
  have hl := lv_entry ([.ref o0, .int (iI ((sv : Nat) : Int)), .ref u0]) (n := 4) (Nat.le_of_ble_eq_true rfl)
  rw [lg_entry_eq]
  generalize (lg_sl ([.ref o0, .int (iI ((sv : Nat) : Int)), .ref u0]) ++ List.replicate (4 - (lg_sl ([.ref o0, .int (iI ((sv : Nat) : Int)), .ref u0])).length) Slot.unset).toArray = ls at hl ⊢
  have hl : lv_has ls 4 [(0, .ref o0), (1, .int (iI ((sv : Nat) : Int))), (2, .ref u0)] := hl
  refine lv_aload_n hx hb dL_classOf_0 rfl (lv_at hl 2 rfl) ?_
  refine ib_const hx hb dL_classOf_1 ?_
  refine lv_aload_n hx hb dL_classOf_2 rfl (lv_at hl 0 rfl) ?_
  refine lv_iload_n hx hb dL_classOf_3 rfl (lv_at hl 1 rfl) ?_
  have hPc : va_P (dC, dI) vwCl [(o0, .inr (0, [.long (pk a0), .long (pk a1), .long (pkn q w), .int (iI ((w : Nat) : Int))]))] s.heap := va_P_l (w1 := [(o0, .inr (0, [.long (pk a0), .long (pk a1), .long (pkn q w), .int (iI ((w : Nat) : Int))]))]) (w2 := [(u0, .inl (cJ, 1, .inr (.inl (g))))]) hP
  have hKc := hK.sub (tys' := []) [] rfl
  refine rd_call (va_runV (As := [.int (iI ((sv : Nat) : Int))]) (rest := [.int (iI 0), .ref u0]) ⟨hx, hb, hml, hown, hts⟩ (mX0_classOf_ok l dC dI o0 a0 a1 q w hp0 hp1 hw hq hqd sv hs) (cwV 1 hts gL_classOf_X0_classOf rfl rfl rfl hvX0_classOf ⟨Nat.le_of_ble_eq_true rfl, Nat.le_of_ble_eq_true rfl⟩) (bW_pre (ci := 0) (q0 := 0) hKc hPc rfl rfl rfl) rfl rfl hl.1 rfl (lv_room (Nat.le_of_ble_eq_true rfl)) dL_classOf_4 ⟨Nat.le_of_ble_eq_true rfl, Nat.le_of_ble_eq_true rfl⟩) ?_
  refine lv_i2l hx hb dL_classOf_7 rfl ?_
  refine va_last hx hb hK hP hD hS 1 0 rfl rfl vp0 dL_classOf_8 (fun H locs hP hD hS => ?_)
  have hP : va_P (dC, dI) vwCl [(o0, .inr (0, [.long (pk a0), .long (pk a1), .long (pkn q w), .int (iI ((w : Nat) : Int))])), (u0, .inl (cJ, 1, .inr (.inl (vp_updL (g) (iI 0).toNatClampNeg ((iI ((lsN sv 12 : Nat) : Int)).toInt64)))))] H := hP
  have hD : va_D (inW [(o0, .inr (0, [.long (pk a0), .long (pk a1), .long (pkn q w), .int (iI ((w : Nat) : Int))])), (u0, .inl (cJ, 1, .inr (.inl (g))))]) [(o0, .inr (0, [.long (pk a0), .long (pk a1), .long (pkn q w), .int (iI ((w : Nat) : Int))])), (u0, .inl (cJ, 1, .inr (.inl (vp_updL (g) (iI 0).toNatClampNeg ((iI ((lsN sv 12 : Nat) : Int)).toInt64)))))] := hD
  have hP : va_P (dC, dI) vwCl [(o0, .inr (0, [.long (pk a0), .long (pk a1), .long (pkn q w), .int (iI ((w : Nat) : Int))])), (u0, .inl (cJ, 1, .inr (.inl (fun _ => (iI ((lsN sv 12 : Nat) : Int)).toInt64))))] H := va_P_larr (q0 := 1) (g := fun _ => (iI ((lsN sv 12 : Nat) : Int)).toInt64) (fun j hj => lup j hj) rfl hP
  have hD : va_D (inW [(o0, .inr (0, [.long (pk a0), .long (pk a1), .long (pkn q w), .int (iI ((w : Nat) : Int))])), (u0, .inl (cJ, 1, .inr (.inl (g))))]) [(o0, .inr (0, [.long (pk a0), .long (pk a1), .long (pkn q w), .int (iI ((w : Nat) : Int))])), (u0, .inl (cJ, 1, .inr (.inl (fun _ => (iI ((lsN sv 12 : Nat) : Int)).toInt64))))] := va_D_same (w := [(o0, .inr (0, [.long (pk a0), .long (pk a1), .long (pkn q w), .int (iI ((w : Nat) : Int))])), (u0, .inl (cJ, 1, .inr (.inl (vp_updL (g) (iI 0).toNatClampNeg ((iI ((lsN sv 12 : Nat) : Int)).toInt64)))))]) (Eq.trans (b := [o0, u0]) rfl rfl) hD
  refine lv_goto (tgt := 15) hx hb dL_classOf_9 (by decide) ?_
  refine ib_const hx hb dL_classOf_15 ?_
  exact W.iret hx hb hr (fun t ht _ => ⟨rfl, by rw [ht]; exact hP, hS.F ht⟩) hS.2.2 dL_classOf_16

set_option maxHeartbeats 4000000 in
set_option maxRecDepth 100000 in
theorem mL_pairs_ok (l : Launch) (dC : Nat → ClassId) (dI : Nat → Nat → Nat) (cJ : ClassId) (o0 u0 : Nat) (a0 a1 q : Nat → Nat) (w : Nat) (hp0 : Pm a0) (hp1 : Pm a1) (hw : w ≤ 12) (hq : ∀ i, i < w → q i < 12) (hqd : ∀ i j, i < w → j < w → q i = q j → i = j) (g : Nat → Int64) (sv i : Nat) (hs : sv < 4096) (hi1 : 1 ≤ i) (hi2 : i ≤ 6) : wr l yL_pairs wsL_pairs { frames := 2, cells := 0, slots := 0, locals := 45 } [.ref o0, .int (iI ((sv : Nat) : Int)), .int (iI ((i : Nat) : Int)), .ref u0] (dC, dI) [(o0, .inr (0, [.long (pk a0), .long (pk a1), .long (pkn q w), .int (iI ((w : Nat) : Int))])), (u0, .inl (cJ, 1, .inr (.inl (g))))] [(cJ, .long)] [(o0, .inr (0, [.long (pk a0), .long (pk a1), .long (pkn q w), .int (iI ((w : Nat) : Int))])), (u0, .inl (cJ, 1, .inr (.inl (fun _ => (iI ((prO sv i 12 : Nat) : Int)).toInt64))))] (some (.int (iI 0))) := by
  refine mt_ofWH (cc := cL_pairs) (maxL := 5) (ret := (some .int)) (hh := [(0, 10, 13, 15)]) (by decide +kernel) rfl ?_
  intro P0 e s m args below meth c s₁ B hml hv
  obtain ⟨rfl, hP, hK, hD0⟩ := hv
  have hx := B.exec
  have hb := B.bytes
  have hr := B.returns
  have hts := atoms_spec (ws := wsL_pairs) B.pre
  have hown : s.vm.findClass RL = some m.cls := findClass_of_methodNamed B.named
  have hlocks := B.notSynchronized
  have hD : va_D (inW [(o0, .inr (0, [.long (pk a0), .long (pk a1), .long (pkn q w), .int (iI ((w : Nat) : Int))])), (u0, .inl (cJ, 1, .inr (.inl (g))))]) [(o0, .inr (0, [.long (pk a0), .long (pk a1), .long (pkn q w), .int (iI ((w : Nat) : Int))])), (u0, .inl (cJ, 1, .inr (.inl (g))))] := va_D_in hD0
  have hS : va_S (inW [(o0, .inr (0, [.long (pk a0), .long (pk a1), .long (pkn q w), .int (iI ((w : Nat) : Int))])), (u0, .inl (cJ, 1, .inr (.inl (g))))]) s.heap s.heap [] := va_S.rf
  have hl := lv_entry ([.ref o0, .int (iI ((sv : Nat) : Int)), .int (iI ((i : Nat) : Int)), .ref u0]) (n := 5) (Nat.le_of_ble_eq_true rfl)
  rw [lg_entry_eq]
  generalize (lg_sl ([.ref o0, .int (iI ((sv : Nat) : Int)), .int (iI ((i : Nat) : Int)), .ref u0]) ++ List.replicate (5 - (lg_sl ([.ref o0, .int (iI ((sv : Nat) : Int)), .int (iI ((i : Nat) : Int)), .ref u0])).length) Slot.unset).toArray = ls at hl ⊢
  have hl : lv_has ls 5 [(0, .ref o0), (1, .int (iI ((sv : Nat) : Int))), (2, .int (iI ((i : Nat) : Int))), (3, .ref u0)] := hl
  refine lv_aload_n hx hb dL_pairs_0 rfl (lv_at hl 3 rfl) ?_
  refine ib_const hx hb dL_pairs_1 ?_
  refine lv_aload_n hx hb dL_pairs_2 rfl (lv_at hl 0 rfl) ?_
  refine lv_iload_n hx hb dL_pairs_3 rfl (lv_at hl 1 rfl) ?_
  refine lv_iload_n hx hb dL_pairs_4 rfl (lv_at hl 2 rfl) ?_
  have hPc : va_P (dC, dI) vwCl [(o0, .inr (0, [.long (pk a0), .long (pk a1), .long (pkn q w), .int (iI ((w : Nat) : Int))]))] s.heap := va_P_l (w1 := [(o0, .inr (0, [.long (pk a0), .long (pk a1), .long (pkn q w), .int (iI ((w : Nat) : Int))]))]) (w2 := [(u0, .inl (cJ, 1, .inr (.inl (g))))]) hP
  have hKc := hK.sub (tys' := []) [] rfl
  refine rd_call (va_runV (As := [.int (iI ((sv : Nat) : Int)), .int (iI ((i : Nat) : Int))]) (rest := [.int (iI 0), .ref u0]) ⟨hx, hb, hml, hown, hts⟩ (mX0_pairs_ok l dC dI o0 a0 a1 q w hp0 hp1 hw hq hqd sv i hs hi1 hi2) (cwV 2 hts gL_pairs_X0_pairs rfl rfl rfl hvX0_pairs ⟨Nat.le_of_ble_eq_true rfl, Nat.le_of_ble_eq_true rfl⟩) (bW_pre (ci := 0) (q0 := 0) hKc hPc rfl rfl rfl) rfl rfl hl.1 rfl (lv_room (Nat.le_of_ble_eq_true rfl)) dL_pairs_5 ⟨Nat.le_of_ble_eq_true rfl, Nat.le_of_ble_eq_true rfl⟩) ?_
  refine lv_i2l hx hb dL_pairs_8 rfl ?_
  refine va_last hx hb hK hP hD hS 1 0 rfl rfl vp0 dL_pairs_9 (fun H locs hP hD hS => ?_)
  have hP : va_P (dC, dI) vwCl [(o0, .inr (0, [.long (pk a0), .long (pk a1), .long (pkn q w), .int (iI ((w : Nat) : Int))])), (u0, .inl (cJ, 1, .inr (.inl (vp_updL (g) (iI 0).toNatClampNeg ((iI ((prO sv i 12 : Nat) : Int)).toInt64)))))] H := hP
  have hD : va_D (inW [(o0, .inr (0, [.long (pk a0), .long (pk a1), .long (pkn q w), .int (iI ((w : Nat) : Int))])), (u0, .inl (cJ, 1, .inr (.inl (g))))]) [(o0, .inr (0, [.long (pk a0), .long (pk a1), .long (pkn q w), .int (iI ((w : Nat) : Int))])), (u0, .inl (cJ, 1, .inr (.inl (vp_updL (g) (iI 0).toNatClampNeg ((iI ((prO sv i 12 : Nat) : Int)).toInt64)))))] := hD
  have hP : va_P (dC, dI) vwCl [(o0, .inr (0, [.long (pk a0), .long (pk a1), .long (pkn q w), .int (iI ((w : Nat) : Int))])), (u0, .inl (cJ, 1, .inr (.inl (fun _ => (iI ((prO sv i 12 : Nat) : Int)).toInt64))))] H := va_P_larr (q0 := 1) (g := fun _ => (iI ((prO sv i 12 : Nat) : Int)).toInt64) (fun j hj => lup j hj) rfl hP
  have hD : va_D (inW [(o0, .inr (0, [.long (pk a0), .long (pk a1), .long (pkn q w), .int (iI ((w : Nat) : Int))])), (u0, .inl (cJ, 1, .inr (.inl (g))))]) [(o0, .inr (0, [.long (pk a0), .long (pk a1), .long (pkn q w), .int (iI ((w : Nat) : Int))])), (u0, .inl (cJ, 1, .inr (.inl (fun _ => (iI ((prO sv i 12 : Nat) : Int)).toInt64))))] := va_D_same (w := [(o0, .inr (0, [.long (pk a0), .long (pk a1), .long (pkn q w), .int (iI ((w : Nat) : Int))])), (u0, .inl (cJ, 1, .inr (.inl (vp_updL (g) (iI 0).toNatClampNeg ((iI ((prO sv i 12 : Nat) : Int)).toInt64)))))]) (Eq.trans (b := [o0, u0]) rfl rfl) hD
  refine lv_goto (tgt := 17) hx hb dL_pairs_10 (by decide) ?_
  refine ib_const hx hb dL_pairs_17 ?_
  exact W.iret hx hb hr (fun t ht _ => ⟨rfl, by rw [ht]; exact hP, hS.F ht⟩) hS.2.2 dL_pairs_18

set_option maxHeartbeats 4000000 in
set_option maxRecDepth 100000 in
theorem mL_combining_ok (l : Launch) (dC : Nat → ClassId) (dI : Nat → Nat → Nat) (cJ : ClassId) (o0 u0 : Nat) (a0 a1 q : Nat → Nat) (w : Nat) (hp0 : Pm a0) (hp1 : Pm a1) (hw : w ≤ 12) (hq : ∀ i, i < w → q i < 12) (hqd : ∀ i j, i < w → j < w → q i = q j → i = j) (g : Nat → Int64) (r : Nat) (hr9 : r < 2) : wr l yL_combining wsL_combining { frames := 4, cells := 0, slots := 0, locals := 101 } [.ref o0, .int (iI ((r : Nat) : Int)), .ref u0] (dC, dI) [(o0, .inr (0, [.long (pk a0), .long (pk a1), .long (pkn q w), .int (iI ((w : Nat) : Int))])), (u0, .inl (cJ, 1, .inr (.inl (g))))] [(cJ, .long)] [(o0, .inr (0, [.long (pk a0), .long (pk a1), .long (pkn q w), .int (iI ((w : Nat) : Int))])), (u0, .inl (cJ, 1, .inr (.inl (fun _ => cmL (rw_ r a0 a1) 48))))] (some (.int (iI 0))) := by
  refine mt_ofWH (cc := cL_combining) (maxL := 4) (ret := (some .int)) (hh := [(0, 8, 11, 13)]) (by decide +kernel) rfl ?_
  intro P0 e s m args below meth c s₁ B hml hv
  obtain ⟨rfl, hP, hK, hD0⟩ := hv
  have hx := B.exec
  have hb := B.bytes
  have hr := B.returns
  have hts := atoms_spec (ws := wsL_combining) B.pre
  have hown : s.vm.findClass RL = some m.cls := findClass_of_methodNamed B.named
  have hlocks := B.notSynchronized
  have hD : va_D (inW [(o0, .inr (0, [.long (pk a0), .long (pk a1), .long (pkn q w), .int (iI ((w : Nat) : Int))])), (u0, .inl (cJ, 1, .inr (.inl (g))))]) [(o0, .inr (0, [.long (pk a0), .long (pk a1), .long (pkn q w), .int (iI ((w : Nat) : Int))])), (u0, .inl (cJ, 1, .inr (.inl (g))))] := va_D_in hD0
  have hS : va_S (inW [(o0, .inr (0, [.long (pk a0), .long (pk a1), .long (pkn q w), .int (iI ((w : Nat) : Int))])), (u0, .inl (cJ, 1, .inr (.inl (g))))]) s.heap s.heap [] := va_S.rf
  have hl := lv_entry ([.ref o0, .int (iI ((r : Nat) : Int)), .ref u0]) (n := 4) (Nat.le_of_ble_eq_true rfl)
  rw [lg_entry_eq]
  generalize (lg_sl ([.ref o0, .int (iI ((r : Nat) : Int)), .ref u0]) ++ List.replicate (4 - (lg_sl ([.ref o0, .int (iI ((r : Nat) : Int)), .ref u0])).length) Slot.unset).toArray = ls at hl ⊢
  have hl : lv_has ls 4 [(0, .ref o0), (1, .int (iI ((r : Nat) : Int))), (2, .ref u0)] := hl
  refine lv_aload_n hx hb dL_combining_0 rfl (lv_at hl 2 rfl) ?_
  refine ib_const hx hb dL_combining_1 ?_
  refine lv_aload_n hx hb dL_combining_2 rfl (lv_at hl 0 rfl) ?_
  refine lv_iload_n hx hb dL_combining_3 rfl (lv_at hl 1 rfl) ?_
  have hPc : va_P (dC, dI) vwCl [(o0, .inr (0, [.long (pk a0), .long (pk a1), .long (pkn q w), .int (iI ((w : Nat) : Int))]))] s.heap := va_P_l (w1 := [(o0, .inr (0, [.long (pk a0), .long (pk a1), .long (pkn q w), .int (iI ((w : Nat) : Int))]))]) (w2 := [(u0, .inl (cJ, 1, .inr (.inl (g))))]) hP
  have hKc := hK.sub (tys' := []) [] rfl
  refine rd_call (va_runV (As := [.int (iI ((r : Nat) : Int))]) (rest := [.int (iI 0), .ref u0]) ⟨hx, hb, hml, hown, hts⟩ (mX0_combining_ok l dC dI o0 a0 a1 q w hp0 hp1 hw hq hqd r hr9) (cwV 1 hts gL_combining_X0_combining rfl rfl rfl hvX0_combining ⟨Nat.le_of_ble_eq_true rfl, Nat.le_of_ble_eq_true rfl⟩) (bW_pre (ci := 0) (q0 := 0) hKc hPc rfl rfl rfl) rfl rfl hl.1 rfl (lv_room (Nat.le_of_ble_eq_true rfl)) dL_combining_4 ⟨Nat.le_of_ble_eq_true rfl, Nat.le_of_ble_eq_true rfl⟩) ?_
  refine va_last hx hb hK hP hD hS 1 0 rfl rfl vp0 dL_combining_7 (fun H locs hP hD hS => ?_)
  have hP : va_P (dC, dI) vwCl [(o0, .inr (0, [.long (pk a0), .long (pk a1), .long (pkn q w), .int (iI ((w : Nat) : Int))])), (u0, .inl (cJ, 1, .inr (.inl (vp_updL (g) (iI 0).toNatClampNeg (cmL (rw_ r a0 a1) 48)))))] H := hP
  have hD : va_D (inW [(o0, .inr (0, [.long (pk a0), .long (pk a1), .long (pkn q w), .int (iI ((w : Nat) : Int))])), (u0, .inl (cJ, 1, .inr (.inl (g))))]) [(o0, .inr (0, [.long (pk a0), .long (pk a1), .long (pkn q w), .int (iI ((w : Nat) : Int))])), (u0, .inl (cJ, 1, .inr (.inl (vp_updL (g) (iI 0).toNatClampNeg (cmL (rw_ r a0 a1) 48)))))] := hD
  have hP : va_P (dC, dI) vwCl [(o0, .inr (0, [.long (pk a0), .long (pk a1), .long (pkn q w), .int (iI ((w : Nat) : Int))])), (u0, .inl (cJ, 1, .inr (.inl (fun _ => cmL (rw_ r a0 a1) 48))))] H := va_P_larr (q0 := 1) (g := fun _ => cmL (rw_ r a0 a1) 48) (fun j hj => lup j hj) rfl hP
  have hD : va_D (inW [(o0, .inr (0, [.long (pk a0), .long (pk a1), .long (pkn q w), .int (iI ((w : Nat) : Int))])), (u0, .inl (cJ, 1, .inr (.inl (g))))]) [(o0, .inr (0, [.long (pk a0), .long (pk a1), .long (pkn q w), .int (iI ((w : Nat) : Int))])), (u0, .inl (cJ, 1, .inr (.inl (fun _ => cmL (rw_ r a0 a1) 48))))] := va_D_same (w := [(o0, .inr (0, [.long (pk a0), .long (pk a1), .long (pkn q w), .int (iI ((w : Nat) : Int))])), (u0, .inl (cJ, 1, .inr (.inl (vp_updL (g) (iI 0).toNatClampNeg (cmL (rw_ r a0 a1) 48)))))]) (Eq.trans (b := [o0, u0]) rfl rfl) hD
  refine lv_goto (tgt := 14) hx hb dL_combining_8 (by decide) ?_
  refine ib_const hx hb dL_combining_14 ?_
  exact W.iret hx hb hr (fun t ht _ => ⟨rfl, by rw [ht]; exact hP, hS.F ht⟩) hS.2.2 dL_combining_15

set_option maxHeartbeats 4000000 in
set_option maxRecDepth 100000 in
theorem mL_isDerived_ok1 (l : Launch) (dC : Nat → ClassId) (dI : Nat → Nat → Nat) (cJ : ClassId) (o0 u0 : Nat) (a0 a1 q : Nat → Nat) (w : Nat) (hp0 : Pm a0) (hp1 : Pm a1) (hw : w ≤ 12) (hq : ∀ i, i < w → q i < 12) (hqd : ∀ i j, i < w → j < w → q i = q j → i = j) (g : Nat → Int64) (r : Nat) (hr9 : r < 2) : wr l yL_isDerived wsL_isDerived { frames := 5, cells := 0, slots := 0, locals := 114 } [.ref o0, .int (iI ((r : Nat) : Int)), .int (iI 1), .ref u0] (dC, dI) [(o0, .inr (0, [.long (pk a0), .long (pk a1), .long (pkn q w), .int (iI ((w : Nat) : Int))])), (u0, .inl (cJ, 1, .inr (.inl (g))))] [(cJ, .long)] [(o0, .inr (0, [.long (pk a0), .long (pk a1), .long (pkn q w), .int (iI ((w : Nat) : Int))])), (u0, .inl (cJ, 1, .inr (.inl (fun _ => (if alN (deB (rw_ r a0 a1) 1) 12 = true then (1 : Int64) else 0)))))] (some (.int (iI 0))) := by
  refine mt_ofWH (cc := cL_isDerived) (maxL := 5) (ret := (some .int)) (hh := [(0, 17, 20, 13), (0, 17, 24, 15)]) (by decide +kernel) rfl ?_
  intro P0 e s m args below meth c s₁ B hml hv
  obtain ⟨rfl, hP, hK, hD0⟩ := hv
  have hx := B.exec
  have hb := B.bytes
  have hr := B.returns
  have hts := atoms_spec (ws := wsL_isDerived) B.pre
  have hown : s.vm.findClass RL = some m.cls := findClass_of_methodNamed B.named
  have hlocks := B.notSynchronized
  have hD : va_D (inW [(o0, .inr (0, [.long (pk a0), .long (pk a1), .long (pkn q w), .int (iI ((w : Nat) : Int))])), (u0, .inl (cJ, 1, .inr (.inl (g))))]) [(o0, .inr (0, [.long (pk a0), .long (pk a1), .long (pkn q w), .int (iI ((w : Nat) : Int))])), (u0, .inl (cJ, 1, .inr (.inl (g))))] := va_D_in hD0
  have hS : va_S (inW [(o0, .inr (0, [.long (pk a0), .long (pk a1), .long (pkn q w), .int (iI ((w : Nat) : Int))])), (u0, .inl (cJ, 1, .inr (.inl (g))))]) s.heap s.heap [] := va_S.rf
  have hl := lv_entry ([.ref o0, .int (iI ((r : Nat) : Int)), .int (iI 1), .ref u0]) (n := 5) (Nat.le_of_ble_eq_true rfl)
  rw [lg_entry_eq]
  generalize (lg_sl ([.ref o0, .int (iI ((r : Nat) : Int)), .int (iI 1), .ref u0]) ++ List.replicate (5 - (lg_sl ([.ref o0, .int (iI ((r : Nat) : Int)), .int (iI 1), .ref u0])).length) Slot.unset).toArray = ls at hl ⊢
  have hl : lv_has ls 5 [(0, .ref o0), (1, .int (iI ((r : Nat) : Int))), (2, .int (iI 1)), (3, .ref u0)] := hl
  refine lv_aload_n hx hb dL_isDerived_0 rfl (lv_at hl 3 rfl) ?_
  refine ib_const hx hb dL_isDerived_1 ?_
  refine lv_aload_n hx hb dL_isDerived_2 rfl (lv_at hl 0 rfl) ?_
  refine lv_iload_n hx hb dL_isDerived_3 rfl (lv_at hl 1 rfl) ?_
  refine lv_iload_n hx hb dL_isDerived_4 rfl (lv_at hl 2 rfl) ?_
  have hPc : va_P (dC, dI) vwCl [(o0, .inr (0, [.long (pk a0), .long (pk a1), .long (pkn q w), .int (iI ((w : Nat) : Int))]))] s.heap := va_P_l (w1 := [(o0, .inr (0, [.long (pk a0), .long (pk a1), .long (pkn q w), .int (iI ((w : Nat) : Int))]))]) (w2 := [(u0, .inl (cJ, 1, .inr (.inl (g))))]) hP
  have hKc := hK.sub (tys' := []) [] rfl
  refine rd_call (va_runV (As := [.int (iI ((r : Nat) : Int)), .int (iI 1)]) (rest := [.int (iI 0), .ref u0]) ⟨hx, hb, hml, hown, hts⟩ (mX0_isDerived_ok1 l dC dI o0 a0 a1 q w hp0 hp1 hw hq hqd r hr9) (cwV 2 hts gL_isDerived_X0_isDerived rfl rfl rfl hvX0_isDerived ⟨Nat.le_of_ble_eq_true rfl, Nat.le_of_ble_eq_true rfl⟩) (bW_pre (ci := 0) (q0 := 0) hKc hPc rfl rfl rfl) rfl rfl hl.1 rfl (lv_room (Nat.le_of_ble_eq_true rfl)) dL_isDerived_5 ⟨Nat.le_of_ble_eq_true rfl, Nat.le_of_ble_eq_true rfl⟩) ?_
  refine bb_eq (tgt := 15) hx hb dL_isDerived_8 (by decide) (fun c_8 => ?_) (fun c_8 => ?_)
  · skip
    refine lv_lconst (v := 0) hx hb dL_isDerived_15 (by decide) ?_
    refine va_last hx hb hK hP hD hS 1 0 rfl rfl vp0 dL_isDerived_16 (fun H locs hP hD hS => ?_)
    have hP : va_P (dC, dI) vwCl [(o0, .inr (0, [.long (pk a0), .long (pk a1), .long (pkn q w), .int (iI ((w : Nat) : Int))])), (u0, .inl (cJ, 1, .inr (.inl (vp_updL (g) (iI 0).toNatClampNeg (0 : Int64)))))] H := hP
    have hD : va_D (inW [(o0, .inr (0, [.long (pk a0), .long (pk a1), .long (pkn q w), .int (iI ((w : Nat) : Int))])), (u0, .inl (cJ, 1, .inr (.inl (g))))]) [(o0, .inr (0, [.long (pk a0), .long (pk a1), .long (pkn q w), .int (iI ((w : Nat) : Int))])), (u0, .inl (cJ, 1, .inr (.inl (vp_updL (g) (iI 0).toNatClampNeg (0 : Int64)))))] := hD
    have hP : va_P (dC, dI) vwCl [(o0, .inr (0, [.long (pk a0), .long (pk a1), .long (pkn q w), .int (iI ((w : Nat) : Int))])), (u0, .inl (cJ, 1, .inr (.inl (fun _ => (if alN (deB (rw_ r a0 a1) 1) 12 = true then (1 : Int64) else 0)))))] H := va_P_larr (q0 := 1) (g := fun _ => (if alN (deB (rw_ r a0 a1) 1) 12 = true then (1 : Int64) else 0)) (fun j hj => (lup j hj).trans ((if_neg (by assumption)).symm)) rfl hP
    have hD : va_D (inW [(o0, .inr (0, [.long (pk a0), .long (pk a1), .long (pkn q w), .int (iI ((w : Nat) : Int))])), (u0, .inl (cJ, 1, .inr (.inl (g))))]) [(o0, .inr (0, [.long (pk a0), .long (pk a1), .long (pkn q w), .int (iI ((w : Nat) : Int))])), (u0, .inl (cJ, 1, .inr (.inl (fun _ => (if alN (deB (rw_ r a0 a1) 1) 12 = true then (1 : Int64) else 0)))))] := va_D_same (w := [(o0, .inr (0, [.long (pk a0), .long (pk a1), .long (pkn q w), .int (iI ((w : Nat) : Int))])), (u0, .inl (cJ, 1, .inr (.inl (vp_updL (g) (iI 0).toNatClampNeg (0 : Int64)))))]) (Eq.trans (b := [o0, u0]) rfl rfl) hD
    refine lv_goto (tgt := 28) hx hb dL_isDerived_17 (by decide) ?_
    refine ib_const hx hb dL_isDerived_28 ?_
    exact W.iret hx hb hr (fun t ht _ => ⟨rfl, by rw [ht]; exact hP, hS.F ht⟩) hS.2.2 dL_isDerived_29
  · skip
    refine lv_lconst (v := 1) hx hb dL_isDerived_11 (by decide) ?_
    refine lv_goto (tgt := 16) hx hb dL_isDerived_12 (by decide) ?_
    refine va_last hx hb hK hP hD hS 1 0 rfl rfl vp0 dL_isDerived_16 (fun H locs hP hD hS => ?_)
    have hP : va_P (dC, dI) vwCl [(o0, .inr (0, [.long (pk a0), .long (pk a1), .long (pkn q w), .int (iI ((w : Nat) : Int))])), (u0, .inl (cJ, 1, .inr (.inl (vp_updL (g) (iI 0).toNatClampNeg (1 : Int64)))))] H := hP
    have hD : va_D (inW [(o0, .inr (0, [.long (pk a0), .long (pk a1), .long (pkn q w), .int (iI ((w : Nat) : Int))])), (u0, .inl (cJ, 1, .inr (.inl (g))))]) [(o0, .inr (0, [.long (pk a0), .long (pk a1), .long (pkn q w), .int (iI ((w : Nat) : Int))])), (u0, .inl (cJ, 1, .inr (.inl (vp_updL (g) (iI 0).toNatClampNeg (1 : Int64)))))] := hD
    have hP : va_P (dC, dI) vwCl [(o0, .inr (0, [.long (pk a0), .long (pk a1), .long (pkn q w), .int (iI ((w : Nat) : Int))])), (u0, .inl (cJ, 1, .inr (.inl (fun _ => (if alN (deB (rw_ r a0 a1) 1) 12 = true then (1 : Int64) else 0)))))] H := va_P_larr (q0 := 1) (g := fun _ => (if alN (deB (rw_ r a0 a1) 1) 12 = true then (1 : Int64) else 0)) (fun j hj => (lup j hj).trans ((if_pos (by assumption)).symm)) rfl hP
    have hD : va_D (inW [(o0, .inr (0, [.long (pk a0), .long (pk a1), .long (pkn q w), .int (iI ((w : Nat) : Int))])), (u0, .inl (cJ, 1, .inr (.inl (g))))]) [(o0, .inr (0, [.long (pk a0), .long (pk a1), .long (pkn q w), .int (iI ((w : Nat) : Int))])), (u0, .inl (cJ, 1, .inr (.inl (fun _ => (if alN (deB (rw_ r a0 a1) 1) 12 = true then (1 : Int64) else 0)))))] := va_D_same (w := [(o0, .inr (0, [.long (pk a0), .long (pk a1), .long (pkn q w), .int (iI ((w : Nat) : Int))])), (u0, .inl (cJ, 1, .inr (.inl (vp_updL (g) (iI 0).toNatClampNeg (1 : Int64)))))]) (Eq.trans (b := [o0, u0]) rfl rfl) hD
    refine lv_goto (tgt := 28) hx hb dL_isDerived_17 (by decide) ?_
    refine ib_const hx hb dL_isDerived_28 ?_
    exact W.iret hx hb hr (fun t ht _ => ⟨rfl, by rw [ht]; exact hP, hS.F ht⟩) hS.2.2 dL_isDerived_29

set_option maxHeartbeats 4000000 in
set_option maxRecDepth 100000 in
theorem mL_isDerived_ok2 (l : Launch) (dC : Nat → ClassId) (dI : Nat → Nat → Nat) (cJ : ClassId) (o0 u0 : Nat) (a0 a1 q : Nat → Nat) (w : Nat) (hp0 : Pm a0) (hp1 : Pm a1) (hw : w ≤ 12) (hq : ∀ i, i < w → q i < 12) (hqd : ∀ i j, i < w → j < w → q i = q j → i = j) (g : Nat → Int64) (r : Nat) (hr9 : r < 2) : wr l yL_isDerived wsL_isDerived { frames := 5, cells := 0, slots := 0, locals := 114 } [.ref o0, .int (iI ((r : Nat) : Int)), .int (iI 2), .ref u0] (dC, dI) [(o0, .inr (0, [.long (pk a0), .long (pk a1), .long (pkn q w), .int (iI ((w : Nat) : Int))])), (u0, .inl (cJ, 1, .inr (.inl (g))))] [(cJ, .long)] [(o0, .inr (0, [.long (pk a0), .long (pk a1), .long (pkn q w), .int (iI ((w : Nat) : Int))])), (u0, .inl (cJ, 1, .inr (.inl (fun _ => (if alN (deB (rw_ r a0 a1) 2) 6 = true then (1 : Int64) else 0)))))] (some (.int (iI 0))) := by
  refine mt_ofWH (cc := cL_isDerived) (maxL := 5) (ret := (some .int)) (hh := [(0, 17, 20, 13), (0, 17, 24, 15)]) (by decide +kernel) rfl ?_
  intro P0 e s m args below meth c s₁ B hml hv
  obtain ⟨rfl, hP, hK, hD0⟩ := hv
  have hx := B.exec
  have hb := B.bytes
  have hr := B.returns
  have hts := atoms_spec (ws := wsL_isDerived) B.pre
  have hown : s.vm.findClass RL = some m.cls := findClass_of_methodNamed B.named
  have hlocks := B.notSynchronized
  have hD : va_D (inW [(o0, .inr (0, [.long (pk a0), .long (pk a1), .long (pkn q w), .int (iI ((w : Nat) : Int))])), (u0, .inl (cJ, 1, .inr (.inl (g))))]) [(o0, .inr (0, [.long (pk a0), .long (pk a1), .long (pkn q w), .int (iI ((w : Nat) : Int))])), (u0, .inl (cJ, 1, .inr (.inl (g))))] := va_D_in hD0
  have hS : va_S (inW [(o0, .inr (0, [.long (pk a0), .long (pk a1), .long (pkn q w), .int (iI ((w : Nat) : Int))])), (u0, .inl (cJ, 1, .inr (.inl (g))))]) s.heap s.heap [] := va_S.rf
  have hl := lv_entry ([.ref o0, .int (iI ((r : Nat) : Int)), .int (iI 2), .ref u0]) (n := 5) (Nat.le_of_ble_eq_true rfl)
  rw [lg_entry_eq]
  generalize (lg_sl ([.ref o0, .int (iI ((r : Nat) : Int)), .int (iI 2), .ref u0]) ++ List.replicate (5 - (lg_sl ([.ref o0, .int (iI ((r : Nat) : Int)), .int (iI 2), .ref u0])).length) Slot.unset).toArray = ls at hl ⊢
  have hl : lv_has ls 5 [(0, .ref o0), (1, .int (iI ((r : Nat) : Int))), (2, .int (iI 2)), (3, .ref u0)] := hl
  refine lv_aload_n hx hb dL_isDerived_0 rfl (lv_at hl 3 rfl) ?_
  refine ib_const hx hb dL_isDerived_1 ?_
  refine lv_aload_n hx hb dL_isDerived_2 rfl (lv_at hl 0 rfl) ?_
  refine lv_iload_n hx hb dL_isDerived_3 rfl (lv_at hl 1 rfl) ?_
  refine lv_iload_n hx hb dL_isDerived_4 rfl (lv_at hl 2 rfl) ?_
  have hPc : va_P (dC, dI) vwCl [(o0, .inr (0, [.long (pk a0), .long (pk a1), .long (pkn q w), .int (iI ((w : Nat) : Int))]))] s.heap := va_P_l (w1 := [(o0, .inr (0, [.long (pk a0), .long (pk a1), .long (pkn q w), .int (iI ((w : Nat) : Int))]))]) (w2 := [(u0, .inl (cJ, 1, .inr (.inl (g))))]) hP
  have hKc := hK.sub (tys' := []) [] rfl
  refine rd_call (va_runV (As := [.int (iI ((r : Nat) : Int)), .int (iI 2)]) (rest := [.int (iI 0), .ref u0]) ⟨hx, hb, hml, hown, hts⟩ (mX0_isDerived_ok2 l dC dI o0 a0 a1 q w hp0 hp1 hw hq hqd r hr9) (cwV 2 hts gL_isDerived_X0_isDerived rfl rfl rfl hvX0_isDerived ⟨Nat.le_of_ble_eq_true rfl, Nat.le_of_ble_eq_true rfl⟩) (bW_pre (ci := 0) (q0 := 0) hKc hPc rfl rfl rfl) rfl rfl hl.1 rfl (lv_room (Nat.le_of_ble_eq_true rfl)) dL_isDerived_5 ⟨Nat.le_of_ble_eq_true rfl, Nat.le_of_ble_eq_true rfl⟩) ?_
  refine bb_eq (tgt := 15) hx hb dL_isDerived_8 (by decide) (fun c_8 => ?_) (fun c_8 => ?_)
  · skip
    refine lv_lconst (v := 0) hx hb dL_isDerived_15 (by decide) ?_
    refine va_last hx hb hK hP hD hS 1 0 rfl rfl vp0 dL_isDerived_16 (fun H locs hP hD hS => ?_)
    have hP : va_P (dC, dI) vwCl [(o0, .inr (0, [.long (pk a0), .long (pk a1), .long (pkn q w), .int (iI ((w : Nat) : Int))])), (u0, .inl (cJ, 1, .inr (.inl (vp_updL (g) (iI 0).toNatClampNeg (0 : Int64)))))] H := hP
    have hD : va_D (inW [(o0, .inr (0, [.long (pk a0), .long (pk a1), .long (pkn q w), .int (iI ((w : Nat) : Int))])), (u0, .inl (cJ, 1, .inr (.inl (g))))]) [(o0, .inr (0, [.long (pk a0), .long (pk a1), .long (pkn q w), .int (iI ((w : Nat) : Int))])), (u0, .inl (cJ, 1, .inr (.inl (vp_updL (g) (iI 0).toNatClampNeg (0 : Int64)))))] := hD
    have hP : va_P (dC, dI) vwCl [(o0, .inr (0, [.long (pk a0), .long (pk a1), .long (pkn q w), .int (iI ((w : Nat) : Int))])), (u0, .inl (cJ, 1, .inr (.inl (fun _ => (if alN (deB (rw_ r a0 a1) 2) 6 = true then (1 : Int64) else 0)))))] H := va_P_larr (q0 := 1) (g := fun _ => (if alN (deB (rw_ r a0 a1) 2) 6 = true then (1 : Int64) else 0)) (fun j hj => (lup j hj).trans ((if_neg (by assumption)).symm)) rfl hP
    have hD : va_D (inW [(o0, .inr (0, [.long (pk a0), .long (pk a1), .long (pkn q w), .int (iI ((w : Nat) : Int))])), (u0, .inl (cJ, 1, .inr (.inl (g))))]) [(o0, .inr (0, [.long (pk a0), .long (pk a1), .long (pkn q w), .int (iI ((w : Nat) : Int))])), (u0, .inl (cJ, 1, .inr (.inl (fun _ => (if alN (deB (rw_ r a0 a1) 2) 6 = true then (1 : Int64) else 0)))))] := va_D_same (w := [(o0, .inr (0, [.long (pk a0), .long (pk a1), .long (pkn q w), .int (iI ((w : Nat) : Int))])), (u0, .inl (cJ, 1, .inr (.inl (vp_updL (g) (iI 0).toNatClampNeg (0 : Int64)))))]) (Eq.trans (b := [o0, u0]) rfl rfl) hD
    refine lv_goto (tgt := 28) hx hb dL_isDerived_17 (by decide) ?_
    refine ib_const hx hb dL_isDerived_28 ?_
    exact W.iret hx hb hr (fun t ht _ => ⟨rfl, by rw [ht]; exact hP, hS.F ht⟩) hS.2.2 dL_isDerived_29
  · skip
    refine lv_lconst (v := 1) hx hb dL_isDerived_11 (by decide) ?_
    refine lv_goto (tgt := 16) hx hb dL_isDerived_12 (by decide) ?_
    refine va_last hx hb hK hP hD hS 1 0 rfl rfl vp0 dL_isDerived_16 (fun H locs hP hD hS => ?_)
    have hP : va_P (dC, dI) vwCl [(o0, .inr (0, [.long (pk a0), .long (pk a1), .long (pkn q w), .int (iI ((w : Nat) : Int))])), (u0, .inl (cJ, 1, .inr (.inl (vp_updL (g) (iI 0).toNatClampNeg (1 : Int64)))))] H := hP
    have hD : va_D (inW [(o0, .inr (0, [.long (pk a0), .long (pk a1), .long (pkn q w), .int (iI ((w : Nat) : Int))])), (u0, .inl (cJ, 1, .inr (.inl (g))))]) [(o0, .inr (0, [.long (pk a0), .long (pk a1), .long (pkn q w), .int (iI ((w : Nat) : Int))])), (u0, .inl (cJ, 1, .inr (.inl (vp_updL (g) (iI 0).toNatClampNeg (1 : Int64)))))] := hD
    have hP : va_P (dC, dI) vwCl [(o0, .inr (0, [.long (pk a0), .long (pk a1), .long (pkn q w), .int (iI ((w : Nat) : Int))])), (u0, .inl (cJ, 1, .inr (.inl (fun _ => (if alN (deB (rw_ r a0 a1) 2) 6 = true then (1 : Int64) else 0)))))] H := va_P_larr (q0 := 1) (g := fun _ => (if alN (deB (rw_ r a0 a1) 2) 6 = true then (1 : Int64) else 0)) (fun j hj => (lup j hj).trans ((if_pos (by assumption)).symm)) rfl hP
    have hD : va_D (inW [(o0, .inr (0, [.long (pk a0), .long (pk a1), .long (pkn q w), .int (iI ((w : Nat) : Int))])), (u0, .inl (cJ, 1, .inr (.inl (g))))]) [(o0, .inr (0, [.long (pk a0), .long (pk a1), .long (pkn q w), .int (iI ((w : Nat) : Int))])), (u0, .inl (cJ, 1, .inr (.inl (fun _ => (if alN (deB (rw_ r a0 a1) 2) 6 = true then (1 : Int64) else 0)))))] := va_D_same (w := [(o0, .inr (0, [.long (pk a0), .long (pk a1), .long (pkn q w), .int (iI ((w : Nat) : Int))])), (u0, .inl (cJ, 1, .inr (.inl (vp_updL (g) (iI 0).toNatClampNeg (1 : Int64)))))]) (Eq.trans (b := [o0, u0]) rfl rfl) hD
    refine lv_goto (tgt := 28) hx hb dL_isDerived_17 (by decide) ?_
    refine ib_const hx hb dL_isDerived_28 ?_
    exact W.iret hx hb hr (fun t ht _ => ⟨rfl, by rw [ht]; exact hP, hS.F ht⟩) hS.2.2 dL_isDerived_29

set_option maxHeartbeats 4000000 in
set_option maxRecDepth 100000 in
theorem mL_isDerived_ok3 (l : Launch) (dC : Nat → ClassId) (dI : Nat → Nat → Nat) (cJ : ClassId) (o0 u0 : Nat) (a0 a1 q : Nat → Nat) (w : Nat) (hp0 : Pm a0) (hp1 : Pm a1) (hw : w ≤ 12) (hq : ∀ i, i < w → q i < 12) (hqd : ∀ i j, i < w → j < w → q i = q j → i = j) (g : Nat → Int64) (r : Nat) (hr9 : r < 2) : wr l yL_isDerived wsL_isDerived { frames := 5, cells := 0, slots := 0, locals := 114 } [.ref o0, .int (iI ((r : Nat) : Int)), .int (iI 3), .ref u0] (dC, dI) [(o0, .inr (0, [.long (pk a0), .long (pk a1), .long (pkn q w), .int (iI ((w : Nat) : Int))])), (u0, .inl (cJ, 1, .inr (.inl (g))))] [(cJ, .long)] [(o0, .inr (0, [.long (pk a0), .long (pk a1), .long (pkn q w), .int (iI ((w : Nat) : Int))])), (u0, .inl (cJ, 1, .inr (.inl (fun _ => (if alN (deB (rw_ r a0 a1) 3) 4 = true then (1 : Int64) else 0)))))] (some (.int (iI 0))) := by
  refine mt_ofWH (cc := cL_isDerived) (maxL := 5) (ret := (some .int)) (hh := [(0, 17, 20, 13), (0, 17, 24, 15)]) (by decide +kernel) rfl ?_
  intro P0 e s m args below meth c s₁ B hml hv
  obtain ⟨rfl, hP, hK, hD0⟩ := hv
  have hx := B.exec
  have hb := B.bytes
  have hr := B.returns
  have hts := atoms_spec (ws := wsL_isDerived) B.pre
  have hown : s.vm.findClass RL = some m.cls := findClass_of_methodNamed B.named
  have hlocks := B.notSynchronized
  have hD : va_D (inW [(o0, .inr (0, [.long (pk a0), .long (pk a1), .long (pkn q w), .int (iI ((w : Nat) : Int))])), (u0, .inl (cJ, 1, .inr (.inl (g))))]) [(o0, .inr (0, [.long (pk a0), .long (pk a1), .long (pkn q w), .int (iI ((w : Nat) : Int))])), (u0, .inl (cJ, 1, .inr (.inl (g))))] := va_D_in hD0
  have hS : va_S (inW [(o0, .inr (0, [.long (pk a0), .long (pk a1), .long (pkn q w), .int (iI ((w : Nat) : Int))])), (u0, .inl (cJ, 1, .inr (.inl (g))))]) s.heap s.heap [] := va_S.rf
  have hl := lv_entry ([.ref o0, .int (iI ((r : Nat) : Int)), .int (iI 3), .ref u0]) (n := 5) (Nat.le_of_ble_eq_true rfl)
  rw [lg_entry_eq]
  generalize (lg_sl ([.ref o0, .int (iI ((r : Nat) : Int)), .int (iI 3), .ref u0]) ++ List.replicate (5 - (lg_sl ([.ref o0, .int (iI ((r : Nat) : Int)), .int (iI 3), .ref u0])).length) Slot.unset).toArray = ls at hl ⊢
  have hl : lv_has ls 5 [(0, .ref o0), (1, .int (iI ((r : Nat) : Int))), (2, .int (iI 3)), (3, .ref u0)] := hl
  refine lv_aload_n hx hb dL_isDerived_0 rfl (lv_at hl 3 rfl) ?_
  refine ib_const hx hb dL_isDerived_1 ?_
  refine lv_aload_n hx hb dL_isDerived_2 rfl (lv_at hl 0 rfl) ?_
  refine lv_iload_n hx hb dL_isDerived_3 rfl (lv_at hl 1 rfl) ?_
  refine lv_iload_n hx hb dL_isDerived_4 rfl (lv_at hl 2 rfl) ?_
  have hPc : va_P (dC, dI) vwCl [(o0, .inr (0, [.long (pk a0), .long (pk a1), .long (pkn q w), .int (iI ((w : Nat) : Int))]))] s.heap := va_P_l (w1 := [(o0, .inr (0, [.long (pk a0), .long (pk a1), .long (pkn q w), .int (iI ((w : Nat) : Int))]))]) (w2 := [(u0, .inl (cJ, 1, .inr (.inl (g))))]) hP
  have hKc := hK.sub (tys' := []) [] rfl
  refine rd_call (va_runV (As := [.int (iI ((r : Nat) : Int)), .int (iI 3)]) (rest := [.int (iI 0), .ref u0]) ⟨hx, hb, hml, hown, hts⟩ (mX0_isDerived_ok3 l dC dI o0 a0 a1 q w hp0 hp1 hw hq hqd r hr9) (cwV 2 hts gL_isDerived_X0_isDerived rfl rfl rfl hvX0_isDerived ⟨Nat.le_of_ble_eq_true rfl, Nat.le_of_ble_eq_true rfl⟩) (bW_pre (ci := 0) (q0 := 0) hKc hPc rfl rfl rfl) rfl rfl hl.1 rfl (lv_room (Nat.le_of_ble_eq_true rfl)) dL_isDerived_5 ⟨Nat.le_of_ble_eq_true rfl, Nat.le_of_ble_eq_true rfl⟩) ?_
  refine bb_eq (tgt := 15) hx hb dL_isDerived_8 (by decide) (fun c_8 => ?_) (fun c_8 => ?_)
  · skip
    refine lv_lconst (v := 0) hx hb dL_isDerived_15 (by decide) ?_
    refine va_last hx hb hK hP hD hS 1 0 rfl rfl vp0 dL_isDerived_16 (fun H locs hP hD hS => ?_)
    have hP : va_P (dC, dI) vwCl [(o0, .inr (0, [.long (pk a0), .long (pk a1), .long (pkn q w), .int (iI ((w : Nat) : Int))])), (u0, .inl (cJ, 1, .inr (.inl (vp_updL (g) (iI 0).toNatClampNeg (0 : Int64)))))] H := hP
    have hD : va_D (inW [(o0, .inr (0, [.long (pk a0), .long (pk a1), .long (pkn q w), .int (iI ((w : Nat) : Int))])), (u0, .inl (cJ, 1, .inr (.inl (g))))]) [(o0, .inr (0, [.long (pk a0), .long (pk a1), .long (pkn q w), .int (iI ((w : Nat) : Int))])), (u0, .inl (cJ, 1, .inr (.inl (vp_updL (g) (iI 0).toNatClampNeg (0 : Int64)))))] := hD
    have hP : va_P (dC, dI) vwCl [(o0, .inr (0, [.long (pk a0), .long (pk a1), .long (pkn q w), .int (iI ((w : Nat) : Int))])), (u0, .inl (cJ, 1, .inr (.inl (fun _ => (if alN (deB (rw_ r a0 a1) 3) 4 = true then (1 : Int64) else 0)))))] H := va_P_larr (q0 := 1) (g := fun _ => (if alN (deB (rw_ r a0 a1) 3) 4 = true then (1 : Int64) else 0)) (fun j hj => (lup j hj).trans ((if_neg (by assumption)).symm)) rfl hP
    have hD : va_D (inW [(o0, .inr (0, [.long (pk a0), .long (pk a1), .long (pkn q w), .int (iI ((w : Nat) : Int))])), (u0, .inl (cJ, 1, .inr (.inl (g))))]) [(o0, .inr (0, [.long (pk a0), .long (pk a1), .long (pkn q w), .int (iI ((w : Nat) : Int))])), (u0, .inl (cJ, 1, .inr (.inl (fun _ => (if alN (deB (rw_ r a0 a1) 3) 4 = true then (1 : Int64) else 0)))))] := va_D_same (w := [(o0, .inr (0, [.long (pk a0), .long (pk a1), .long (pkn q w), .int (iI ((w : Nat) : Int))])), (u0, .inl (cJ, 1, .inr (.inl (vp_updL (g) (iI 0).toNatClampNeg (0 : Int64)))))]) (Eq.trans (b := [o0, u0]) rfl rfl) hD
    refine lv_goto (tgt := 28) hx hb dL_isDerived_17 (by decide) ?_
    refine ib_const hx hb dL_isDerived_28 ?_
    exact W.iret hx hb hr (fun t ht _ => ⟨rfl, by rw [ht]; exact hP, hS.F ht⟩) hS.2.2 dL_isDerived_29
  · skip
    refine lv_lconst (v := 1) hx hb dL_isDerived_11 (by decide) ?_
    refine lv_goto (tgt := 16) hx hb dL_isDerived_12 (by decide) ?_
    refine va_last hx hb hK hP hD hS 1 0 rfl rfl vp0 dL_isDerived_16 (fun H locs hP hD hS => ?_)
    have hP : va_P (dC, dI) vwCl [(o0, .inr (0, [.long (pk a0), .long (pk a1), .long (pkn q w), .int (iI ((w : Nat) : Int))])), (u0, .inl (cJ, 1, .inr (.inl (vp_updL (g) (iI 0).toNatClampNeg (1 : Int64)))))] H := hP
    have hD : va_D (inW [(o0, .inr (0, [.long (pk a0), .long (pk a1), .long (pkn q w), .int (iI ((w : Nat) : Int))])), (u0, .inl (cJ, 1, .inr (.inl (g))))]) [(o0, .inr (0, [.long (pk a0), .long (pk a1), .long (pkn q w), .int (iI ((w : Nat) : Int))])), (u0, .inl (cJ, 1, .inr (.inl (vp_updL (g) (iI 0).toNatClampNeg (1 : Int64)))))] := hD
    have hP : va_P (dC, dI) vwCl [(o0, .inr (0, [.long (pk a0), .long (pk a1), .long (pkn q w), .int (iI ((w : Nat) : Int))])), (u0, .inl (cJ, 1, .inr (.inl (fun _ => (if alN (deB (rw_ r a0 a1) 3) 4 = true then (1 : Int64) else 0)))))] H := va_P_larr (q0 := 1) (g := fun _ => (if alN (deB (rw_ r a0 a1) 3) 4 = true then (1 : Int64) else 0)) (fun j hj => (lup j hj).trans ((if_pos (by assumption)).symm)) rfl hP
    have hD : va_D (inW [(o0, .inr (0, [.long (pk a0), .long (pk a1), .long (pkn q w), .int (iI ((w : Nat) : Int))])), (u0, .inl (cJ, 1, .inr (.inl (g))))]) [(o0, .inr (0, [.long (pk a0), .long (pk a1), .long (pkn q w), .int (iI ((w : Nat) : Int))])), (u0, .inl (cJ, 1, .inr (.inl (fun _ => (if alN (deB (rw_ r a0 a1) 3) 4 = true then (1 : Int64) else 0)))))] := va_D_same (w := [(o0, .inr (0, [.long (pk a0), .long (pk a1), .long (pkn q w), .int (iI ((w : Nat) : Int))])), (u0, .inl (cJ, 1, .inr (.inl (vp_updL (g) (iI 0).toNatClampNeg (1 : Int64)))))]) (Eq.trans (b := [o0, u0]) rfl rfl) hD
    refine lv_goto (tgt := 28) hx hb dL_isDerived_17 (by decide) ?_
    refine ib_const hx hb dL_isDerived_28 ?_
    exact W.iret hx hb hr (fun t ht _ => ⟨rfl, by rw [ht]; exact hP, hS.F ht⟩) hS.2.2 dL_isDerived_29

set_option maxHeartbeats 4000000 in
set_option maxRecDepth 100000 in
theorem mL_isDerived_ok4 (l : Launch) (dC : Nat → ClassId) (dI : Nat → Nat → Nat) (cJ : ClassId) (o0 u0 : Nat) (a0 a1 q : Nat → Nat) (w : Nat) (hp0 : Pm a0) (hp1 : Pm a1) (hw : w ≤ 12) (hq : ∀ i, i < w → q i < 12) (hqd : ∀ i j, i < w → j < w → q i = q j → i = j) (g : Nat → Int64) (r : Nat) (hr9 : r < 2) : wr l yL_isDerived wsL_isDerived { frames := 5, cells := 0, slots := 0, locals := 114 } [.ref o0, .int (iI ((r : Nat) : Int)), .int (iI 4), .ref u0] (dC, dI) [(o0, .inr (0, [.long (pk a0), .long (pk a1), .long (pkn q w), .int (iI ((w : Nat) : Int))])), (u0, .inl (cJ, 1, .inr (.inl (g))))] [(cJ, .long)] [(o0, .inr (0, [.long (pk a0), .long (pk a1), .long (pkn q w), .int (iI ((w : Nat) : Int))])), (u0, .inl (cJ, 1, .inr (.inl (fun _ => (if alN (deB (rw_ r a0 a1) 4) 3 = true then (1 : Int64) else 0)))))] (some (.int (iI 0))) := by
  refine mt_ofWH (cc := cL_isDerived) (maxL := 5) (ret := (some .int)) (hh := [(0, 17, 20, 13), (0, 17, 24, 15)]) (by decide +kernel) rfl ?_
  intro P0 e s m args below meth c s₁ B hml hv
  obtain ⟨rfl, hP, hK, hD0⟩ := hv
  have hx := B.exec
  have hb := B.bytes
  have hr := B.returns
  have hts := atoms_spec (ws := wsL_isDerived) B.pre
  have hown : s.vm.findClass RL = some m.cls := findClass_of_methodNamed B.named
  have hlocks := B.notSynchronized
  have hD : va_D (inW [(o0, .inr (0, [.long (pk a0), .long (pk a1), .long (pkn q w), .int (iI ((w : Nat) : Int))])), (u0, .inl (cJ, 1, .inr (.inl (g))))]) [(o0, .inr (0, [.long (pk a0), .long (pk a1), .long (pkn q w), .int (iI ((w : Nat) : Int))])), (u0, .inl (cJ, 1, .inr (.inl (g))))] := va_D_in hD0
  have hS : va_S (inW [(o0, .inr (0, [.long (pk a0), .long (pk a1), .long (pkn q w), .int (iI ((w : Nat) : Int))])), (u0, .inl (cJ, 1, .inr (.inl (g))))]) s.heap s.heap [] := va_S.rf
  have hl := lv_entry ([.ref o0, .int (iI ((r : Nat) : Int)), .int (iI 4), .ref u0]) (n := 5) (Nat.le_of_ble_eq_true rfl)
  rw [lg_entry_eq]
  generalize (lg_sl ([.ref o0, .int (iI ((r : Nat) : Int)), .int (iI 4), .ref u0]) ++ List.replicate (5 - (lg_sl ([.ref o0, .int (iI ((r : Nat) : Int)), .int (iI 4), .ref u0])).length) Slot.unset).toArray = ls at hl ⊢
  have hl : lv_has ls 5 [(0, .ref o0), (1, .int (iI ((r : Nat) : Int))), (2, .int (iI 4)), (3, .ref u0)] := hl
  refine lv_aload_n hx hb dL_isDerived_0 rfl (lv_at hl 3 rfl) ?_
  refine ib_const hx hb dL_isDerived_1 ?_
  refine lv_aload_n hx hb dL_isDerived_2 rfl (lv_at hl 0 rfl) ?_
  refine lv_iload_n hx hb dL_isDerived_3 rfl (lv_at hl 1 rfl) ?_
  refine lv_iload_n hx hb dL_isDerived_4 rfl (lv_at hl 2 rfl) ?_
  have hPc : va_P (dC, dI) vwCl [(o0, .inr (0, [.long (pk a0), .long (pk a1), .long (pkn q w), .int (iI ((w : Nat) : Int))]))] s.heap := va_P_l (w1 := [(o0, .inr (0, [.long (pk a0), .long (pk a1), .long (pkn q w), .int (iI ((w : Nat) : Int))]))]) (w2 := [(u0, .inl (cJ, 1, .inr (.inl (g))))]) hP
  have hKc := hK.sub (tys' := []) [] rfl
  refine rd_call (va_runV (As := [.int (iI ((r : Nat) : Int)), .int (iI 4)]) (rest := [.int (iI 0), .ref u0]) ⟨hx, hb, hml, hown, hts⟩ (mX0_isDerived_ok4 l dC dI o0 a0 a1 q w hp0 hp1 hw hq hqd r hr9) (cwV 2 hts gL_isDerived_X0_isDerived rfl rfl rfl hvX0_isDerived ⟨Nat.le_of_ble_eq_true rfl, Nat.le_of_ble_eq_true rfl⟩) (bW_pre (ci := 0) (q0 := 0) hKc hPc rfl rfl rfl) rfl rfl hl.1 rfl (lv_room (Nat.le_of_ble_eq_true rfl)) dL_isDerived_5 ⟨Nat.le_of_ble_eq_true rfl, Nat.le_of_ble_eq_true rfl⟩) ?_
  refine bb_eq (tgt := 15) hx hb dL_isDerived_8 (by decide) (fun c_8 => ?_) (fun c_8 => ?_)
  · skip
    refine lv_lconst (v := 0) hx hb dL_isDerived_15 (by decide) ?_
    refine va_last hx hb hK hP hD hS 1 0 rfl rfl vp0 dL_isDerived_16 (fun H locs hP hD hS => ?_)
    have hP : va_P (dC, dI) vwCl [(o0, .inr (0, [.long (pk a0), .long (pk a1), .long (pkn q w), .int (iI ((w : Nat) : Int))])), (u0, .inl (cJ, 1, .inr (.inl (vp_updL (g) (iI 0).toNatClampNeg (0 : Int64)))))] H := hP
    have hD : va_D (inW [(o0, .inr (0, [.long (pk a0), .long (pk a1), .long (pkn q w), .int (iI ((w : Nat) : Int))])), (u0, .inl (cJ, 1, .inr (.inl (g))))]) [(o0, .inr (0, [.long (pk a0), .long (pk a1), .long (pkn q w), .int (iI ((w : Nat) : Int))])), (u0, .inl (cJ, 1, .inr (.inl (vp_updL (g) (iI 0).toNatClampNeg (0 : Int64)))))] := hD
    have hP : va_P (dC, dI) vwCl [(o0, .inr (0, [.long (pk a0), .long (pk a1), .long (pkn q w), .int (iI ((w : Nat) : Int))])), (u0, .inl (cJ, 1, .inr (.inl (fun _ => (if alN (deB (rw_ r a0 a1) 4) 3 = true then (1 : Int64) else 0)))))] H := va_P_larr (q0 := 1) (g := fun _ => (if alN (deB (rw_ r a0 a1) 4) 3 = true then (1 : Int64) else 0)) (fun j hj => (lup j hj).trans ((if_neg (by assumption)).symm)) rfl hP
    have hD : va_D (inW [(o0, .inr (0, [.long (pk a0), .long (pk a1), .long (pkn q w), .int (iI ((w : Nat) : Int))])), (u0, .inl (cJ, 1, .inr (.inl (g))))]) [(o0, .inr (0, [.long (pk a0), .long (pk a1), .long (pkn q w), .int (iI ((w : Nat) : Int))])), (u0, .inl (cJ, 1, .inr (.inl (fun _ => (if alN (deB (rw_ r a0 a1) 4) 3 = true then (1 : Int64) else 0)))))] := va_D_same (w := [(o0, .inr (0, [.long (pk a0), .long (pk a1), .long (pkn q w), .int (iI ((w : Nat) : Int))])), (u0, .inl (cJ, 1, .inr (.inl (vp_updL (g) (iI 0).toNatClampNeg (0 : Int64)))))]) (Eq.trans (b := [o0, u0]) rfl rfl) hD
    refine lv_goto (tgt := 28) hx hb dL_isDerived_17 (by decide) ?_
    refine ib_const hx hb dL_isDerived_28 ?_
    exact W.iret hx hb hr (fun t ht _ => ⟨rfl, by rw [ht]; exact hP, hS.F ht⟩) hS.2.2 dL_isDerived_29
  · skip
    refine lv_lconst (v := 1) hx hb dL_isDerived_11 (by decide) ?_
    refine lv_goto (tgt := 16) hx hb dL_isDerived_12 (by decide) ?_
    refine va_last hx hb hK hP hD hS 1 0 rfl rfl vp0 dL_isDerived_16 (fun H locs hP hD hS => ?_)
    have hP : va_P (dC, dI) vwCl [(o0, .inr (0, [.long (pk a0), .long (pk a1), .long (pkn q w), .int (iI ((w : Nat) : Int))])), (u0, .inl (cJ, 1, .inr (.inl (vp_updL (g) (iI 0).toNatClampNeg (1 : Int64)))))] H := hP
    have hD : va_D (inW [(o0, .inr (0, [.long (pk a0), .long (pk a1), .long (pkn q w), .int (iI ((w : Nat) : Int))])), (u0, .inl (cJ, 1, .inr (.inl (g))))]) [(o0, .inr (0, [.long (pk a0), .long (pk a1), .long (pkn q w), .int (iI ((w : Nat) : Int))])), (u0, .inl (cJ, 1, .inr (.inl (vp_updL (g) (iI 0).toNatClampNeg (1 : Int64)))))] := hD
    have hP : va_P (dC, dI) vwCl [(o0, .inr (0, [.long (pk a0), .long (pk a1), .long (pkn q w), .int (iI ((w : Nat) : Int))])), (u0, .inl (cJ, 1, .inr (.inl (fun _ => (if alN (deB (rw_ r a0 a1) 4) 3 = true then (1 : Int64) else 0)))))] H := va_P_larr (q0 := 1) (g := fun _ => (if alN (deB (rw_ r a0 a1) 4) 3 = true then (1 : Int64) else 0)) (fun j hj => (lup j hj).trans ((if_pos (by assumption)).symm)) rfl hP
    have hD : va_D (inW [(o0, .inr (0, [.long (pk a0), .long (pk a1), .long (pkn q w), .int (iI ((w : Nat) : Int))])), (u0, .inl (cJ, 1, .inr (.inl (g))))]) [(o0, .inr (0, [.long (pk a0), .long (pk a1), .long (pkn q w), .int (iI ((w : Nat) : Int))])), (u0, .inl (cJ, 1, .inr (.inl (fun _ => (if alN (deB (rw_ r a0 a1) 4) 3 = true then (1 : Int64) else 0)))))] := va_D_same (w := [(o0, .inr (0, [.long (pk a0), .long (pk a1), .long (pkn q w), .int (iI ((w : Nat) : Int))])), (u0, .inl (cJ, 1, .inr (.inl (vp_updL (g) (iI 0).toNatClampNeg (1 : Int64)))))]) (Eq.trans (b := [o0, u0]) rfl rfl) hD
    refine lv_goto (tgt := 28) hx hb dL_isDerived_17 (by decide) ?_
    refine ib_const hx hb dL_isDerived_28 ?_
    exact W.iret hx hb hr (fun t ht _ => ⟨rfl, by rw [ht]; exact hP, hS.F ht⟩) hS.2.2 dL_isDerived_29

set_option maxHeartbeats 4000000 in
set_option maxRecDepth 100000 in
theorem mL_isDerived_ok6 (l : Launch) (dC : Nat → ClassId) (dI : Nat → Nat → Nat) (cJ : ClassId) (o0 u0 : Nat) (a0 a1 q : Nat → Nat) (w : Nat) (hp0 : Pm a0) (hp1 : Pm a1) (hw : w ≤ 12) (hq : ∀ i, i < w → q i < 12) (hqd : ∀ i j, i < w → j < w → q i = q j → i = j) (g : Nat → Int64) (r : Nat) (hr9 : r < 2) : wr l yL_isDerived wsL_isDerived { frames := 5, cells := 0, slots := 0, locals := 114 } [.ref o0, .int (iI ((r : Nat) : Int)), .int (iI 6), .ref u0] (dC, dI) [(o0, .inr (0, [.long (pk a0), .long (pk a1), .long (pkn q w), .int (iI ((w : Nat) : Int))])), (u0, .inl (cJ, 1, .inr (.inl (g))))] [(cJ, .long)] [(o0, .inr (0, [.long (pk a0), .long (pk a1), .long (pkn q w), .int (iI ((w : Nat) : Int))])), (u0, .inl (cJ, 1, .inr (.inl (fun _ => (if alN (deB (rw_ r a0 a1) 6) 2 = true then (1 : Int64) else 0)))))] (some (.int (iI 0))) := by
  refine mt_ofWH (cc := cL_isDerived) (maxL := 5) (ret := (some .int)) (hh := [(0, 17, 20, 13), (0, 17, 24, 15)]) (by decide +kernel) rfl ?_
  intro P0 e s m args below meth c s₁ B hml hv
  obtain ⟨rfl, hP, hK, hD0⟩ := hv
  have hx := B.exec
  have hb := B.bytes
  have hr := B.returns
  have hts := atoms_spec (ws := wsL_isDerived) B.pre
  have hown : s.vm.findClass RL = some m.cls := findClass_of_methodNamed B.named
  have hlocks := B.notSynchronized
  have hD : va_D (inW [(o0, .inr (0, [.long (pk a0), .long (pk a1), .long (pkn q w), .int (iI ((w : Nat) : Int))])), (u0, .inl (cJ, 1, .inr (.inl (g))))]) [(o0, .inr (0, [.long (pk a0), .long (pk a1), .long (pkn q w), .int (iI ((w : Nat) : Int))])), (u0, .inl (cJ, 1, .inr (.inl (g))))] := va_D_in hD0
  have hS : va_S (inW [(o0, .inr (0, [.long (pk a0), .long (pk a1), .long (pkn q w), .int (iI ((w : Nat) : Int))])), (u0, .inl (cJ, 1, .inr (.inl (g))))]) s.heap s.heap [] := va_S.rf
  have hl := lv_entry ([.ref o0, .int (iI ((r : Nat) : Int)), .int (iI 6), .ref u0]) (n := 5) (Nat.le_of_ble_eq_true rfl)
  rw [lg_entry_eq]
  generalize (lg_sl ([.ref o0, .int (iI ((r : Nat) : Int)), .int (iI 6), .ref u0]) ++ List.replicate (5 - (lg_sl ([.ref o0, .int (iI ((r : Nat) : Int)), .int (iI 6), .ref u0])).length) Slot.unset).toArray = ls at hl ⊢
  have hl : lv_has ls 5 [(0, .ref o0), (1, .int (iI ((r : Nat) : Int))), (2, .int (iI 6)), (3, .ref u0)] := hl
  refine lv_aload_n hx hb dL_isDerived_0 rfl (lv_at hl 3 rfl) ?_
  refine ib_const hx hb dL_isDerived_1 ?_
  refine lv_aload_n hx hb dL_isDerived_2 rfl (lv_at hl 0 rfl) ?_
  refine lv_iload_n hx hb dL_isDerived_3 rfl (lv_at hl 1 rfl) ?_
  refine lv_iload_n hx hb dL_isDerived_4 rfl (lv_at hl 2 rfl) ?_
  have hPc : va_P (dC, dI) vwCl [(o0, .inr (0, [.long (pk a0), .long (pk a1), .long (pkn q w), .int (iI ((w : Nat) : Int))]))] s.heap := va_P_l (w1 := [(o0, .inr (0, [.long (pk a0), .long (pk a1), .long (pkn q w), .int (iI ((w : Nat) : Int))]))]) (w2 := [(u0, .inl (cJ, 1, .inr (.inl (g))))]) hP
  have hKc := hK.sub (tys' := []) [] rfl
  refine rd_call (va_runV (As := [.int (iI ((r : Nat) : Int)), .int (iI 6)]) (rest := [.int (iI 0), .ref u0]) ⟨hx, hb, hml, hown, hts⟩ (mX0_isDerived_ok6 l dC dI o0 a0 a1 q w hp0 hp1 hw hq hqd r hr9) (cwV 2 hts gL_isDerived_X0_isDerived rfl rfl rfl hvX0_isDerived ⟨Nat.le_of_ble_eq_true rfl, Nat.le_of_ble_eq_true rfl⟩) (bW_pre (ci := 0) (q0 := 0) hKc hPc rfl rfl rfl) rfl rfl hl.1 rfl (lv_room (Nat.le_of_ble_eq_true rfl)) dL_isDerived_5 ⟨Nat.le_of_ble_eq_true rfl, Nat.le_of_ble_eq_true rfl⟩) ?_
  refine bb_eq (tgt := 15) hx hb dL_isDerived_8 (by decide) (fun c_8 => ?_) (fun c_8 => ?_)
  · skip
    refine lv_lconst (v := 0) hx hb dL_isDerived_15 (by decide) ?_
    refine va_last hx hb hK hP hD hS 1 0 rfl rfl vp0 dL_isDerived_16 (fun H locs hP hD hS => ?_)
    have hP : va_P (dC, dI) vwCl [(o0, .inr (0, [.long (pk a0), .long (pk a1), .long (pkn q w), .int (iI ((w : Nat) : Int))])), (u0, .inl (cJ, 1, .inr (.inl (vp_updL (g) (iI 0).toNatClampNeg (0 : Int64)))))] H := hP
    have hD : va_D (inW [(o0, .inr (0, [.long (pk a0), .long (pk a1), .long (pkn q w), .int (iI ((w : Nat) : Int))])), (u0, .inl (cJ, 1, .inr (.inl (g))))]) [(o0, .inr (0, [.long (pk a0), .long (pk a1), .long (pkn q w), .int (iI ((w : Nat) : Int))])), (u0, .inl (cJ, 1, .inr (.inl (vp_updL (g) (iI 0).toNatClampNeg (0 : Int64)))))] := hD
    have hP : va_P (dC, dI) vwCl [(o0, .inr (0, [.long (pk a0), .long (pk a1), .long (pkn q w), .int (iI ((w : Nat) : Int))])), (u0, .inl (cJ, 1, .inr (.inl (fun _ => (if alN (deB (rw_ r a0 a1) 6) 2 = true then (1 : Int64) else 0)))))] H := va_P_larr (q0 := 1) (g := fun _ => (if alN (deB (rw_ r a0 a1) 6) 2 = true then (1 : Int64) else 0)) (fun j hj => (lup j hj).trans ((if_neg (by assumption)).symm)) rfl hP
    have hD : va_D (inW [(o0, .inr (0, [.long (pk a0), .long (pk a1), .long (pkn q w), .int (iI ((w : Nat) : Int))])), (u0, .inl (cJ, 1, .inr (.inl (g))))]) [(o0, .inr (0, [.long (pk a0), .long (pk a1), .long (pkn q w), .int (iI ((w : Nat) : Int))])), (u0, .inl (cJ, 1, .inr (.inl (fun _ => (if alN (deB (rw_ r a0 a1) 6) 2 = true then (1 : Int64) else 0)))))] := va_D_same (w := [(o0, .inr (0, [.long (pk a0), .long (pk a1), .long (pkn q w), .int (iI ((w : Nat) : Int))])), (u0, .inl (cJ, 1, .inr (.inl (vp_updL (g) (iI 0).toNatClampNeg (0 : Int64)))))]) (Eq.trans (b := [o0, u0]) rfl rfl) hD
    refine lv_goto (tgt := 28) hx hb dL_isDerived_17 (by decide) ?_
    refine ib_const hx hb dL_isDerived_28 ?_
    exact W.iret hx hb hr (fun t ht _ => ⟨rfl, by rw [ht]; exact hP, hS.F ht⟩) hS.2.2 dL_isDerived_29
  · skip
    refine lv_lconst (v := 1) hx hb dL_isDerived_11 (by decide) ?_
    refine lv_goto (tgt := 16) hx hb dL_isDerived_12 (by decide) ?_
    refine va_last hx hb hK hP hD hS 1 0 rfl rfl vp0 dL_isDerived_16 (fun H locs hP hD hS => ?_)
    have hP : va_P (dC, dI) vwCl [(o0, .inr (0, [.long (pk a0), .long (pk a1), .long (pkn q w), .int (iI ((w : Nat) : Int))])), (u0, .inl (cJ, 1, .inr (.inl (vp_updL (g) (iI 0).toNatClampNeg (1 : Int64)))))] H := hP
    have hD : va_D (inW [(o0, .inr (0, [.long (pk a0), .long (pk a1), .long (pkn q w), .int (iI ((w : Nat) : Int))])), (u0, .inl (cJ, 1, .inr (.inl (g))))]) [(o0, .inr (0, [.long (pk a0), .long (pk a1), .long (pkn q w), .int (iI ((w : Nat) : Int))])), (u0, .inl (cJ, 1, .inr (.inl (vp_updL (g) (iI 0).toNatClampNeg (1 : Int64)))))] := hD
    have hP : va_P (dC, dI) vwCl [(o0, .inr (0, [.long (pk a0), .long (pk a1), .long (pkn q w), .int (iI ((w : Nat) : Int))])), (u0, .inl (cJ, 1, .inr (.inl (fun _ => (if alN (deB (rw_ r a0 a1) 6) 2 = true then (1 : Int64) else 0)))))] H := va_P_larr (q0 := 1) (g := fun _ => (if alN (deB (rw_ r a0 a1) 6) 2 = true then (1 : Int64) else 0)) (fun j hj => (lup j hj).trans ((if_pos (by assumption)).symm)) rfl hP
    have hD : va_D (inW [(o0, .inr (0, [.long (pk a0), .long (pk a1), .long (pkn q w), .int (iI ((w : Nat) : Int))])), (u0, .inl (cJ, 1, .inr (.inl (g))))]) [(o0, .inr (0, [.long (pk a0), .long (pk a1), .long (pkn q w), .int (iI ((w : Nat) : Int))])), (u0, .inl (cJ, 1, .inr (.inl (fun _ => (if alN (deB (rw_ r a0 a1) 6) 2 = true then (1 : Int64) else 0)))))] := va_D_same (w := [(o0, .inr (0, [.long (pk a0), .long (pk a1), .long (pkn q w), .int (iI ((w : Nat) : Int))])), (u0, .inl (cJ, 1, .inr (.inl (vp_updL (g) (iI 0).toNatClampNeg (1 : Int64)))))]) (Eq.trans (b := [o0, u0]) rfl rfl) hD
    refine lv_goto (tgt := 28) hx hb dL_isDerived_17 (by decide) ?_
    refine ib_const hx hb dL_isDerived_28 ?_
    exact W.iret hx hb hr (fun t ht _ => ⟨rfl, by rw [ht]; exact hP, hS.F ht⟩) hS.2.2 dL_isDerived_29

set_option maxHeartbeats 4000000 in
set_option maxRecDepth 100000 in
theorem mL_isDerived_ok12 (l : Launch) (dC : Nat → ClassId) (dI : Nat → Nat → Nat) (cJ : ClassId) (o0 u0 : Nat) (a0 a1 q : Nat → Nat) (w : Nat) (hp0 : Pm a0) (hp1 : Pm a1) (hw : w ≤ 12) (hq : ∀ i, i < w → q i < 12) (hqd : ∀ i j, i < w → j < w → q i = q j → i = j) (g : Nat → Int64) (r : Nat) (hr9 : r < 2) : wr l yL_isDerived wsL_isDerived { frames := 5, cells := 0, slots := 0, locals := 114 } [.ref o0, .int (iI ((r : Nat) : Int)), .int (iI 12), .ref u0] (dC, dI) [(o0, .inr (0, [.long (pk a0), .long (pk a1), .long (pkn q w), .int (iI ((w : Nat) : Int))])), (u0, .inl (cJ, 1, .inr (.inl (g))))] [(cJ, .long)] [(o0, .inr (0, [.long (pk a0), .long (pk a1), .long (pkn q w), .int (iI ((w : Nat) : Int))])), (u0, .inl (cJ, 1, .inr (.inl (fun _ => (if alN (deB (rw_ r a0 a1) 12) 1 = true then (1 : Int64) else 0)))))] (some (.int (iI 0))) := by
  refine mt_ofWH (cc := cL_isDerived) (maxL := 5) (ret := (some .int)) (hh := [(0, 17, 20, 13), (0, 17, 24, 15)]) (by decide +kernel) rfl ?_
  intro P0 e s m args below meth c s₁ B hml hv
  obtain ⟨rfl, hP, hK, hD0⟩ := hv
  have hx := B.exec
  have hb := B.bytes
  have hr := B.returns
  have hts := atoms_spec (ws := wsL_isDerived) B.pre
  have hown : s.vm.findClass RL = some m.cls := findClass_of_methodNamed B.named
  have hlocks := B.notSynchronized
  have hD : va_D (inW [(o0, .inr (0, [.long (pk a0), .long (pk a1), .long (pkn q w), .int (iI ((w : Nat) : Int))])), (u0, .inl (cJ, 1, .inr (.inl (g))))]) [(o0, .inr (0, [.long (pk a0), .long (pk a1), .long (pkn q w), .int (iI ((w : Nat) : Int))])), (u0, .inl (cJ, 1, .inr (.inl (g))))] := va_D_in hD0
  have hS : va_S (inW [(o0, .inr (0, [.long (pk a0), .long (pk a1), .long (pkn q w), .int (iI ((w : Nat) : Int))])), (u0, .inl (cJ, 1, .inr (.inl (g))))]) s.heap s.heap [] := va_S.rf
  have hl := lv_entry ([.ref o0, .int (iI ((r : Nat) : Int)), .int (iI 12), .ref u0]) (n := 5) (Nat.le_of_ble_eq_true rfl)
  rw [lg_entry_eq]
  generalize (lg_sl ([.ref o0, .int (iI ((r : Nat) : Int)), .int (iI 12), .ref u0]) ++ List.replicate (5 - (lg_sl ([.ref o0, .int (iI ((r : Nat) : Int)), .int (iI 12), .ref u0])).length) Slot.unset).toArray = ls at hl ⊢
  have hl : lv_has ls 5 [(0, .ref o0), (1, .int (iI ((r : Nat) : Int))), (2, .int (iI 12)), (3, .ref u0)] := hl
  refine lv_aload_n hx hb dL_isDerived_0 rfl (lv_at hl 3 rfl) ?_
  refine ib_const hx hb dL_isDerived_1 ?_
  refine lv_aload_n hx hb dL_isDerived_2 rfl (lv_at hl 0 rfl) ?_
  refine lv_iload_n hx hb dL_isDerived_3 rfl (lv_at hl 1 rfl) ?_
  refine lv_iload_n hx hb dL_isDerived_4 rfl (lv_at hl 2 rfl) ?_
  have hPc : va_P (dC, dI) vwCl [(o0, .inr (0, [.long (pk a0), .long (pk a1), .long (pkn q w), .int (iI ((w : Nat) : Int))]))] s.heap := va_P_l (w1 := [(o0, .inr (0, [.long (pk a0), .long (pk a1), .long (pkn q w), .int (iI ((w : Nat) : Int))]))]) (w2 := [(u0, .inl (cJ, 1, .inr (.inl (g))))]) hP
  have hKc := hK.sub (tys' := []) [] rfl
  refine rd_call (va_runV (As := [.int (iI ((r : Nat) : Int)), .int (iI 12)]) (rest := [.int (iI 0), .ref u0]) ⟨hx, hb, hml, hown, hts⟩ (mX0_isDerived_ok12 l dC dI o0 a0 a1 q w hp0 hp1 hw hq hqd r hr9) (cwV 2 hts gL_isDerived_X0_isDerived rfl rfl rfl hvX0_isDerived ⟨Nat.le_of_ble_eq_true rfl, Nat.le_of_ble_eq_true rfl⟩) (bW_pre (ci := 0) (q0 := 0) hKc hPc rfl rfl rfl) rfl rfl hl.1 rfl (lv_room (Nat.le_of_ble_eq_true rfl)) dL_isDerived_5 ⟨Nat.le_of_ble_eq_true rfl, Nat.le_of_ble_eq_true rfl⟩) ?_
  refine bb_eq (tgt := 15) hx hb dL_isDerived_8 (by decide) (fun c_8 => ?_) (fun c_8 => ?_)
  · skip
    refine lv_lconst (v := 0) hx hb dL_isDerived_15 (by decide) ?_
    refine va_last hx hb hK hP hD hS 1 0 rfl rfl vp0 dL_isDerived_16 (fun H locs hP hD hS => ?_)
    have hP : va_P (dC, dI) vwCl [(o0, .inr (0, [.long (pk a0), .long (pk a1), .long (pkn q w), .int (iI ((w : Nat) : Int))])), (u0, .inl (cJ, 1, .inr (.inl (vp_updL (g) (iI 0).toNatClampNeg (0 : Int64)))))] H := hP
    have hD : va_D (inW [(o0, .inr (0, [.long (pk a0), .long (pk a1), .long (pkn q w), .int (iI ((w : Nat) : Int))])), (u0, .inl (cJ, 1, .inr (.inl (g))))]) [(o0, .inr (0, [.long (pk a0), .long (pk a1), .long (pkn q w), .int (iI ((w : Nat) : Int))])), (u0, .inl (cJ, 1, .inr (.inl (vp_updL (g) (iI 0).toNatClampNeg (0 : Int64)))))] := hD
    have hP : va_P (dC, dI) vwCl [(o0, .inr (0, [.long (pk a0), .long (pk a1), .long (pkn q w), .int (iI ((w : Nat) : Int))])), (u0, .inl (cJ, 1, .inr (.inl (fun _ => (if alN (deB (rw_ r a0 a1) 12) 1 = true then (1 : Int64) else 0)))))] H := va_P_larr (q0 := 1) (g := fun _ => (if alN (deB (rw_ r a0 a1) 12) 1 = true then (1 : Int64) else 0)) (fun j hj => (lup j hj).trans ((if_neg (by assumption)).symm)) rfl hP
    have hD : va_D (inW [(o0, .inr (0, [.long (pk a0), .long (pk a1), .long (pkn q w), .int (iI ((w : Nat) : Int))])), (u0, .inl (cJ, 1, .inr (.inl (g))))]) [(o0, .inr (0, [.long (pk a0), .long (pk a1), .long (pkn q w), .int (iI ((w : Nat) : Int))])), (u0, .inl (cJ, 1, .inr (.inl (fun _ => (if alN (deB (rw_ r a0 a1) 12) 1 = true then (1 : Int64) else 0)))))] := va_D_same (w := [(o0, .inr (0, [.long (pk a0), .long (pk a1), .long (pkn q w), .int (iI ((w : Nat) : Int))])), (u0, .inl (cJ, 1, .inr (.inl (vp_updL (g) (iI 0).toNatClampNeg (0 : Int64)))))]) (Eq.trans (b := [o0, u0]) rfl rfl) hD
    refine lv_goto (tgt := 28) hx hb dL_isDerived_17 (by decide) ?_
    refine ib_const hx hb dL_isDerived_28 ?_
    exact W.iret hx hb hr (fun t ht _ => ⟨rfl, by rw [ht]; exact hP, hS.F ht⟩) hS.2.2 dL_isDerived_29
  · skip
    refine lv_lconst (v := 1) hx hb dL_isDerived_11 (by decide) ?_
    refine lv_goto (tgt := 16) hx hb dL_isDerived_12 (by decide) ?_
    refine va_last hx hb hK hP hD hS 1 0 rfl rfl vp0 dL_isDerived_16 (fun H locs hP hD hS => ?_)
    have hP : va_P (dC, dI) vwCl [(o0, .inr (0, [.long (pk a0), .long (pk a1), .long (pkn q w), .int (iI ((w : Nat) : Int))])), (u0, .inl (cJ, 1, .inr (.inl (vp_updL (g) (iI 0).toNatClampNeg (1 : Int64)))))] H := hP
    have hD : va_D (inW [(o0, .inr (0, [.long (pk a0), .long (pk a1), .long (pkn q w), .int (iI ((w : Nat) : Int))])), (u0, .inl (cJ, 1, .inr (.inl (g))))]) [(o0, .inr (0, [.long (pk a0), .long (pk a1), .long (pkn q w), .int (iI ((w : Nat) : Int))])), (u0, .inl (cJ, 1, .inr (.inl (vp_updL (g) (iI 0).toNatClampNeg (1 : Int64)))))] := hD
    have hP : va_P (dC, dI) vwCl [(o0, .inr (0, [.long (pk a0), .long (pk a1), .long (pkn q w), .int (iI ((w : Nat) : Int))])), (u0, .inl (cJ, 1, .inr (.inl (fun _ => (if alN (deB (rw_ r a0 a1) 12) 1 = true then (1 : Int64) else 0)))))] H := va_P_larr (q0 := 1) (g := fun _ => (if alN (deB (rw_ r a0 a1) 12) 1 = true then (1 : Int64) else 0)) (fun j hj => (lup j hj).trans ((if_pos (by assumption)).symm)) rfl hP
    have hD : va_D (inW [(o0, .inr (0, [.long (pk a0), .long (pk a1), .long (pkn q w), .int (iI ((w : Nat) : Int))])), (u0, .inl (cJ, 1, .inr (.inl (g))))]) [(o0, .inr (0, [.long (pk a0), .long (pk a1), .long (pkn q w), .int (iI ((w : Nat) : Int))])), (u0, .inl (cJ, 1, .inr (.inl (fun _ => (if alN (deB (rw_ r a0 a1) 12) 1 = true then (1 : Int64) else 0)))))] := va_D_same (w := [(o0, .inr (0, [.long (pk a0), .long (pk a1), .long (pkn q w), .int (iI ((w : Nat) : Int))])), (u0, .inl (cJ, 1, .inr (.inl (vp_updL (g) (iI 0).toNatClampNeg (1 : Int64)))))]) (Eq.trans (b := [o0, u0]) rfl rfl) hD
    refine lv_goto (tgt := 28) hx hb dL_isDerived_17 (by decide) ?_
    refine ib_const hx hb dL_isDerived_28 ?_
    exact W.iret hx hb hr (fun t ht _ => ⟨rfl, by rw [ht]; exact hP, hS.F ht⟩) hS.2.2 dL_isDerived_29

set_option maxHeartbeats 4000000 in
set_option maxRecDepth 100000 in
theorem mL_keptSets_ok (l : Launch) (dC : Nat → ClassId) (dI : Nat → Nat → Nat) (cJ : ClassId) (o0 u0 : Nat) (a0 a1 q : Nat → Nat) (w : Nat) (hp0 : Pm a0) (hp1 : Pm a1) (hw : w ≤ 12) (hq : ∀ i, i < w → q i < 12) (hqd : ∀ i j, i < w → j < w → q i = q j → i = j) (g : Nat → Int64) (r k i len : Nat) (hr9 : r < 2) (hk : k < 4) (hi : i < 12) (hl1 : 1 ≤ len) (hl2 : len ≤ 12) : wr l yL_keptSets wsL_keptSets { frames := 5, cells := 0, slots := 0, locals := 125 } [.ref o0, .int (iI ((r : Nat) : Int)), .int (iI ((k : Nat) : Int)), .int (iI ((i : Nat) : Int)), .int (iI ((len : Nat) : Int)), .ref u0] (dC, dI) [(o0, .inr (0, [.long (pk a0), .long (pk a1), .long (pkn q w), .int (iI ((w : Nat) : Int))])), (u0, .inl (cJ, 1, .inr (.inl (g))))] [(cJ, .long)] [(o0, .inr (0, [.long (pk a0), .long (pk a1), .long (pkn q w), .int (iI ((w : Nat) : Int))])), (u0, .inl (cJ, 1, .inr (.inl (fun _ => (iI ((skN (rw_ r a0 a1) (12 * k + i) len (13 - len) : Nat) : Int)).toInt64))))] (some (.int (iI 0))) := by
  refine mt_ofWH (cc := cL_keptSets) (maxL := 7) (ret := (some .int)) (hh := [(0, 14, 17, 13), (0, 14, 21, 15)]) (by decide +kernel) rfl ?_
  intro P0 e s m args below meth c s₁ B hml hv
  obtain ⟨rfl, hP, hK, hD0⟩ := hv
  have hx := B.exec
  have hb := B.bytes
  have hr := B.returns
  have hts := atoms_spec (ws := wsL_keptSets) B.pre
  have hown : s.vm.findClass RL = some m.cls := findClass_of_methodNamed B.named
  have hlocks := B.notSynchronized
  have hD : va_D (inW [(o0, .inr (0, [.long (pk a0), .long (pk a1), .long (pkn q w), .int (iI ((w : Nat) : Int))])), (u0, .inl (cJ, 1, .inr (.inl (g))))]) [(o0, .inr (0, [.long (pk a0), .long (pk a1), .long (pkn q w), .int (iI ((w : Nat) : Int))])), (u0, .inl (cJ, 1, .inr (.inl (g))))] := va_D_in hD0
  have hS : va_S (inW [(o0, .inr (0, [.long (pk a0), .long (pk a1), .long (pkn q w), .int (iI ((w : Nat) : Int))])), (u0, .inl (cJ, 1, .inr (.inl (g))))]) s.heap s.heap [] := va_S.rf
  have hl := lv_entry ([.ref o0, .int (iI ((r : Nat) : Int)), .int (iI ((k : Nat) : Int)), .int (iI ((i : Nat) : Int)), .int (iI ((len : Nat) : Int)), .ref u0]) (n := 7) (Nat.le_of_ble_eq_true rfl)
  rw [lg_entry_eq]
  generalize (lg_sl ([.ref o0, .int (iI ((r : Nat) : Int)), .int (iI ((k : Nat) : Int)), .int (iI ((i : Nat) : Int)), .int (iI ((len : Nat) : Int)), .ref u0]) ++ List.replicate (7 - (lg_sl ([.ref o0, .int (iI ((r : Nat) : Int)), .int (iI ((k : Nat) : Int)), .int (iI ((i : Nat) : Int)), .int (iI ((len : Nat) : Int)), .ref u0])).length) Slot.unset).toArray = ls at hl ⊢
  have hl : lv_has ls 7 [(0, .ref o0), (1, .int (iI ((r : Nat) : Int))), (2, .int (iI ((k : Nat) : Int))), (3, .int (iI ((i : Nat) : Int))), (4, .int (iI ((len : Nat) : Int))), (5, .ref u0)] := hl
  refine lv_aload hx hb dL_keptSets_0 (lv_at hl 5 rfl) ?_
  refine ib_const hx hb dL_keptSets_2 ?_
  refine lv_aload_n hx hb dL_keptSets_3 rfl (lv_at hl 0 rfl) ?_
  refine lv_iload_n hx hb dL_keptSets_4 rfl (lv_at hl 1 rfl) ?_
  refine lv_iload_n hx hb dL_keptSets_5 rfl (lv_at hl 2 rfl) ?_
  refine lv_iload_n hx hb dL_keptSets_6 rfl (lv_at hl 3 rfl) ?_
  refine lv_iload hx hb dL_keptSets_7 (lv_at hl 4 rfl) ?_
  have hPc : va_P (dC, dI) vwCl [(o0, .inr (0, [.long (pk a0), .long (pk a1), .long (pkn q w), .int (iI ((w : Nat) : Int))]))] s.heap := va_P_l (w1 := [(o0, .inr (0, [.long (pk a0), .long (pk a1), .long (pkn q w), .int (iI ((w : Nat) : Int))]))]) (w2 := [(u0, .inl (cJ, 1, .inr (.inl (g))))]) hP
  have hKc := hK.sub (tys' := []) [] rfl
  refine rd_call (va_runV (As := [.int (iI ((r : Nat) : Int)), .int (iI ((k : Nat) : Int)), .int (iI ((i : Nat) : Int)), .int (iI ((len : Nat) : Int))]) (rest := [.int (iI 0), .ref u0]) ⟨hx, hb, hml, hown, hts⟩ (mX0_keptSets_ok l dC dI o0 a0 a1 q w hp0 hp1 hw hq hqd r k i len hr9 hk hi hl1 hl2) (cwV 4 hts gL_keptSets_X0_keptSets rfl rfl rfl hvX0_keptSets ⟨Nat.le_of_ble_eq_true rfl, Nat.le_of_ble_eq_true rfl⟩) (bW_pre (ci := 0) (q0 := 0) hKc hPc rfl rfl rfl) rfl rfl hl.1 rfl (lv_room (Nat.le_of_ble_eq_true rfl)) dL_keptSets_9 ⟨Nat.le_of_ble_eq_true rfl, Nat.le_of_ble_eq_true rfl⟩) ?_
  refine lv_i2l hx hb dL_keptSets_12 rfl ?_
  refine va_last hx hb hK hP hD hS 1 0 rfl rfl vp0 dL_keptSets_13 (fun H locs hP hD hS => ?_)
  have hP : va_P (dC, dI) vwCl [(o0, .inr (0, [.long (pk a0), .long (pk a1), .long (pkn q w), .int (iI ((w : Nat) : Int))])), (u0, .inl (cJ, 1, .inr (.inl (vp_updL (g) (iI 0).toNatClampNeg ((iI ((skN (rw_ r a0 a1) (12 * k + i) len (13 - len) : Nat) : Int)).toInt64)))))] H := hP
  have hD : va_D (inW [(o0, .inr (0, [.long (pk a0), .long (pk a1), .long (pkn q w), .int (iI ((w : Nat) : Int))])), (u0, .inl (cJ, 1, .inr (.inl (g))))]) [(o0, .inr (0, [.long (pk a0), .long (pk a1), .long (pkn q w), .int (iI ((w : Nat) : Int))])), (u0, .inl (cJ, 1, .inr (.inl (vp_updL (g) (iI 0).toNatClampNeg ((iI ((skN (rw_ r a0 a1) (12 * k + i) len (13 - len) : Nat) : Int)).toInt64)))))] := hD
  have hP : va_P (dC, dI) vwCl [(o0, .inr (0, [.long (pk a0), .long (pk a1), .long (pkn q w), .int (iI ((w : Nat) : Int))])), (u0, .inl (cJ, 1, .inr (.inl (fun _ => (iI ((skN (rw_ r a0 a1) (12 * k + i) len (13 - len) : Nat) : Int)).toInt64))))] H := va_P_larr (q0 := 1) (g := fun _ => (iI ((skN (rw_ r a0 a1) (12 * k + i) len (13 - len) : Nat) : Int)).toInt64) (fun j hj => lup j hj) rfl hP
  have hD : va_D (inW [(o0, .inr (0, [.long (pk a0), .long (pk a1), .long (pkn q w), .int (iI ((w : Nat) : Int))])), (u0, .inl (cJ, 1, .inr (.inl (g))))]) [(o0, .inr (0, [.long (pk a0), .long (pk a1), .long (pkn q w), .int (iI ((w : Nat) : Int))])), (u0, .inl (cJ, 1, .inr (.inl (fun _ => (iI ((skN (rw_ r a0 a1) (12 * k + i) len (13 - len) : Nat) : Int)).toInt64))))] := va_D_same (w := [(o0, .inr (0, [.long (pk a0), .long (pk a1), .long (pkn q w), .int (iI ((w : Nat) : Int))])), (u0, .inl (cJ, 1, .inr (.inl (vp_updL (g) (iI 0).toNatClampNeg ((iI ((skN (rw_ r a0 a1) (12 * k + i) len (13 - len) : Nat) : Int)).toInt64)))))]) (Eq.trans (b := [o0, u0]) rfl rfl) hD
  refine lv_goto (tgt := 25) hx hb dL_keptSets_14 (by decide) ?_
  refine ib_const hx hb dL_keptSets_25 ?_
  exact W.iret hx hb hr (fun t ht _ => ⟨rfl, by rw [ht]; exact hP, hS.F ht⟩) hS.2.2 dL_keptSets_26

set_option maxHeartbeats 4000000 in
set_option maxRecDepth 100000 in
theorem mL_longestKept_ok (l : Launch) (dC : Nat → ClassId) (dI : Nat → Nat → Nat) (cJ : ClassId) (o0 u0 : Nat) (a0 a1 q : Nat → Nat) (w : Nat) (hp0 : Pm a0) (hp1 : Pm a1) (hw : w ≤ 12) (hq : ∀ i, i < w → q i < 12) (hqd : ∀ i j, i < w → j < w → q i = q j → i = j) (g : Nat → Int64) (r k i : Nat) (hr9 : r < 2) (hk : k < 4) (hi : i < 12) : wr l yL_longestKept wsL_longestKept { frames := 4, cells := 0, slots := 0, locals := 105 } [.ref o0, .int (iI ((r : Nat) : Int)), .int (iI ((k : Nat) : Int)), .int (iI ((i : Nat) : Int)), .ref u0] (dC, dI) [(o0, .inr (0, [.long (pk a0), .long (pk a1), .long (pkn q w), .int (iI ((w : Nat) : Int))])), (u0, .inl (cJ, 1, .inr (.inl (g))))] [(cJ, .long)] [(o0, .inr (0, [.long (pk a0), .long (pk a1), .long (pkn q w), .int (iI ((w : Nat) : Int))])), (u0, .inl (cJ, 1, .inr (.inl (fun _ => (iI ((lkO (rw_ r a0 a1) (fm (rw_ r a0 a1) (12 * k + i)) 12 : Nat) : Int)).toInt64))))] (some (.int (iI 0))) := by
  refine mt_ofWH (cc := cL_longestKept) (maxL := 6) (ret := (some .int)) (hh := [(0, 12, 15, 13), (0, 12, 19, 15)]) (by decide +kernel) rfl ?_
  intro P0 e s m args below meth c s₁ B hml hv
  obtain ⟨rfl, hP, hK, hD0⟩ := hv
  have hx := B.exec
  have hb := B.bytes
  have hr := B.returns
  have hts := atoms_spec (ws := wsL_longestKept) B.pre
  have hown : s.vm.findClass RL = some m.cls := findClass_of_methodNamed B.named
  have hlocks := B.notSynchronized
  have hD : va_D (inW [(o0, .inr (0, [.long (pk a0), .long (pk a1), .long (pkn q w), .int (iI ((w : Nat) : Int))])), (u0, .inl (cJ, 1, .inr (.inl (g))))]) [(o0, .inr (0, [.long (pk a0), .long (pk a1), .long (pkn q w), .int (iI ((w : Nat) : Int))])), (u0, .inl (cJ, 1, .inr (.inl (g))))] := va_D_in hD0
  have hS : va_S (inW [(o0, .inr (0, [.long (pk a0), .long (pk a1), .long (pkn q w), .int (iI ((w : Nat) : Int))])), (u0, .inl (cJ, 1, .inr (.inl (g))))]) s.heap s.heap [] := va_S.rf
  have hl := lv_entry ([.ref o0, .int (iI ((r : Nat) : Int)), .int (iI ((k : Nat) : Int)), .int (iI ((i : Nat) : Int)), .ref u0]) (n := 6) (Nat.le_of_ble_eq_true rfl)
  rw [lg_entry_eq]
  generalize (lg_sl ([.ref o0, .int (iI ((r : Nat) : Int)), .int (iI ((k : Nat) : Int)), .int (iI ((i : Nat) : Int)), .ref u0]) ++ List.replicate (6 - (lg_sl ([.ref o0, .int (iI ((r : Nat) : Int)), .int (iI ((k : Nat) : Int)), .int (iI ((i : Nat) : Int)), .ref u0])).length) Slot.unset).toArray = ls at hl ⊢
  have hl : lv_has ls 6 [(0, .ref o0), (1, .int (iI ((r : Nat) : Int))), (2, .int (iI ((k : Nat) : Int))), (3, .int (iI ((i : Nat) : Int))), (4, .ref u0)] := hl
  refine lv_aload hx hb dL_longestKept_0 (lv_at hl 4 rfl) ?_
  refine ib_const hx hb dL_longestKept_2 ?_
  refine lv_aload_n hx hb dL_longestKept_3 rfl (lv_at hl 0 rfl) ?_
  refine lv_iload_n hx hb dL_longestKept_4 rfl (lv_at hl 1 rfl) ?_
  refine lv_iload_n hx hb dL_longestKept_5 rfl (lv_at hl 2 rfl) ?_
  refine lv_iload_n hx hb dL_longestKept_6 rfl (lv_at hl 3 rfl) ?_
  have hPc : va_P (dC, dI) vwCl [(o0, .inr (0, [.long (pk a0), .long (pk a1), .long (pkn q w), .int (iI ((w : Nat) : Int))]))] s.heap := va_P_l (w1 := [(o0, .inr (0, [.long (pk a0), .long (pk a1), .long (pkn q w), .int (iI ((w : Nat) : Int))]))]) (w2 := [(u0, .inl (cJ, 1, .inr (.inl (g))))]) hP
  have hKc := hK.sub (tys' := []) [] rfl
  refine rd_call (va_runV (As := [.int (iI ((r : Nat) : Int)), .int (iI ((k : Nat) : Int)), .int (iI ((i : Nat) : Int))]) (rest := [.int (iI 0), .ref u0]) ⟨hx, hb, hml, hown, hts⟩ (mX0_longestKept_ok l dC dI o0 a0 a1 q w hp0 hp1 hw hq hqd r k i hr9 hk hi) (cwV 3 hts gL_longestKept_X0_longestKept rfl rfl rfl hvX0_longestKept ⟨Nat.le_of_ble_eq_true rfl, Nat.le_of_ble_eq_true rfl⟩) (bW_pre (ci := 0) (q0 := 0) hKc hPc rfl rfl rfl) rfl rfl hl.1 rfl (lv_room (Nat.le_of_ble_eq_true rfl)) dL_longestKept_7 ⟨Nat.le_of_ble_eq_true rfl, Nat.le_of_ble_eq_true rfl⟩) ?_
  refine lv_i2l hx hb dL_longestKept_10 rfl ?_
  refine va_last hx hb hK hP hD hS 1 0 rfl rfl vp0 dL_longestKept_11 (fun H locs hP hD hS => ?_)
  have hP : va_P (dC, dI) vwCl [(o0, .inr (0, [.long (pk a0), .long (pk a1), .long (pkn q w), .int (iI ((w : Nat) : Int))])), (u0, .inl (cJ, 1, .inr (.inl (vp_updL (g) (iI 0).toNatClampNeg ((iI ((lkO (rw_ r a0 a1) (fm (rw_ r a0 a1) (12 * k + i)) 12 : Nat) : Int)).toInt64)))))] H := hP
  have hD : va_D (inW [(o0, .inr (0, [.long (pk a0), .long (pk a1), .long (pkn q w), .int (iI ((w : Nat) : Int))])), (u0, .inl (cJ, 1, .inr (.inl (g))))]) [(o0, .inr (0, [.long (pk a0), .long (pk a1), .long (pkn q w), .int (iI ((w : Nat) : Int))])), (u0, .inl (cJ, 1, .inr (.inl (vp_updL (g) (iI 0).toNatClampNeg ((iI ((lkO (rw_ r a0 a1) (fm (rw_ r a0 a1) (12 * k + i)) 12 : Nat) : Int)).toInt64)))))] := hD
  have hP : va_P (dC, dI) vwCl [(o0, .inr (0, [.long (pk a0), .long (pk a1), .long (pkn q w), .int (iI ((w : Nat) : Int))])), (u0, .inl (cJ, 1, .inr (.inl (fun _ => (iI ((lkO (rw_ r a0 a1) (fm (rw_ r a0 a1) (12 * k + i)) 12 : Nat) : Int)).toInt64))))] H := va_P_larr (q0 := 1) (g := fun _ => (iI ((lkO (rw_ r a0 a1) (fm (rw_ r a0 a1) (12 * k + i)) 12 : Nat) : Int)).toInt64) (fun j hj => lup j hj) rfl hP
  have hD : va_D (inW [(o0, .inr (0, [.long (pk a0), .long (pk a1), .long (pkn q w), .int (iI ((w : Nat) : Int))])), (u0, .inl (cJ, 1, .inr (.inl (g))))]) [(o0, .inr (0, [.long (pk a0), .long (pk a1), .long (pkn q w), .int (iI ((w : Nat) : Int))])), (u0, .inl (cJ, 1, .inr (.inl (fun _ => (iI ((lkO (rw_ r a0 a1) (fm (rw_ r a0 a1) (12 * k + i)) 12 : Nat) : Int)).toInt64))))] := va_D_same (w := [(o0, .inr (0, [.long (pk a0), .long (pk a1), .long (pkn q w), .int (iI ((w : Nat) : Int))])), (u0, .inl (cJ, 1, .inr (.inl (vp_updL (g) (iI 0).toNatClampNeg ((iI ((lkO (rw_ r a0 a1) (fm (rw_ r a0 a1) (12 * k + i)) 12 : Nat) : Int)).toInt64)))))]) (Eq.trans (b := [o0, u0]) rfl rfl) hD
  refine lv_goto (tgt := 23) hx hb dL_longestKept_12 (by decide) ?_
  refine ib_const hx hb dL_longestKept_23 ?_
  exact W.iret hx hb hr (fun t ht _ => ⟨rfl, by rw [ht]; exact hP, hS.F ht⟩) hS.2.2 dL_longestKept_24

set_option maxHeartbeats 4000000 in
set_option maxRecDepth 100000 in
theorem mL_mostKept_ok (l : Launch) (dC : Nat → ClassId) (dI : Nat → Nat → Nat) (cJ : ClassId) (o0 u0 : Nat) (a0 a1 q : Nat → Nat) (w : Nat) (hp0 : Pm a0) (hp1 : Pm a1) (hw : w ≤ 12) (hq : ∀ i, i < w → q i < 12) (hqd : ∀ i j, i < w → j < w → q i = q j → i = j) (g : Nat → Int64) (r k : Nat) (hr9 : r < 2) (hk1 : 2 ≤ k) (hk2 : k ≤ 11) : wr l yL_mostKept wsL_mostKept { frames := 5, cells := 0, slots := 0, locals := 128 } [.ref o0, .int (iI ((r : Nat) : Int)), .int (iI ((k : Nat) : Int)), .ref u0] (dC, dI) [(o0, .inr (0, [.long (pk a0), .long (pk a1), .long (pkn q w), .int (iI ((w : Nat) : Int))])), (u0, .inl (cJ, 1, .inr (.inl (g))))] [(cJ, .long)] [(o0, .inr (0, [.long (pk a0), .long (pk a1), .long (pkn q w), .int (iI ((w : Nat) : Int))])), (u0, .inl (cJ, 1, .inr (.inl (fun _ => (iI (mkC (rw_ r a0 a1) k 48)).toInt64))))] (some (.int (iI 0))) := by
  refine mt_ofWH (cc := cL_mostKept) (maxL := 5) (ret := (some .int)) (hh := [(0, 10, 13, 13), (0, 10, 17, 15)]) (by decide +kernel) rfl ?_
  intro P0 e s m args below meth c s₁ B hml hv
  obtain ⟨rfl, hP, hK, hD0⟩ := hv
  have hx := B.exec
  have hb := B.bytes
  have hr := B.returns
  have hts := atoms_spec (ws := wsL_mostKept) B.pre
  have hown : s.vm.findClass RL = some m.cls := findClass_of_methodNamed B.named
  have hlocks := B.notSynchronized
  have hD : va_D (inW [(o0, .inr (0, [.long (pk a0), .long (pk a1), .long (pkn q w), .int (iI ((w : Nat) : Int))])), (u0, .inl (cJ, 1, .inr (.inl (g))))]) [(o0, .inr (0, [.long (pk a0), .long (pk a1), .long (pkn q w), .int (iI ((w : Nat) : Int))])), (u0, .inl (cJ, 1, .inr (.inl (g))))] := va_D_in hD0
  have hS : va_S (inW [(o0, .inr (0, [.long (pk a0), .long (pk a1), .long (pkn q w), .int (iI ((w : Nat) : Int))])), (u0, .inl (cJ, 1, .inr (.inl (g))))]) s.heap s.heap [] := va_S.rf
  have hl := lv_entry ([.ref o0, .int (iI ((r : Nat) : Int)), .int (iI ((k : Nat) : Int)), .ref u0]) (n := 5) (Nat.le_of_ble_eq_true rfl)
  rw [lg_entry_eq]
  generalize (lg_sl ([.ref o0, .int (iI ((r : Nat) : Int)), .int (iI ((k : Nat) : Int)), .ref u0]) ++ List.replicate (5 - (lg_sl ([.ref o0, .int (iI ((r : Nat) : Int)), .int (iI ((k : Nat) : Int)), .ref u0])).length) Slot.unset).toArray = ls at hl ⊢
  have hl : lv_has ls 5 [(0, .ref o0), (1, .int (iI ((r : Nat) : Int))), (2, .int (iI ((k : Nat) : Int))), (3, .ref u0)] := hl
  refine lv_aload_n hx hb dL_mostKept_0 rfl (lv_at hl 3 rfl) ?_
  refine ib_const hx hb dL_mostKept_1 ?_
  refine lv_aload_n hx hb dL_mostKept_2 rfl (lv_at hl 0 rfl) ?_
  refine lv_iload_n hx hb dL_mostKept_3 rfl (lv_at hl 1 rfl) ?_
  refine lv_iload_n hx hb dL_mostKept_4 rfl (lv_at hl 2 rfl) ?_
  have hPc : va_P (dC, dI) vwCl [(o0, .inr (0, [.long (pk a0), .long (pk a1), .long (pkn q w), .int (iI ((w : Nat) : Int))]))] s.heap := va_P_l (w1 := [(o0, .inr (0, [.long (pk a0), .long (pk a1), .long (pkn q w), .int (iI ((w : Nat) : Int))]))]) (w2 := [(u0, .inl (cJ, 1, .inr (.inl (g))))]) hP
  have hKc := hK.sub (tys' := []) [] rfl
  refine rd_call (va_runV (As := [.int (iI ((r : Nat) : Int)), .int (iI ((k : Nat) : Int))]) (rest := [.int (iI 0), .ref u0]) ⟨hx, hb, hml, hown, hts⟩ (mX0_mostKept_ok l dC dI o0 a0 a1 q w hp0 hp1 hw hq hqd r k hr9 hk1 hk2) (cwV 2 hts gL_mostKept_X0_mostKept rfl rfl rfl hvX0_mostKept ⟨Nat.le_of_ble_eq_true rfl, Nat.le_of_ble_eq_true rfl⟩) (bW_pre (ci := 0) (q0 := 0) hKc hPc rfl rfl rfl) rfl rfl hl.1 rfl (lv_room (Nat.le_of_ble_eq_true rfl)) dL_mostKept_5 ⟨Nat.le_of_ble_eq_true rfl, Nat.le_of_ble_eq_true rfl⟩) ?_
  refine lv_i2l hx hb dL_mostKept_8 rfl ?_
  refine va_last hx hb hK hP hD hS 1 0 rfl rfl vp0 dL_mostKept_9 (fun H locs hP hD hS => ?_)
  have hP : va_P (dC, dI) vwCl [(o0, .inr (0, [.long (pk a0), .long (pk a1), .long (pkn q w), .int (iI ((w : Nat) : Int))])), (u0, .inl (cJ, 1, .inr (.inl (vp_updL (g) (iI 0).toNatClampNeg ((iI (mkC (rw_ r a0 a1) k 48)).toInt64)))))] H := hP
  have hD : va_D (inW [(o0, .inr (0, [.long (pk a0), .long (pk a1), .long (pkn q w), .int (iI ((w : Nat) : Int))])), (u0, .inl (cJ, 1, .inr (.inl (g))))]) [(o0, .inr (0, [.long (pk a0), .long (pk a1), .long (pkn q w), .int (iI ((w : Nat) : Int))])), (u0, .inl (cJ, 1, .inr (.inl (vp_updL (g) (iI 0).toNatClampNeg ((iI (mkC (rw_ r a0 a1) k 48)).toInt64)))))] := hD
  have hP : va_P (dC, dI) vwCl [(o0, .inr (0, [.long (pk a0), .long (pk a1), .long (pkn q w), .int (iI ((w : Nat) : Int))])), (u0, .inl (cJ, 1, .inr (.inl (fun _ => (iI (mkC (rw_ r a0 a1) k 48)).toInt64))))] H := va_P_larr (q0 := 1) (g := fun _ => (iI (mkC (rw_ r a0 a1) k 48)).toInt64) (fun j hj => lup j hj) rfl hP
  have hD : va_D (inW [(o0, .inr (0, [.long (pk a0), .long (pk a1), .long (pkn q w), .int (iI ((w : Nat) : Int))])), (u0, .inl (cJ, 1, .inr (.inl (g))))]) [(o0, .inr (0, [.long (pk a0), .long (pk a1), .long (pkn q w), .int (iI ((w : Nat) : Int))])), (u0, .inl (cJ, 1, .inr (.inl (fun _ => (iI (mkC (rw_ r a0 a1) k 48)).toInt64))))] := va_D_same (w := [(o0, .inr (0, [.long (pk a0), .long (pk a1), .long (pkn q w), .int (iI ((w : Nat) : Int))])), (u0, .inl (cJ, 1, .inr (.inl (vp_updL (g) (iI 0).toNatClampNeg ((iI (mkC (rw_ r a0 a1) k 48)).toInt64)))))]) (Eq.trans (b := [o0, u0]) rfl rfl) hD
  refine lv_goto (tgt := 21) hx hb dL_mostKept_10 (by decide) ?_
  refine ib_const hx hb dL_mostKept_21 ?_
  exact W.iret hx hb hr (fun t ht _ => ⟨rfl, by rw [ht]; exact hP, hS.F ht⟩) hS.2.2 dL_mostKept_22

set_option maxHeartbeats 4000000 in
set_option maxRecDepth 100000 in
theorem mL_cuts_ok (l : Launch) (dC : Nat → ClassId) (dI : Nat → Nat → Nat) (cJ : ClassId) (o0 u0 : Nat) (a0 a1 q : Nat → Nat) (w : Nat) (hp0 : Pm a0) (hp1 : Pm a1) (hw : w ≤ 12) (hq : ∀ i, i < w → q i < 12) (hqd : ∀ i j, i < w → j < w → q i = q j → i = j) (g : Nat → Int64) (c1 c2 : Nat) (hc1 : c1 < 48) (hc2 : c2 < 48) : wr l yL_cuts wsL_cuts { frames := 4, cells := 0, slots := 0, locals := 102 } [.ref o0, .int (iI ((c1 : Nat) : Int)), .int (iI ((c2 : Nat) : Int)), .ref u0] (dC, dI) [(o0, .inr (0, [.long (pk a0), .long (pk a1), .long (pkn q w), .int (iI ((w : Nat) : Int))])), (u0, .inl (cJ, 1, .inr (.inl (g))))] [(cJ, .long)] [(o0, .inr (0, [.long (pk a0), .long (pk a1), .long (pkn q w), .int (iI ((w : Nat) : Int))])), (u0, .inl (cJ, 1, .inr (.inl (fun _ => (iI ((ctN (fm (rw_ 0 a0 a1) c1) (fm (rw_ 1 a0 a1) c2) 13 : Nat) : Int)).toInt64))))] (some (.int (iI 0))) := by
  refine mt_ofWH (cc := cL_cuts) (maxL := 5) (ret := (some .int)) (hh := [(0, 10, 13, 15)]) (by decide +kernel) rfl ?_
  intro P0 e s m args below meth c s₁ B hml hv
  obtain ⟨rfl, hP, hK, hD0⟩ := hv
  have hx := B.exec
  have hb := B.bytes
  have hr := B.returns
  have hts := atoms_spec (ws := wsL_cuts) B.pre
  have hown : s.vm.findClass RL = some m.cls := findClass_of_methodNamed B.named
  have hlocks := B.notSynchronized
  have hD : va_D (inW [(o0, .inr (0, [.long (pk a0), .long (pk a1), .long (pkn q w), .int (iI ((w : Nat) : Int))])), (u0, .inl (cJ, 1, .inr (.inl (g))))]) [(o0, .inr (0, [.long (pk a0), .long (pk a1), .long (pkn q w), .int (iI ((w : Nat) : Int))])), (u0, .inl (cJ, 1, .inr (.inl (g))))] := va_D_in hD0
  have hS : va_S (inW [(o0, .inr (0, [.long (pk a0), .long (pk a1), .long (pkn q w), .int (iI ((w : Nat) : Int))])), (u0, .inl (cJ, 1, .inr (.inl (g))))]) s.heap s.heap [] := va_S.rf
  have hl := lv_entry ([.ref o0, .int (iI ((c1 : Nat) : Int)), .int (iI ((c2 : Nat) : Int)), .ref u0]) (n := 5) (Nat.le_of_ble_eq_true rfl)
  rw [lg_entry_eq]
  generalize (lg_sl ([.ref o0, .int (iI ((c1 : Nat) : Int)), .int (iI ((c2 : Nat) : Int)), .ref u0]) ++ List.replicate (5 - (lg_sl ([.ref o0, .int (iI ((c1 : Nat) : Int)), .int (iI ((c2 : Nat) : Int)), .ref u0])).length) Slot.unset).toArray = ls at hl ⊢
  have hl : lv_has ls 5 [(0, .ref o0), (1, .int (iI ((c1 : Nat) : Int))), (2, .int (iI ((c2 : Nat) : Int))), (3, .ref u0)] := hl
  refine lv_aload_n hx hb dL_cuts_0 rfl (lv_at hl 3 rfl) ?_
  refine ib_const hx hb dL_cuts_1 ?_
  refine lv_aload_n hx hb dL_cuts_2 rfl (lv_at hl 0 rfl) ?_
  refine lv_iload_n hx hb dL_cuts_3 rfl (lv_at hl 1 rfl) ?_
  refine lv_iload_n hx hb dL_cuts_4 rfl (lv_at hl 2 rfl) ?_
  have hPc : va_P (dC, dI) vwCl [(o0, .inr (0, [.long (pk a0), .long (pk a1), .long (pkn q w), .int (iI ((w : Nat) : Int))]))] s.heap := va_P_l (w1 := [(o0, .inr (0, [.long (pk a0), .long (pk a1), .long (pkn q w), .int (iI ((w : Nat) : Int))]))]) (w2 := [(u0, .inl (cJ, 1, .inr (.inl (g))))]) hP
  have hKc := hK.sub (tys' := []) [] rfl
  refine rd_call (va_runV (As := [.int (iI ((c1 : Nat) : Int)), .int (iI ((c2 : Nat) : Int))]) (rest := [.int (iI 0), .ref u0]) ⟨hx, hb, hml, hown, hts⟩ (mX0_cuts_ok l dC dI o0 a0 a1 q w hp0 hp1 hw hq hqd c1 c2 hc1 hc2) (cwV 2 hts gL_cuts_X0_cuts rfl rfl rfl hvX0_cuts ⟨Nat.le_of_ble_eq_true rfl, Nat.le_of_ble_eq_true rfl⟩) (bW_pre (ci := 0) (q0 := 0) hKc hPc rfl rfl rfl) rfl rfl hl.1 rfl (lv_room (Nat.le_of_ble_eq_true rfl)) dL_cuts_5 ⟨Nat.le_of_ble_eq_true rfl, Nat.le_of_ble_eq_true rfl⟩) ?_
  refine lv_i2l hx hb dL_cuts_8 rfl ?_
  refine va_last hx hb hK hP hD hS 1 0 rfl rfl vp0 dL_cuts_9 (fun H locs hP hD hS => ?_)
  have hP : va_P (dC, dI) vwCl [(o0, .inr (0, [.long (pk a0), .long (pk a1), .long (pkn q w), .int (iI ((w : Nat) : Int))])), (u0, .inl (cJ, 1, .inr (.inl (vp_updL (g) (iI 0).toNatClampNeg ((iI ((ctN (fm (rw_ 0 a0 a1) c1) (fm (rw_ 1 a0 a1) c2) 13 : Nat) : Int)).toInt64)))))] H := hP
  have hD : va_D (inW [(o0, .inr (0, [.long (pk a0), .long (pk a1), .long (pkn q w), .int (iI ((w : Nat) : Int))])), (u0, .inl (cJ, 1, .inr (.inl (g))))]) [(o0, .inr (0, [.long (pk a0), .long (pk a1), .long (pkn q w), .int (iI ((w : Nat) : Int))])), (u0, .inl (cJ, 1, .inr (.inl (vp_updL (g) (iI 0).toNatClampNeg ((iI ((ctN (fm (rw_ 0 a0 a1) c1) (fm (rw_ 1 a0 a1) c2) 13 : Nat) : Int)).toInt64)))))] := hD
  have hP : va_P (dC, dI) vwCl [(o0, .inr (0, [.long (pk a0), .long (pk a1), .long (pkn q w), .int (iI ((w : Nat) : Int))])), (u0, .inl (cJ, 1, .inr (.inl (fun _ => (iI ((ctN (fm (rw_ 0 a0 a1) c1) (fm (rw_ 1 a0 a1) c2) 13 : Nat) : Int)).toInt64))))] H := va_P_larr (q0 := 1) (g := fun _ => (iI ((ctN (fm (rw_ 0 a0 a1) c1) (fm (rw_ 1 a0 a1) c2) 13 : Nat) : Int)).toInt64) (fun j hj => lup j hj) rfl hP
  have hD : va_D (inW [(o0, .inr (0, [.long (pk a0), .long (pk a1), .long (pkn q w), .int (iI ((w : Nat) : Int))])), (u0, .inl (cJ, 1, .inr (.inl (g))))]) [(o0, .inr (0, [.long (pk a0), .long (pk a1), .long (pkn q w), .int (iI ((w : Nat) : Int))])), (u0, .inl (cJ, 1, .inr (.inl (fun _ => (iI ((ctN (fm (rw_ 0 a0 a1) c1) (fm (rw_ 1 a0 a1) c2) 13 : Nat) : Int)).toInt64))))] := va_D_same (w := [(o0, .inr (0, [.long (pk a0), .long (pk a1), .long (pkn q w), .int (iI ((w : Nat) : Int))])), (u0, .inl (cJ, 1, .inr (.inl (vp_updL (g) (iI 0).toNatClampNeg ((iI ((ctN (fm (rw_ 0 a0 a1) c1) (fm (rw_ 1 a0 a1) c2) 13 : Nat) : Int)).toInt64)))))]) (Eq.trans (b := [o0, u0]) rfl rfl) hD
  refine lv_goto (tgt := 17) hx hb dL_cuts_10 (by decide) ?_
  refine ib_const hx hb dL_cuts_17 ?_
  exact W.iret hx hb hr (fun t ht _ => ⟨rfl, by rw [ht]; exact hP, hS.F ht⟩) hS.2.2 dL_cuts_18

set_option maxHeartbeats 4000000 in
set_option maxRecDepth 100000 in
theorem mL_write_ok (l : Launch) (dC : Nat → ClassId) (dI : Nat → Nat → Nat) (cJ : ClassId) (o0 u0 : Nat) (a0 a1 q : Nat → Nat) (w : Nat) (hp0 : Pm a0) (hp1 : Pm a1) (hw : w ≤ 12) (hq : ∀ i, i < w → q i < 12) (hqd : ∀ i j, i < w → j < w → q i = q j → i = j) (g : Nat → Int64) (t : Nat) (ht : t < 12) (hnw : ¬ orN (wtB q t) w = true) (hw12 : w < 12) : wr l yL_write wsL_write { frames := 4, cells := 0, slots := 0, locals := 89 } [.ref o0, .int (iI ((t : Nat) : Int)), .ref u0] (dC, dI) [(o0, .inr (0, [.long (pk a0), .long (pk a1), .long (pkn q w), .int (iI ((w : Nat) : Int))])), (u0, .inl (cJ, 1, .inr (.inl (g))))] [(cJ, .long)] [(o0, .inr (0, [.long (pk a0), .long (pk a1), .long (pkn (upq q w t) (w + 1)), .int (iI ((w + 1 : Nat) : Int))])), (u0, .inl (cJ, 1, .inr (.inl (fun _ => (iI ((w + 1 : Nat) : Int)).toInt64))))] (some (.int (iI 0))) := by
  refine mt_ofWH (cc := cL_write) (maxL := 4) (ret := (some .int)) (hh := [(0, 9, 12, 15), (0, 9, 15, 83)]) (by decide +kernel) rfl ?_
  intro P0 e s m args below meth c s₁ B hml hv
  obtain ⟨rfl, hP, hK, hD0⟩ := hv
  have hx := B.exec
  have hb := B.bytes
  have hr := B.returns
  have hts := atoms_spec (ws := wsL_write) B.pre
  have hown : s.vm.findClass RL = some m.cls := findClass_of_methodNamed B.named
  have hlocks := B.notSynchronized
  have hD : va_D (inW [(o0, .inr (0, [.long (pk a0), .long (pk a1), .long (pkn q w), .int (iI ((w : Nat) : Int))])), (u0, .inl (cJ, 1, .inr (.inl (g))))]) [(o0, .inr (0, [.long (pk a0), .long (pk a1), .long (pkn q w), .int (iI ((w : Nat) : Int))])), (u0, .inl (cJ, 1, .inr (.inl (g))))] := va_D_in hD0
  have hS : va_S (inW [(o0, .inr (0, [.long (pk a0), .long (pk a1), .long (pkn q w), .int (iI ((w : Nat) : Int))])), (u0, .inl (cJ, 1, .inr (.inl (g))))]) s.heap s.heap [] := va_S.rf
  have hl := lv_entry ([.ref o0, .int (iI ((t : Nat) : Int)), .ref u0]) (n := 4) (Nat.le_of_ble_eq_true rfl)
  rw [lg_entry_eq]
  generalize (lg_sl ([.ref o0, .int (iI ((t : Nat) : Int)), .ref u0]) ++ List.replicate (4 - (lg_sl ([.ref o0, .int (iI ((t : Nat) : Int)), .ref u0])).length) Slot.unset).toArray = ls at hl ⊢
  have hl : lv_has ls 4 [(0, .ref o0), (1, .int (iI ((t : Nat) : Int))), (2, .ref u0)] := hl
  refine lv_aload_n hx hb dL_write_0 rfl (lv_at hl 2 rfl) ?_
  refine ib_const hx hb dL_write_1 ?_
  refine lv_aload_n hx hb dL_write_2 rfl (lv_at hl 0 rfl) ?_
  refine lv_iload_n hx hb dL_write_3 rfl (lv_at hl 1 rfl) ?_
  have hPc : va_P (dC, dI) vwCl [(o0, .inr (0, [.long (pk a0), .long (pk a1), .long (pkn q w), .int (iI ((w : Nat) : Int))]))] s.heap := va_P_l (w1 := [(o0, .inr (0, [.long (pk a0), .long (pk a1), .long (pkn q w), .int (iI ((w : Nat) : Int))]))]) (w2 := [(u0, .inl (cJ, 1, .inr (.inl (g))))]) hP
  have hKc := hK.sub (tys' := []) [] rfl
  have hDc : va_D (inW [(o0, .inr (0, [.long (pk a0), .long (pk a1), .long (pkn q w), .int (iI ((w : Nat) : Int))])), (u0, .inl (cJ, 1, .inr (.inl (g))))]) [(o0, .inr (0, [.long (pk a0), .long (pk a1), .long (pkn q w), .int (iI ((w : Nat) : Int))]))] := va_D_l (w1 := [(o0, .inr (0, [.long (pk a0), .long (pk a1), .long (pkn q w), .int (iI ((w : Nat) : Int))]))]) (w2 := [(u0, .inl (cJ, 1, .inr (.inl (g))))]) hD
  refine wr_call (va_runV (As := [.int (iI ((t : Nat) : Int))]) (rest := [.int (iI 0), .ref u0]) ⟨hx, hb, hml, hown, hts⟩ (mX0_write_ok l dC dI o0 a0 a1 q w hp0 hp1 hw hq hqd t ht hnw hw12) (cwV 1 hts gL_write_X0_write rfl rfl rfl hvX0_write ⟨Nat.le_of_ble_eq_true rfl, Nat.le_of_ble_eq_true rfl⟩) (bD_pre (ci := 0) (q0 := 0) hKc hPc hDc rfl rfl rfl) rfl rfl hl.1 rfl (lv_room (Nat.le_of_ble_eq_true rfl)) dL_write_4 ⟨Nat.le_of_ble_eq_true rfl, Nat.le_of_ble_eq_true rfl⟩) hS (fun q9 h => inW_l (w1 := [(o0, .inr (0, [.long (pk a0), .long (pk a1), .long (pkn q w), .int (iI ((w : Nat) : Int))]))]) (w2 := [(u0, .inl (cJ, 1, .inr (.inl (g))))]) h) (fun H locs hP1 hz hk hS => ?_)
  have hP : va_P (dC, dI) vwCl [(o0, .inr (0, [.long (pk a0), .long (pk a1), .long (pkn (upq q w t) (w + 1)), .int (iI ((w + 1 : Nat) : Int))])), (u0, .inl (cJ, 1, .inr (.inl (g))))] H := wj_l (w1 := [(o0, .inr (0, [.long (pk a0), .long (pk a1), .long (pkn q w), .int (iI ((w : Nat) : Int))]))]) (w2 := [(u0, .inl (cJ, 1, .inr (.inl (g))))]) (w1' := [(o0, .inr (0, [.long (pk a0), .long (pk a1), .long (pkn (upq q w t) (w + 1)), .int (iI ((w + 1 : Nat) : Int))]))]) hP hD hP1 hk
  have hD : va_D (inW [(o0, .inr (0, [.long (pk a0), .long (pk a1), .long (pkn q w), .int (iI ((w : Nat) : Int))])), (u0, .inl (cJ, 1, .inr (.inl (g))))]) [(o0, .inr (0, [.long (pk a0), .long (pk a1), .long (pkn (upq q w t) (w + 1)), .int (iI ((w + 1 : Nat) : Int))])), (u0, .inl (cJ, 1, .inr (.inl (g))))] := va_D_same (w := [(o0, .inr (0, [.long (pk a0), .long (pk a1), .long (pkn q w), .int (iI ((w : Nat) : Int))])), (u0, .inl (cJ, 1, .inr (.inl (g))))]) (Eq.trans (b := [o0, u0]) rfl rfl) hD
  refine lv_i2l hx hb dL_write_7 rfl ?_
  refine va_last hx hb hK hP hD hS 1 0 rfl rfl vp0 dL_write_8 (fun H locs hP hD hS => ?_)
  have hP : va_P (dC, dI) vwCl [(o0, .inr (0, [.long (pk a0), .long (pk a1), .long (pkn (upq q w t) (w + 1)), .int (iI ((w + 1 : Nat) : Int))])), (u0, .inl (cJ, 1, .inr (.inl (vp_updL (g) (iI 0).toNatClampNeg ((iI ((w + 1 : Nat) : Int)).toInt64)))))] H := hP
  have hD : va_D (inW [(o0, .inr (0, [.long (pk a0), .long (pk a1), .long (pkn q w), .int (iI ((w : Nat) : Int))])), (u0, .inl (cJ, 1, .inr (.inl (g))))]) [(o0, .inr (0, [.long (pk a0), .long (pk a1), .long (pkn (upq q w t) (w + 1)), .int (iI ((w + 1 : Nat) : Int))])), (u0, .inl (cJ, 1, .inr (.inl (vp_updL (g) (iI 0).toNatClampNeg ((iI ((w + 1 : Nat) : Int)).toInt64)))))] := hD
  have hP : va_P (dC, dI) vwCl [(o0, .inr (0, [.long (pk a0), .long (pk a1), .long (pkn (upq q w t) (w + 1)), .int (iI ((w + 1 : Nat) : Int))])), (u0, .inl (cJ, 1, .inr (.inl (fun _ => (iI ((w + 1 : Nat) : Int)).toInt64))))] H := va_P_larr (q0 := 1) (g := fun _ => (iI ((w + 1 : Nat) : Int)).toInt64) (fun j hj => lup j hj) rfl hP
  have hD : va_D (inW [(o0, .inr (0, [.long (pk a0), .long (pk a1), .long (pkn q w), .int (iI ((w : Nat) : Int))])), (u0, .inl (cJ, 1, .inr (.inl (g))))]) [(o0, .inr (0, [.long (pk a0), .long (pk a1), .long (pkn (upq q w t) (w + 1)), .int (iI ((w + 1 : Nat) : Int))])), (u0, .inl (cJ, 1, .inr (.inl (fun _ => (iI ((w + 1 : Nat) : Int)).toInt64))))] := va_D_same (w := [(o0, .inr (0, [.long (pk a0), .long (pk a1), .long (pkn (upq q w t) (w + 1)), .int (iI ((w + 1 : Nat) : Int))])), (u0, .inl (cJ, 1, .inr (.inl (vp_updL (g) (iI 0).toNatClampNeg ((iI ((w + 1 : Nat) : Int)).toInt64)))))]) (Eq.trans (b := [o0, u0]) rfl rfl) hD
  refine lv_goto (tgt := 18) hx hb dL_write_9 (by decide) ?_
  refine ib_const hx hb dL_write_18 ?_
  exact W.iret hx hb hr (fun t ht _ => ⟨rfl, by rw [ht]; exact hP, hS.F ht⟩) hS.2.2 dL_write_19

set_option maxHeartbeats 4000000 in
set_option maxRecDepth 100000 in
theorem mL_formsWithPhrase_ok (l : Launch) (dC : Nat → ClassId) (dI : Nat → Nat → Nat) (cJ : ClassId) (o0 u0 : Nat) (a0 a1 q : Nat → Nat) (w : Nat) (hp0 : Pm a0) (hp1 : Pm a1) (hw : w ≤ 12) (hq : ∀ i, i < w → q i < 12) (hqd : ∀ i j, i < w → j < w → q i = q j → i = j) (g : Nat → Int64) (r : Nat) (hr9 : r < 2) : wr l yL_formsWithPhrase wsL_formsWithPhrase { frames := 4, cells := 0, slots := 0, locals := 100 } [.ref o0, .int (iI ((r : Nat) : Int)), .ref u0] (dC, dI) [(o0, .inr (0, [.long (pk a0), .long (pk a1), .long (pkn q w), .int (iI ((w : Nat) : Int))])), (u0, .inl (cJ, 1, .inr (.inl (g))))] [(cJ, .long)] [(o0, .inr (0, [.long (pk a0), .long (pk a1), .long (pkn q w), .int (iI ((w : Nat) : Int))])), (u0, .inl (cJ, 1, .inr (.inl (fun _ => fpL (rw_ r a0 a1) q w 48))))] (some (.int (iI 0))) := by
  refine mt_ofWH (cc := cL_formsWithPhrase) (maxL := 4) (ret := (some .int)) (hh := [(0, 8, 11, 13)]) (by decide +kernel) rfl ?_
  intro P0 e s m args below meth c s₁ B hml hv
  obtain ⟨rfl, hP, hK, hD0⟩ := hv
  have hx := B.exec
  have hb := B.bytes
  have hr := B.returns
  have hts := atoms_spec (ws := wsL_formsWithPhrase) B.pre
  have hown : s.vm.findClass RL = some m.cls := findClass_of_methodNamed B.named
  have hlocks := B.notSynchronized
  have hD : va_D (inW [(o0, .inr (0, [.long (pk a0), .long (pk a1), .long (pkn q w), .int (iI ((w : Nat) : Int))])), (u0, .inl (cJ, 1, .inr (.inl (g))))]) [(o0, .inr (0, [.long (pk a0), .long (pk a1), .long (pkn q w), .int (iI ((w : Nat) : Int))])), (u0, .inl (cJ, 1, .inr (.inl (g))))] := va_D_in hD0
  have hS : va_S (inW [(o0, .inr (0, [.long (pk a0), .long (pk a1), .long (pkn q w), .int (iI ((w : Nat) : Int))])), (u0, .inl (cJ, 1, .inr (.inl (g))))]) s.heap s.heap [] := va_S.rf
  have hl := lv_entry ([.ref o0, .int (iI ((r : Nat) : Int)), .ref u0]) (n := 4) (Nat.le_of_ble_eq_true rfl)
  rw [lg_entry_eq]
  generalize (lg_sl ([.ref o0, .int (iI ((r : Nat) : Int)), .ref u0]) ++ List.replicate (4 - (lg_sl ([.ref o0, .int (iI ((r : Nat) : Int)), .ref u0])).length) Slot.unset).toArray = ls at hl ⊢
  have hl : lv_has ls 4 [(0, .ref o0), (1, .int (iI ((r : Nat) : Int))), (2, .ref u0)] := hl
  refine lv_aload_n hx hb dL_formsWithPhrase_0 rfl (lv_at hl 2 rfl) ?_
  refine ib_const hx hb dL_formsWithPhrase_1 ?_
  refine lv_aload_n hx hb dL_formsWithPhrase_2 rfl (lv_at hl 0 rfl) ?_
  refine lv_iload_n hx hb dL_formsWithPhrase_3 rfl (lv_at hl 1 rfl) ?_
  have hPc : va_P (dC, dI) vwCl [(o0, .inr (0, [.long (pk a0), .long (pk a1), .long (pkn q w), .int (iI ((w : Nat) : Int))]))] s.heap := va_P_l (w1 := [(o0, .inr (0, [.long (pk a0), .long (pk a1), .long (pkn q w), .int (iI ((w : Nat) : Int))]))]) (w2 := [(u0, .inl (cJ, 1, .inr (.inl (g))))]) hP
  have hKc := hK.sub (tys' := []) [] rfl
  refine rd_call (va_runV (As := [.int (iI ((r : Nat) : Int))]) (rest := [.int (iI 0), .ref u0]) ⟨hx, hb, hml, hown, hts⟩ (mX0_formsWithPhrase_ok l dC dI o0 a0 a1 q w hp0 hp1 hw hq hqd r hr9) (cwV 1 hts gL_formsWithPhrase_X0_formsWithPhrase rfl rfl rfl hvX0_formsWithPhrase ⟨Nat.le_of_ble_eq_true rfl, Nat.le_of_ble_eq_true rfl⟩) (bW_pre (ci := 0) (q0 := 0) hKc hPc rfl rfl rfl) rfl rfl hl.1 rfl (lv_room (Nat.le_of_ble_eq_true rfl)) dL_formsWithPhrase_4 ⟨Nat.le_of_ble_eq_true rfl, Nat.le_of_ble_eq_true rfl⟩) ?_
  refine va_last hx hb hK hP hD hS 1 0 rfl rfl vp0 dL_formsWithPhrase_7 (fun H locs hP hD hS => ?_)
  have hP : va_P (dC, dI) vwCl [(o0, .inr (0, [.long (pk a0), .long (pk a1), .long (pkn q w), .int (iI ((w : Nat) : Int))])), (u0, .inl (cJ, 1, .inr (.inl (vp_updL (g) (iI 0).toNatClampNeg (fpL (rw_ r a0 a1) q w 48)))))] H := hP
  have hD : va_D (inW [(o0, .inr (0, [.long (pk a0), .long (pk a1), .long (pkn q w), .int (iI ((w : Nat) : Int))])), (u0, .inl (cJ, 1, .inr (.inl (g))))]) [(o0, .inr (0, [.long (pk a0), .long (pk a1), .long (pkn q w), .int (iI ((w : Nat) : Int))])), (u0, .inl (cJ, 1, .inr (.inl (vp_updL (g) (iI 0).toNatClampNeg (fpL (rw_ r a0 a1) q w 48)))))] := hD
  have hP : va_P (dC, dI) vwCl [(o0, .inr (0, [.long (pk a0), .long (pk a1), .long (pkn q w), .int (iI ((w : Nat) : Int))])), (u0, .inl (cJ, 1, .inr (.inl (fun _ => fpL (rw_ r a0 a1) q w 48))))] H := va_P_larr (q0 := 1) (g := fun _ => fpL (rw_ r a0 a1) q w 48) (fun j hj => lup j hj) rfl hP
  have hD : va_D (inW [(o0, .inr (0, [.long (pk a0), .long (pk a1), .long (pkn q w), .int (iI ((w : Nat) : Int))])), (u0, .inl (cJ, 1, .inr (.inl (g))))]) [(o0, .inr (0, [.long (pk a0), .long (pk a1), .long (pkn q w), .int (iI ((w : Nat) : Int))])), (u0, .inl (cJ, 1, .inr (.inl (fun _ => fpL (rw_ r a0 a1) q w 48))))] := va_D_same (w := [(o0, .inr (0, [.long (pk a0), .long (pk a1), .long (pkn q w), .int (iI ((w : Nat) : Int))])), (u0, .inl (cJ, 1, .inr (.inl (vp_updL (g) (iI 0).toNatClampNeg (fpL (rw_ r a0 a1) q w 48)))))]) (Eq.trans (b := [o0, u0]) rfl rfl) hD
  refine lv_goto (tgt := 14) hx hb dL_formsWithPhrase_8 (by decide) ?_
  refine ib_const hx hb dL_formsWithPhrase_14 ?_
  exact W.iret hx hb hr (fun t ht _ => ⟨rfl, by rw [ht]; exact hP, hS.F ht⟩) hS.2.2 dL_formsWithPhrase_15

set_option maxHeartbeats 4000000 in
set_option maxRecDepth 100000 in
theorem mL_placeOfPhrase_ok (l : Launch) (dC : Nat → ClassId) (dI : Nat → Nat → Nat) (cJ : ClassId) (o0 u0 : Nat) (a0 a1 q : Nat → Nat) (w : Nat) (hp0 : Pm a0) (hp1 : Pm a1) (hw : w ≤ 12) (hq : ∀ i, i < w → q i < 12) (hqd : ∀ i j, i < w → j < w → q i = q j → i = j) (g : Nat → Int64) (r c9 : Nat) (hr9 : r < 2) (hc9 : c9 < 48) : wr l yL_placeOfPhrase wsL_placeOfPhrase { frames := 4, cells := 0, slots := 0, locals := 96 } [.ref o0, .int (iI ((r : Nat) : Int)), .int (iI ((c9 : Nat) : Int)), .ref u0] (dC, dI) [(o0, .inr (0, [.long (pk a0), .long (pk a1), .long (pkn q w), .int (iI ((w : Nat) : Int))])), (u0, .inl (cJ, 1, .inr (.inl (g))))] [(cJ, .long)] [(o0, .inr (0, [.long (pk a0), .long (pk a1), .long (pkn q w), .int (iI ((w : Nat) : Int))])), (u0, .inl (cJ, 1, .inr (.inl (fun _ => (iI (if w = 0 then -1 else plF (rw_ r a0 a1) q c9 w)).toInt64))))] (some (.int (iI 0))) := by
  refine mt_ofWH (cc := cL_placeOfPhrase) (maxL := 5) (ret := (some .int)) (hh := [(0, 10, 13, 13), (0, 10, 17, 15)]) (by decide +kernel) rfl ?_
  intro P0 e s m args below meth c s₁ B hml hv
  obtain ⟨rfl, hP, hK, hD0⟩ := hv
  have hx := B.exec
  have hb := B.bytes
  have hr := B.returns
  have hts := atoms_spec (ws := wsL_placeOfPhrase) B.pre
  have hown : s.vm.findClass RL = some m.cls := findClass_of_methodNamed B.named
  have hlocks := B.notSynchronized
  have hD : va_D (inW [(o0, .inr (0, [.long (pk a0), .long (pk a1), .long (pkn q w), .int (iI ((w : Nat) : Int))])), (u0, .inl (cJ, 1, .inr (.inl (g))))]) [(o0, .inr (0, [.long (pk a0), .long (pk a1), .long (pkn q w), .int (iI ((w : Nat) : Int))])), (u0, .inl (cJ, 1, .inr (.inl (g))))] := va_D_in hD0
  have hS : va_S (inW [(o0, .inr (0, [.long (pk a0), .long (pk a1), .long (pkn q w), .int (iI ((w : Nat) : Int))])), (u0, .inl (cJ, 1, .inr (.inl (g))))]) s.heap s.heap [] := va_S.rf
  have hl := lv_entry ([.ref o0, .int (iI ((r : Nat) : Int)), .int (iI ((c9 : Nat) : Int)), .ref u0]) (n := 5) (Nat.le_of_ble_eq_true rfl)
  rw [lg_entry_eq]
  generalize (lg_sl ([.ref o0, .int (iI ((r : Nat) : Int)), .int (iI ((c9 : Nat) : Int)), .ref u0]) ++ List.replicate (5 - (lg_sl ([.ref o0, .int (iI ((r : Nat) : Int)), .int (iI ((c9 : Nat) : Int)), .ref u0])).length) Slot.unset).toArray = ls at hl ⊢
  have hl : lv_has ls 5 [(0, .ref o0), (1, .int (iI ((r : Nat) : Int))), (2, .int (iI ((c9 : Nat) : Int))), (3, .ref u0)] := hl
  refine lv_aload_n hx hb dL_placeOfPhrase_0 rfl (lv_at hl 3 rfl) ?_
  refine ib_const hx hb dL_placeOfPhrase_1 ?_
  refine lv_aload_n hx hb dL_placeOfPhrase_2 rfl (lv_at hl 0 rfl) ?_
  refine lv_iload_n hx hb dL_placeOfPhrase_3 rfl (lv_at hl 1 rfl) ?_
  refine lv_iload_n hx hb dL_placeOfPhrase_4 rfl (lv_at hl 2 rfl) ?_
  have hPc : va_P (dC, dI) vwCl [(o0, .inr (0, [.long (pk a0), .long (pk a1), .long (pkn q w), .int (iI ((w : Nat) : Int))]))] s.heap := va_P_l (w1 := [(o0, .inr (0, [.long (pk a0), .long (pk a1), .long (pkn q w), .int (iI ((w : Nat) : Int))]))]) (w2 := [(u0, .inl (cJ, 1, .inr (.inl (g))))]) hP
  have hKc := hK.sub (tys' := []) [] rfl
  refine rd_call (va_runV (As := [.int (iI ((r : Nat) : Int)), .int (iI ((c9 : Nat) : Int))]) (rest := [.int (iI 0), .ref u0]) ⟨hx, hb, hml, hown, hts⟩ (mX0_placeOfPhrase_ok l dC dI o0 a0 a1 q w hp0 hp1 hw hq hqd r c9 hr9 hc9) (cwV 2 hts gL_placeOfPhrase_X0_placeOfPhrase rfl rfl rfl hvX0_placeOfPhrase ⟨Nat.le_of_ble_eq_true rfl, Nat.le_of_ble_eq_true rfl⟩) (bW_pre (ci := 0) (q0 := 0) hKc hPc rfl rfl rfl) rfl rfl hl.1 rfl (lv_room (Nat.le_of_ble_eq_true rfl)) dL_placeOfPhrase_5 ⟨Nat.le_of_ble_eq_true rfl, Nat.le_of_ble_eq_true rfl⟩) ?_
  refine lv_i2l hx hb dL_placeOfPhrase_8 rfl ?_
  refine va_last hx hb hK hP hD hS 1 0 rfl rfl vp0 dL_placeOfPhrase_9 (fun H locs hP hD hS => ?_)
  have hP : va_P (dC, dI) vwCl [(o0, .inr (0, [.long (pk a0), .long (pk a1), .long (pkn q w), .int (iI ((w : Nat) : Int))])), (u0, .inl (cJ, 1, .inr (.inl (vp_updL (g) (iI 0).toNatClampNeg ((iI (if w = 0 then -1 else plF (rw_ r a0 a1) q c9 w)).toInt64)))))] H := hP
  have hD : va_D (inW [(o0, .inr (0, [.long (pk a0), .long (pk a1), .long (pkn q w), .int (iI ((w : Nat) : Int))])), (u0, .inl (cJ, 1, .inr (.inl (g))))]) [(o0, .inr (0, [.long (pk a0), .long (pk a1), .long (pkn q w), .int (iI ((w : Nat) : Int))])), (u0, .inl (cJ, 1, .inr (.inl (vp_updL (g) (iI 0).toNatClampNeg ((iI (if w = 0 then -1 else plF (rw_ r a0 a1) q c9 w)).toInt64)))))] := hD
  have hP : va_P (dC, dI) vwCl [(o0, .inr (0, [.long (pk a0), .long (pk a1), .long (pkn q w), .int (iI ((w : Nat) : Int))])), (u0, .inl (cJ, 1, .inr (.inl (fun _ => (iI (if w = 0 then -1 else plF (rw_ r a0 a1) q c9 w)).toInt64))))] H := va_P_larr (q0 := 1) (g := fun _ => (iI (if w = 0 then -1 else plF (rw_ r a0 a1) q c9 w)).toInt64) (fun j hj => lup j hj) rfl hP
  have hD : va_D (inW [(o0, .inr (0, [.long (pk a0), .long (pk a1), .long (pkn q w), .int (iI ((w : Nat) : Int))])), (u0, .inl (cJ, 1, .inr (.inl (g))))]) [(o0, .inr (0, [.long (pk a0), .long (pk a1), .long (pkn q w), .int (iI ((w : Nat) : Int))])), (u0, .inl (cJ, 1, .inr (.inl (fun _ => (iI (if w = 0 then -1 else plF (rw_ r a0 a1) q c9 w)).toInt64))))] := va_D_same (w := [(o0, .inr (0, [.long (pk a0), .long (pk a1), .long (pkn q w), .int (iI ((w : Nat) : Int))])), (u0, .inl (cJ, 1, .inr (.inl (vp_updL (g) (iI 0).toNatClampNeg ((iI (if w = 0 then -1 else plF (rw_ r a0 a1) q c9 w)).toInt64)))))]) (Eq.trans (b := [o0, u0]) rfl rfl) hD
  refine lv_goto (tgt := 21) hx hb dL_placeOfPhrase_10 (by decide) ?_
  refine ib_const hx hb dL_placeOfPhrase_21 ?_
  exact W.iret hx hb hr (fun t ht _ => ⟨rfl, by rw [ht]; exact hP, hS.F ht⟩) hS.2.2 dL_placeOfPhrase_22

set_option maxHeartbeats 4000000 in
set_option maxRecDepth 100000 in
theorem mL_complete_ok (l : Launch) (dC : Nat → ClassId) (dI : Nat → Nat → Nat) (cJ : ClassId) (o0 u0 : Nat) (a0 a1 q : Nat → Nat) (w : Nat) (hp0 : Pm a0) (hp1 : Pm a1) (hw : w ≤ 12) (hq : ∀ i, i < w → q i < 12) (hqd : ∀ i j, i < w → j < w → q i = q j → i = j) (g : Nat → Int64) (r : Nat) (hr9 : r < 2) (G : Nat → Nat) (e12 : Nat) (he12 : e12 = 12) (hG : lt12 G) (hGe : pkn (cpK q (rw_ r a0 a1) (fun _ => 0) w e12) (cpC q (rw_ r a0 a1) w e12) = pk G) : wr l yL_complete wsL_complete { frames := 4, cells := 0, slots := 0, locals := 96 } [.ref o0, .int (iI ((r : Nat) : Int)), .ref u0] (dC, dI) [(o0, .inr (0, [.long (pk a0), .long (pk a1), .long (pkn q w), .int (iI ((w : Nat) : Int))])), (u0, .inl (cJ, 1, .inr (.inl (g))))] [(cJ, .long)] [(o0, .inr (0, [.long (pk (sr0 r G a0)), .long (pk (sr1 r G a1)), .long (pkn q w), .int (iI ((w : Nat) : Int))])), (u0, .inl (cJ, 1, .inr (.inl (fun _ => (iI ((G 0 : Nat) : Int)).toInt64))))] (some (.int (iI 0))) := by
  refine mt_ofWH (cc := cL_complete) (maxL := 4) (ret := (some .int)) (hh := [(0, 9, 12, 13)]) (by decide +kernel) rfl ?_
  intro P0 e s m args below meth c s₁ B hml hv
  obtain ⟨rfl, hP, hK, hD0⟩ := hv
  have hx := B.exec
  have hb := B.bytes
  have hr := B.returns
  have hts := atoms_spec (ws := wsL_complete) B.pre
  have hown : s.vm.findClass RL = some m.cls := findClass_of_methodNamed B.named
  have hlocks := B.notSynchronized
  have hD : va_D (inW [(o0, .inr (0, [.long (pk a0), .long (pk a1), .long (pkn q w), .int (iI ((w : Nat) : Int))])), (u0, .inl (cJ, 1, .inr (.inl (g))))]) [(o0, .inr (0, [.long (pk a0), .long (pk a1), .long (pkn q w), .int (iI ((w : Nat) : Int))])), (u0, .inl (cJ, 1, .inr (.inl (g))))] := va_D_in hD0
  have hS : va_S (inW [(o0, .inr (0, [.long (pk a0), .long (pk a1), .long (pkn q w), .int (iI ((w : Nat) : Int))])), (u0, .inl (cJ, 1, .inr (.inl (g))))]) s.heap s.heap [] := va_S.rf
  have hl := lv_entry ([.ref o0, .int (iI ((r : Nat) : Int)), .ref u0]) (n := 4) (Nat.le_of_ble_eq_true rfl)
  rw [lg_entry_eq]
  generalize (lg_sl ([.ref o0, .int (iI ((r : Nat) : Int)), .ref u0]) ++ List.replicate (4 - (lg_sl ([.ref o0, .int (iI ((r : Nat) : Int)), .ref u0])).length) Slot.unset).toArray = ls at hl ⊢
  have hl : lv_has ls 4 [(0, .ref o0), (1, .int (iI ((r : Nat) : Int))), (2, .ref u0)] := hl
  refine lv_aload_n hx hb dL_complete_0 rfl (lv_at hl 2 rfl) ?_
  refine ib_const hx hb dL_complete_1 ?_
  refine lv_aload_n hx hb dL_complete_2 rfl (lv_at hl 0 rfl) ?_
  refine lv_iload_n hx hb dL_complete_3 rfl (lv_at hl 1 rfl) ?_
  have hPc : va_P (dC, dI) vwCl [(o0, .inr (0, [.long (pk a0), .long (pk a1), .long (pkn q w), .int (iI ((w : Nat) : Int))]))] s.heap := va_P_l (w1 := [(o0, .inr (0, [.long (pk a0), .long (pk a1), .long (pkn q w), .int (iI ((w : Nat) : Int))]))]) (w2 := [(u0, .inl (cJ, 1, .inr (.inl (g))))]) hP
  have hKc := hK.sub (tys' := []) [] rfl
  have hDc : va_D (inW [(o0, .inr (0, [.long (pk a0), .long (pk a1), .long (pkn q w), .int (iI ((w : Nat) : Int))])), (u0, .inl (cJ, 1, .inr (.inl (g))))]) [(o0, .inr (0, [.long (pk a0), .long (pk a1), .long (pkn q w), .int (iI ((w : Nat) : Int))]))] := va_D_l (w1 := [(o0, .inr (0, [.long (pk a0), .long (pk a1), .long (pkn q w), .int (iI ((w : Nat) : Int))]))]) (w2 := [(u0, .inl (cJ, 1, .inr (.inl (g))))]) hD
  refine wr_call (va_runV (As := [.int (iI ((r : Nat) : Int))]) (rest := [.int (iI 0), .ref u0]) ⟨hx, hb, hml, hown, hts⟩ (mX0_complete_ok l dC dI o0 a0 a1 q w hp0 hp1 hw hq hqd r hr9 G e12 he12 hG hGe) (cwV 1 hts gL_complete_X0_complete rfl rfl rfl hvX0_complete ⟨Nat.le_of_ble_eq_true rfl, Nat.le_of_ble_eq_true rfl⟩) (bD_pre (ci := 0) (q0 := 0) hKc hPc hDc rfl rfl rfl) rfl rfl hl.1 rfl (lv_room (Nat.le_of_ble_eq_true rfl)) dL_complete_4 ⟨Nat.le_of_ble_eq_true rfl, Nat.le_of_ble_eq_true rfl⟩) hS (fun q9 h => inW_l (w1 := [(o0, .inr (0, [.long (pk a0), .long (pk a1), .long (pkn q w), .int (iI ((w : Nat) : Int))]))]) (w2 := [(u0, .inl (cJ, 1, .inr (.inl (g))))]) h) (fun H locs hP1 hz hk hS => ?_)
  have hP : va_P (dC, dI) vwCl [(o0, .inr (0, [.long (pk (sr0 r G a0)), .long (pk (sr1 r G a1)), .long (pkn q w), .int (iI ((w : Nat) : Int))])), (u0, .inl (cJ, 1, .inr (.inl (g))))] H := wj_l (w1 := [(o0, .inr (0, [.long (pk a0), .long (pk a1), .long (pkn q w), .int (iI ((w : Nat) : Int))]))]) (w2 := [(u0, .inl (cJ, 1, .inr (.inl (g))))]) (w1' := [(o0, .inr (0, [.long (pk (sr0 r G a0)), .long (pk (sr1 r G a1)), .long (pkn q w), .int (iI ((w : Nat) : Int))]))]) hP hD hP1 hk
  have hD : va_D (inW [(o0, .inr (0, [.long (pk a0), .long (pk a1), .long (pkn q w), .int (iI ((w : Nat) : Int))])), (u0, .inl (cJ, 1, .inr (.inl (g))))]) [(o0, .inr (0, [.long (pk (sr0 r G a0)), .long (pk (sr1 r G a1)), .long (pkn q w), .int (iI ((w : Nat) : Int))])), (u0, .inl (cJ, 1, .inr (.inl (g))))] := va_D_same (w := [(o0, .inr (0, [.long (pk a0), .long (pk a1), .long (pkn q w), .int (iI ((w : Nat) : Int))])), (u0, .inl (cJ, 1, .inr (.inl (g))))]) (Eq.trans (b := [o0, u0]) rfl rfl) hD
  refine lv_i2l hx hb dL_complete_7 rfl ?_
  refine va_last hx hb hK hP hD hS 1 0 rfl rfl vp0 dL_complete_8 (fun H locs hP hD hS => ?_)
  have hP : va_P (dC, dI) vwCl [(o0, .inr (0, [.long (pk (sr0 r G a0)), .long (pk (sr1 r G a1)), .long (pkn q w), .int (iI ((w : Nat) : Int))])), (u0, .inl (cJ, 1, .inr (.inl (vp_updL (g) (iI 0).toNatClampNeg ((iI ((G 0 : Nat) : Int)).toInt64)))))] H := hP
  have hD : va_D (inW [(o0, .inr (0, [.long (pk a0), .long (pk a1), .long (pkn q w), .int (iI ((w : Nat) : Int))])), (u0, .inl (cJ, 1, .inr (.inl (g))))]) [(o0, .inr (0, [.long (pk (sr0 r G a0)), .long (pk (sr1 r G a1)), .long (pkn q w), .int (iI ((w : Nat) : Int))])), (u0, .inl (cJ, 1, .inr (.inl (vp_updL (g) (iI 0).toNatClampNeg ((iI ((G 0 : Nat) : Int)).toInt64)))))] := hD
  have hP : va_P (dC, dI) vwCl [(o0, .inr (0, [.long (pk (sr0 r G a0)), .long (pk (sr1 r G a1)), .long (pkn q w), .int (iI ((w : Nat) : Int))])), (u0, .inl (cJ, 1, .inr (.inl (fun _ => (iI ((G 0 : Nat) : Int)).toInt64))))] H := va_P_larr (q0 := 1) (g := fun _ => (iI ((G 0 : Nat) : Int)).toInt64) (fun j hj => lup j hj) rfl hP
  have hD : va_D (inW [(o0, .inr (0, [.long (pk a0), .long (pk a1), .long (pkn q w), .int (iI ((w : Nat) : Int))])), (u0, .inl (cJ, 1, .inr (.inl (g))))]) [(o0, .inr (0, [.long (pk (sr0 r G a0)), .long (pk (sr1 r G a1)), .long (pkn q w), .int (iI ((w : Nat) : Int))])), (u0, .inl (cJ, 1, .inr (.inl (fun _ => (iI ((G 0 : Nat) : Int)).toInt64))))] := va_D_same (w := [(o0, .inr (0, [.long (pk (sr0 r G a0)), .long (pk (sr1 r G a1)), .long (pkn q w), .int (iI ((w : Nat) : Int))])), (u0, .inl (cJ, 1, .inr (.inl (vp_updL (g) (iI 0).toNatClampNeg ((iI ((G 0 : Nat) : Int)).toInt64)))))]) (Eq.trans (b := [o0, u0]) rfl rfl) hD
  refine lv_goto (tgt := 15) hx hb dL_complete_9 (by decide) ?_
  refine ib_const hx hb dL_complete_15 ?_
  exact W.iret hx hb hr (fun t ht _ => ⟨rfl, by rw [ht]; exact hP, hS.F ht⟩) hS.2.2 dL_complete_16
