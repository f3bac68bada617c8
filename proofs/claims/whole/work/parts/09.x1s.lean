theorem hdX1_codeOf : yX1_codeOf.cls ≠ "java/lang/invoke/MethodHandle" ∧ yX1_codeOf.cls ≠ "java/lang/invoke/VarHandle" ∧ (parseMethodDescriptor yX1_codeOf.desc).map (fun d => d.parameters.length) = some 2 := by decide +kernel
theorem hdX1_in : yX1_in.cls ≠ "java/lang/invoke/MethodHandle" ∧ yX1_in.cls ≠ "java/lang/invoke/VarHandle" ∧ (parseMethodDescriptor yX1_in.desc).map (fun d => d.parameters.length) = some 3 := by decide +kernel
theorem hdX1_isTone : yX1_isTone.cls ≠ "java/lang/invoke/MethodHandle" ∧ yX1_isTone.cls ≠ "java/lang/invoke/VarHandle" ∧ (parseMethodDescriptor yX1_isTone.desc).map (fun d => d.parameters.length) = some 1 := by decide +kernel
theorem hdX1_modulo : yX1_modulo.cls ≠ "java/lang/invoke/MethodHandle" ∧ yX1_modulo.cls ≠ "java/lang/invoke/VarHandle" ∧ (parseMethodDescriptor yX1_modulo.desc).map (fun d => d.parameters.length) = some 1 := by decide +kernel
theorem hdX1_moved : yX1_moved.cls ≠ "java/lang/invoke/MethodHandle" ∧ yX1_moved.cls ≠ "java/lang/invoke/VarHandle" ∧ (parseMethodDescriptor yX1_moved.desc).map (fun d => d.parameters.length) = some 3 := by decide +kernel
theorem hvX1_at : yX1_at.cls = RX1 ∧ yX1_at.cls ≠ "java/lang/invoke/MethodHandle" ∧ yX1_at.cls ≠ "java/lang/invoke/VarHandle" ∧ (parseMethodDescriptor yX1_at.desc).map (fun d => d.parameters.length) = some 2 := by decide +kernel
theorem hvX1_formAt : yX1_formAt.cls = RX1 ∧ yX1_formAt.cls ≠ "java/lang/invoke/MethodHandle" ∧ yX1_formAt.cls ≠ "java/lang/invoke/VarHandle" ∧ (parseMethodDescriptor yX1_formAt.desc).map (fun d => d.parameters.length) = some 3 := by decide +kernel
theorem hvX1_itself : yX1_itself.cls = RX1 ∧ yX1_itself.cls ≠ "java/lang/invoke/MethodHandle" ∧ yX1_itself.cls ≠ "java/lang/invoke/VarHandle" ∧ (parseMethodDescriptor yX1_itself.desc).map (fun d => d.parameters.length) = some 1 := by decide +kernel
theorem hvX1_setOf : yX1_setOf.cls = RX1 ∧ yX1_setOf.cls ≠ "java/lang/invoke/MethodHandle" ∧ yX1_setOf.cls ≠ "java/lang/invoke/VarHandle" ∧ (parseMethodDescriptor yX1_setOf.desc).map (fun d => d.parameters.length) = some 4 := by decide +kernel
set_option maxHeartbeats 4000000 in
set_option maxRecDepth 100000 in
theorem mX1_isRow (l : Launch) (z : Int) (hz : inI z) : rd l yX1_isRow wsX1_isRow { frames := 0, cells := 0, slots := 0, locals := 0 } [.int (iI z)] tt_ (some (.int (iI (bI (z = 0 ∨ z = 1))))) := by
  refine Met.ofW (cc := cX1_isRow) (maxL := 1) (ret := (some .boolean)) (by decide) rfl ?_
  intro P0 e s m args below meth c s₁ B hml hv
  obtain ⟨rfl, -⟩ := hv
  have hx := B.exec
  have hb := B.bytes
  have hr := B.returns
  have hts := atoms_spec (ws := wsX1_isRow) B.pre
  have hown : s.vm.findClass RX1 = some m.cls := findClass_of_methodNamed B.named
  have hlocks := B.notSynchronized
  have hl := lv_entry ([.int (iI z)]) (n := 1) (Nat.le_of_ble_eq_true rfl)
  rw [lg_entry_eq]
  generalize (lg_sl ([.int (iI z)]) ++ List.replicate (1 - (lg_sl ([.int (iI z)])).length) Slot.unset).toArray = ls at hl ⊢
  have hl : lv_has ls 1 [(0, .int (iI z))] := hl
  have hz1 := hz.1
  have hz2 := hz.2
  refine lv_iload_n hx hb dX1_isRow_0 rfl (lv_at hl 0 rfl) ?_
  refine ib_if_eq (tgt := 9) hx hb dX1_isRow_1 (by decide) ⟨by omega, by omega⟩ (fun c_1 => ?_) (fun c_1 => ?_)
  · skip
    refine ib_const hx hb dX1_isRow_9 ?_
    refine lv_goto (tgt := 14) hx hb dX1_isRow_10 (by decide) ?_
    refine st_i (y := iI (bI (z = 0 ∨ z = 1))) (congrArg iI (bI_t (by omega)).symm) ?_
    exact W.zret hx hb hr (bI_nar _) (fun t ht _ => ⟨rfl, ht⟩) (fun _ h => nomatch h) dX1_isRow_14
  · skip
    refine lv_iload_n hx hb dX1_isRow_4 rfl (lv_at hl 0 rfl) ?_
    refine ib_const hx hb dX1_isRow_5 ?_
    refine ib_icmp_ne (tgt := 13) hx hb dX1_isRow_6 (by decide) ⟨by omega, by omega⟩ ⟨by omega, by omega⟩ (fun c_6 => ?_) (fun c_6 => ?_)
    · skip
      refine ib_const hx hb dX1_isRow_13 ?_
      refine st_i (y := iI (bI (z = 0 ∨ z = 1))) (congrArg iI (bI_f (by omega)).symm) ?_
      exact W.zret hx hb hr (bI_nar _) (fun t ht _ => ⟨rfl, ht⟩) (fun _ h => nomatch h) dX1_isRow_14
    · skip
      refine ib_const hx hb dX1_isRow_9 ?_
      refine lv_goto (tgt := 14) hx hb dX1_isRow_10 (by decide) ?_
      refine st_i (y := iI (bI (z = 0 ∨ z = 1))) (congrArg iI (bI_t (by omega)).symm) ?_
      exact W.zret hx hb hr (bI_nar _) (fun t ht _ => ⟨rfl, ht⟩) (fun _ h => nomatch h) dX1_isRow_14

set_option maxHeartbeats 4000000 in
set_option maxRecDepth 100000 in
theorem mX1_in (l : Launch) (z v w : Int) (hz : inI z) (hv9 : inI v) (hw : inI w) : rd l yX1_in wsX1_in { frames := 0, cells := 0, slots := 0, locals := 0 } [.int (iI z), .int (iI v), .int (iI w)] tt_ (some (.int (iI (bI (v ≤ z ∧ z ≤ w))))) := by
  refine Met.ofW (cc := cX1_in) (maxL := 3) (ret := (some .boolean)) (by decide) rfl ?_
  intro P0 e s m args below meth c s₁ B hml hv
  obtain ⟨rfl, -⟩ := hv
  have hx := B.exec
  have hb := B.bytes
  have hr := B.returns
  have hts := atoms_spec (ws := wsX1_in) B.pre
  have hown : s.vm.findClass RX1 = some m.cls := findClass_of_methodNamed B.named
  have hlocks := B.notSynchronized
  have hl := lv_entry ([.int (iI z), .int (iI v), .int (iI w)]) (n := 3) (Nat.le_of_ble_eq_true rfl)
  rw [lg_entry_eq]
  generalize (lg_sl ([.int (iI z), .int (iI v), .int (iI w)]) ++ List.replicate (3 - (lg_sl ([.int (iI z), .int (iI v), .int (iI w)])).length) Slot.unset).toArray = ls at hl ⊢
  have hl : lv_has ls 3 [(0, .int (iI z)), (1, .int (iI v)), (2, .int (iI w))] := hl
  have hz1 := hz.1
  have hz2 := hz.2
  have hw1 := hw.1
  have hw2 := hw.2
  have hv1 := hv9.1
  have hv2 := hv9.2
  refine lv_iload_n hx hb dX1_in_0 rfl (lv_at hl 0 rfl) ?_
  refine lv_iload_n hx hb dX1_in_1 rfl (lv_at hl 1 rfl) ?_
  refine ib_icmp_lt (tgt := 14) hx hb dX1_in_2 (by decide) ⟨by omega, by omega⟩ ⟨by omega, by omega⟩ (fun c_2 => ?_) (fun c_2 => ?_)
  · skip
    refine ib_const hx hb dX1_in_14 ?_
    refine st_i (y := iI (bI (v ≤ z ∧ z ≤ w))) (congrArg iI (bI_f (by omega)).symm) ?_
    exact W.zret hx hb hr (bI_nar _) (fun t ht _ => ⟨rfl, ht⟩) (fun _ h => nomatch h) dX1_in_15
  · skip
    refine lv_iload_n hx hb dX1_in_5 rfl (lv_at hl 0 rfl) ?_
    refine lv_iload_n hx hb dX1_in_6 rfl (lv_at hl 2 rfl) ?_
    refine ib_icmp_gt (tgt := 14) hx hb dX1_in_7 (by decide) ⟨by omega, by omega⟩ ⟨by omega, by omega⟩ (fun c_7 => ?_) (fun c_7 => ?_)
    · skip
      refine ib_const hx hb dX1_in_14 ?_
      refine st_i (y := iI (bI (v ≤ z ∧ z ≤ w))) (congrArg iI (bI_f (by omega)).symm) ?_
      exact W.zret hx hb hr (bI_nar _) (fun t ht _ => ⟨rfl, ht⟩) (fun _ h => nomatch h) dX1_in_15
    · skip
      refine ib_const hx hb dX1_in_10 ?_
      refine lv_goto (tgt := 15) hx hb dX1_in_11 (by decide) ?_
      refine st_i (y := iI (bI (v ≤ z ∧ z ≤ w))) (congrArg iI (bI_t (by omega)).symm) ?_
      exact W.zret hx hb hr (bI_nar _) (fun t ht _ => ⟨rfl, ht⟩) (fun _ h => nomatch h) dX1_in_15

set_option maxHeartbeats 4000000 in
set_option maxRecDepth 100000 in
theorem mX1_isTone (l : Launch) (z : Int) (hz : inI z) : rd l yX1_isTone wsX1_isTone { frames := 1, cells := 0, slots := 0, locals := 22 } [.int (iI z)] tt_ (some (.int (iI (bI (0 ≤ z ∧ z ≤ 11))))) := by
  refine Met.ofW (cc := cX1_isTone) (maxL := 1) (ret := (some .boolean)) (by decide) rfl ?_
  intro P0 e s m args below meth c s₁ B hml hv
  obtain ⟨rfl, -⟩ := hv
  have hx := B.exec
  have hb := B.bytes
  have hr := B.returns
  have hts := atoms_spec (ws := wsX1_isTone) B.pre
  have hown : s.vm.findClass RX1 = some m.cls := findClass_of_methodNamed B.named
  have hlocks := B.notSynchronized
  have hl := lv_entry ([.int (iI z)]) (n := 1) (Nat.le_of_ble_eq_true rfl)
  rw [lg_entry_eq]
  generalize (lg_sl ([.int (iI z)]) ++ List.replicate (1 - (lg_sl ([.int (iI z)])).length) Slot.unset).toArray = ls at hl ⊢
  have hl : lv_has ls 1 [(0, .int (iI z))] := hl
  have hz1 := hz.1
  have hz2 := hz.2
  refine lv_iload_n hx hb dX1_isTone_0 rfl (lv_at hl 0 rfl) ?_
  refine ib_const hx hb dX1_isTone_1 ?_
  refine ib_bi hx hb dX1_isTone_2 (by decide) ?_
  refine rd_call (va_runS (As := [.int (iI z), .int (iI 0), .int (iI 11)]) (rest := []) ⟨hx, hb, hml, hown, hts⟩ (mX1_in l z 0 11 ⟨by omega, by omega⟩ ⟨by omega, by omega⟩ ⟨by omega, by omega⟩) (va_cwS 3 hts gX1_isTone_X1_in rfl rfl rfl hdX1_in ⟨Nat.le_of_ble_eq_true rfl, Nat.le_of_ble_eq_true rfl⟩) tt_pre rfl rfl hl.1 rfl (lv_room (Nat.le_of_ble_eq_true rfl)) dX1_isTone_4 ⟨Nat.le_of_ble_eq_true rfl, Nat.le_of_ble_eq_true rfl⟩) ?_
  exact W.zret hx hb hr (bI_nar _) (fun t ht _ => ⟨rfl, ht⟩) (fun _ h => nomatch h) dX1_isTone_7

set_option maxHeartbeats 4000000 in
set_option maxRecDepth 100000 in
theorem mX1_isCode (l : Launch) (z : Int) (hz : inI z) : rd l yX1_isCode wsX1_isCode { frames := 1, cells := 0, slots := 0, locals := 22 } [.int (iI z)] tt_ (some (.int (iI (bI (0 ≤ z ∧ z ≤ 47))))) := by
  refine Met.ofW (cc := cX1_isCode) (maxL := 1) (ret := (some .boolean)) (by decide) rfl ?_
  intro P0 e s m args below meth c s₁ B hml hv
  obtain ⟨rfl, -⟩ := hv
  have hx := B.exec
  have hb := B.bytes
  have hr := B.returns
  have hts := atoms_spec (ws := wsX1_isCode) B.pre
  have hown : s.vm.findClass RX1 = some m.cls := findClass_of_methodNamed B.named
  have hlocks := B.notSynchronized
  have hl := lv_entry ([.int (iI z)]) (n := 1) (Nat.le_of_ble_eq_true rfl)
  rw [lg_entry_eq]
  generalize (lg_sl ([.int (iI z)]) ++ List.replicate (1 - (lg_sl ([.int (iI z)])).length) Slot.unset).toArray = ls at hl ⊢
  have hl : lv_has ls 1 [(0, .int (iI z))] := hl
  have hz1 := hz.1
  have hz2 := hz.2
  refine lv_iload_n hx hb dX1_isCode_0 rfl (lv_at hl 0 rfl) ?_
  refine ib_const hx hb dX1_isCode_1 ?_
  refine ib_bi hx hb dX1_isCode_2 (by decide) ?_
  refine rd_call (va_runS (As := [.int (iI z), .int (iI 0), .int (iI 47)]) (rest := []) ⟨hx, hb, hml, hown, hts⟩ (mX1_in l z 0 47 ⟨by omega, by omega⟩ ⟨by omega, by omega⟩ ⟨by omega, by omega⟩) (va_cwS 3 hts gX1_isCode_X1_in rfl rfl rfl hdX1_in ⟨Nat.le_of_ble_eq_true rfl, Nat.le_of_ble_eq_true rfl⟩) tt_pre rfl rfl hl.1 rfl (lv_room (Nat.le_of_ble_eq_true rfl)) dX1_isCode_4 ⟨Nat.le_of_ble_eq_true rfl, Nat.le_of_ble_eq_true rfl⟩) ?_
  exact W.zret hx hb hr (bI_nar _) (fun t ht _ => ⟨rfl, ht⟩) (fun _ h => nomatch h) dX1_isCode_7

set_option maxHeartbeats 4000000 in
set_option maxRecDepth 100000 in
theorem mX1_isForm (l : Launch) (z w : Int) (hz : inI z) (hw : inI w) : rd l yX1_isForm wsX1_isForm { frames := 2, cells := 0, slots := 0, locals := 42 } [.int (iI z), .int (iI w)] tt_ (some (.int (iI (bI (0 ≤ z ∧ z ≤ 3 ∧ 0 ≤ w ∧ w ≤ 11))))) := by
  refine Met.ofW (cc := cX1_isForm) (maxL := 2) (ret := (some .boolean)) (by decide) rfl ?_
  intro P0 e s m args below meth c s₁ B hml hv
  obtain ⟨rfl, -⟩ := hv
  have hx := B.exec
  have hb := B.bytes
  have hr := B.returns
  have hts := atoms_spec (ws := wsX1_isForm) B.pre
  have hown : s.vm.findClass RX1 = some m.cls := findClass_of_methodNamed B.named
  have hlocks := B.notSynchronized
  have hl := lv_entry ([.int (iI z), .int (iI w)]) (n := 2) (Nat.le_of_ble_eq_true rfl)
  rw [lg_entry_eq]
  generalize (lg_sl ([.int (iI z), .int (iI w)]) ++ List.replicate (2 - (lg_sl ([.int (iI z), .int (iI w)])).length) Slot.unset).toArray = ls at hl ⊢
  have hl : lv_has ls 2 [(0, .int (iI z)), (1, .int (iI w))] := hl
  have hz1 := hz.1
  have hz2 := hz.2
  have hw1 := hw.1
  have hw2 := hw.2
  refine lv_iload_n hx hb dX1_isForm_0 rfl (lv_at hl 0 rfl) ?_
  refine ib_const hx hb dX1_isForm_1 ?_
  refine ib_const hx hb dX1_isForm_2 ?_
  refine rd_call (va_runS (As := [.int (iI z), .int (iI 0), .int (iI 3)]) (rest := []) ⟨hx, hb, hml, hown, hts⟩ (mX1_in l z 0 3 ⟨by omega, by omega⟩ ⟨by omega, by omega⟩ ⟨by omega, by omega⟩) (va_cwS 3 hts gX1_isForm_X1_in rfl rfl rfl hdX1_in ⟨Nat.le_of_ble_eq_true rfl, Nat.le_of_ble_eq_true rfl⟩) tt_pre rfl rfl hl.1 rfl (lv_room (Nat.le_of_ble_eq_true rfl)) dX1_isForm_3 ⟨Nat.le_of_ble_eq_true rfl, Nat.le_of_ble_eq_true rfl⟩) ?_
  refine bb_eq (tgt := 20) hx hb dX1_isForm_6 (by decide) (fun c_6 => ?_) (fun c_6 => ?_)
  · skip
    refine ib_const hx hb dX1_isForm_20 ?_
    refine st_i (y := iI (bI (0 ≤ z ∧ z ≤ 3 ∧ 0 ≤ w ∧ w ≤ 11))) (congrArg iI (bI_f (by omega)).symm) ?_
    exact W.zret hx hb hr (bI_nar _) (fun t ht _ => ⟨rfl, ht⟩) (fun _ h => nomatch h) dX1_isForm_21
  · skip
    refine lv_iload_n hx hb dX1_isForm_9 rfl (lv_at hl 1 rfl) ?_
    refine rd_call (va_runS (As := [.int (iI w)]) (rest := []) ⟨hx, hb, hml, hown, hts⟩ (mX1_isTone l w ⟨by omega, by omega⟩) (va_cwS 1 hts gX1_isForm_X1_isTone rfl rfl rfl hdX1_isTone ⟨Nat.le_of_ble_eq_true rfl, Nat.le_of_ble_eq_true rfl⟩) tt_pre rfl rfl hl.1 rfl (lv_room (Nat.le_of_ble_eq_true rfl)) dX1_isForm_10 ⟨Nat.le_of_ble_eq_true rfl, Nat.le_of_ble_eq_true rfl⟩) ?_
    refine bb_eq (tgt := 20) hx hb dX1_isForm_13 (by decide) (fun c_13 => ?_) (fun c_13 => ?_)
    · skip
      refine ib_const hx hb dX1_isForm_20 ?_
      refine st_i (y := iI (bI (0 ≤ z ∧ z ≤ 3 ∧ 0 ≤ w ∧ w ≤ 11))) (congrArg iI (bI_f (by omega)).symm) ?_
      exact W.zret hx hb hr (bI_nar _) (fun t ht _ => ⟨rfl, ht⟩) (fun _ h => nomatch h) dX1_isForm_21
    · skip
      refine ib_const hx hb dX1_isForm_16 ?_
      refine lv_goto (tgt := 21) hx hb dX1_isForm_17 (by decide) ?_
      refine st_i (y := iI (bI (0 ≤ z ∧ z ≤ 3 ∧ 0 ≤ w ∧ w ≤ 11))) (congrArg iI (bI_t (by omega)).symm) ?_
      exact W.zret hx hb hr (bI_nar _) (fun t ht _ => ⟨rfl, ht⟩) (fun _ h => nomatch h) dX1_isForm_21

set_option maxHeartbeats 4000000 in
set_option maxRecDepth 100000 in
theorem mX1_modulo (l : Launch) (v : Int) (h1 : -2147483000 ≤ v) (h2 : v ≤ 2147483000) : rd l yX1_modulo wsX1_modulo { frames := 0, cells := 0, slots := 0, locals := 0 } [.int (iI v)] tt_ (some (.int (iI ((md v : Nat) : Int)))) := by
  refine Met.ofW (cc := cX1_modulo) (maxL := 1) (ret := (some .int)) (by decide) rfl ?_
  intro P0 e s m args below meth c s₁ B hml hv
  obtain ⟨rfl, -⟩ := hv
  have hx := B.exec
  have hb := B.bytes
  have hr := B.returns
  have hts := atoms_spec (ws := wsX1_modulo) B.pre
  have hown : s.vm.findClass RX1 = some m.cls := findClass_of_methodNamed B.named
  have hlocks := B.notSynchronized
  have hl := lv_entry ([.int (iI v)]) (n := 1) (Nat.le_of_ble_eq_true rfl)
  rw [lg_entry_eq]
  generalize (lg_sl ([.int (iI v)]) ++ List.replicate (1 - (lg_sl ([.int (iI v)])).length) Slot.unset).toArray = ls at hl ⊢
  have hl : lv_has ls 1 [(0, .int (iI v))] := hl
  have ht := tm_spec v
  have hmd := md_eq v
  refine lv_iload_n hx hb dX1_modulo_0 rfl (lv_at hl 0 rfl) ?_
  refine ib_bi hx hb dX1_modulo_1 (by decide) ?_
  refine ib_remt (z := tm v) hx hb dX1_modulo_3 ⟨by omega, by omega⟩ (by omega) (by omega) rfl ?_
  refine ib_bi hx hb dX1_modulo_4 (by decide) ?_
  refine ib_add (z := (tm v) + 12) hx hb dX1_modulo_6 (by omega) ?_
  refine ib_bi hx hb dX1_modulo_7 (by decide) ?_
  refine ib_rem (z := ((tm v) + 12) % 12) hx hb dX1_modulo_9 (by omega) (by omega) (by omega) (by omega) (by first | omega | rfl) ?_
  refine st_i (y := iI ((md v : Nat) : Int)) (congrArg iI (by rw [md_eq]; omega)) ?_
  exact W.iret hx hb hr (fun t ht _ => ⟨rfl, ht⟩) (fun _ h => nomatch h) dX1_modulo_10

set_option maxHeartbeats 4000000 in
set_option maxRecDepth 100000 in
theorem mX1_codeOf (l : Launch) (k n : Nat) : rd l yX1_codeOf wsX1_codeOf { frames := 0, cells := 0, slots := 0, locals := 0 } [.int (iI ((k : Nat) : Int)), .int (iI ((n : Nat) : Int))] tt_ (some (.int (iI ((12 * k + n : Nat) : Int)))) := by
  refine Met.ofW (cc := cX1_codeOf) (maxL := 2) (ret := (some .int)) (by decide) rfl ?_
  intro P0 e s m args below meth c s₁ B hml hv
  obtain ⟨rfl, -⟩ := hv
  have hx := B.exec
  have hb := B.bytes
  have hr := B.returns
  have hts := atoms_spec (ws := wsX1_codeOf) B.pre
  have hown : s.vm.findClass RX1 = some m.cls := findClass_of_methodNamed B.named
  have hlocks := B.notSynchronized
  have hl := lv_entry ([.int (iI ((k : Nat) : Int)), .int (iI ((n : Nat) : Int))]) (n := 2) (Nat.le_of_ble_eq_true rfl)
  rw [lg_entry_eq]
  generalize (lg_sl ([.int (iI ((k : Nat) : Int)), .int (iI ((n : Nat) : Int))]) ++ List.replicate (2 - (lg_sl ([.int (iI ((k : Nat) : Int)), .int (iI ((n : Nat) : Int))])).length) Slot.unset).toArray = ls at hl ⊢
  have hl : lv_has ls 2 [(0, .int (iI ((k : Nat) : Int))), (1, .int (iI ((n : Nat) : Int)))] := hl
  refine ib_bi hx hb dX1_codeOf_0 (by decide) ?_
  refine lv_iload_n hx hb dX1_codeOf_2 rfl (lv_at hl 0 rfl) ?_
  refine ib_mul (z := ((12 * k : Nat) : Int)) hx hb dX1_codeOf_3 (by first | omega | rfl | (push_cast; rfl)) ?_
  refine lv_iload_n hx hb dX1_codeOf_4 rfl (lv_at hl 1 rfl) ?_
  refine ib_add (z := (((12 * k) + n : Nat) : Int)) hx hb dX1_codeOf_5 (by omega) ?_
  refine st_i (y := iI ((12 * k + n : Nat) : Int)) (congrArg iI (by omega)) ?_
  exact W.iret hx hb hr (fun t ht _ => ⟨rfl, ht⟩) (fun _ h => nomatch h) dX1_codeOf_6

set_option maxHeartbeats 4000000 in
set_option maxRecDepth 100000 in
theorem mX1_moved_0 (l : Launch) (sv b : Nat) (h : sv < 4096) (hb9 : b < 12) : rd l yX1_moved wsX1_moved { frames := 1, cells := 0, slots := 0, locals := 20 } [.int (iI ((sv : Nat) : Int)), .int (iI ((b : Nat) : Int)), .int (iI 0)] tt_ (some (.int (iI ((mvN sv b False 12 : Nat) : Int)))) := by
  refine Met.ofW (cc := cX1_moved) (maxL := 5) (ret := (some .int)) (by decide) rfl ?_
  intro P0 e s m args below meth c s₁ B hml hv
  obtain ⟨rfl, -⟩ := hv
  have hx := B.exec
  have hb := B.bytes
  have hr := B.returns
  have hts := atoms_spec (ws := wsX1_moved) B.pre
  have hown : s.vm.findClass RX1 = some m.cls := findClass_of_methodNamed B.named
  have hlocks := B.notSynchronized
  have hl := lv_entry ([.int (iI ((sv : Nat) : Int)), .int (iI ((b : Nat) : Int)), .int (iI 0)]) (n := 5) (Nat.le_of_ble_eq_true rfl)
  rw [lg_entry_eq]
  generalize (lg_sl ([.int (iI ((sv : Nat) : Int)), .int (iI ((b : Nat) : Int)), .int (iI 0)]) ++ List.replicate (5 - (lg_sl ([.int (iI ((sv : Nat) : Int)), .int (iI ((b : Nat) : Int)), .int (iI 0)])).length) Slot.unset).toArray = ls at hl ⊢
  have hl : lv_has ls 5 [(0, .int (iI ((sv : Nat) : Int))), (1, .int (iI ((b : Nat) : Int))), (2, .int (iI 0))] := hl
  refine ib_const hx hb dX1_moved_0 ?_
  refine lv_istore_n (lv' := [(3, .int (iI 0)), (0, .int (iI ((sv : Nat) : Int))), (1, .int (iI ((b : Nat) : Int))), (2, .int (iI 0))]) hx hb dX1_moved_1 rfl hl (by decide) rfl (fun ls hl => ?_)
  refine ib_const hx hb dX1_moved_2 ?_
  refine lv_istore (lv' := [(4, .int (iI 0)), (3, .int (iI 0)), (0, .int (iI ((sv : Nat) : Int))), (1, .int (iI ((b : Nat) : Int))), (2, .int (iI 0))]) hx hb dX1_moved_3 hl (by decide) rfl (fun ls hl => ?_)
  have lp_5_1 : ∀ (j n : Nat), n + j = 12 → ∀ ls : Array Slot, lv_has ls 5 [(0, .int (iI ((sv : Nat) : Int))), (1, .int (iI ((b : Nat) : Int))), (2, .int (iI 0)), (3, .int (iI ((mvN sv b False n : Nat) : Int))), (4, .int (iI ((n : Nat) : Int)))] → W P0 l e (headSpec wsX1_moved { frames := 1, cells := 0, slots := 0, locals := 20 }).room s m ([.int (iI ((sv : Nat) : Int)), .int (iI ((b : Nat) : Int)), .int (iI 0)] : List Value).toArray below meth c s.heap [] 0 0 (MQ below (rdQ (some (.int (iI ((mvN sv b False 12 : Nat) : Int))))) ([.int (iI ((sv : Nat) : Int)), .int (iI ((b : Nat) : Int)), .int (iI 0)] : List Value).toArray s 0 0 (fun _ => False)) (F0 m 5 ls []) := by
    intro j
    induction j with
    | zero =>
      intro n hn_5  ls hl
      refine lv_iload hx hb dX1_moved_5 (lv_at hl 4 rfl) ?_
      refine ib_bi hx hb dX1_moved_7 (by decide) ?_
      refine ib_icmp_ge (tgt := 46) hx hb dX1_moved_9 (by decide) ⟨by omega, by omega⟩ ⟨by omega, by omega⟩ (fun c_9 => ?_) (fun c_9 => absurd c_9 (by omega))
      refine lv_iload_n hx hb dX1_moved_46 rfl (lv_at hl 3 rfl) ?_
      refine st_i (y := iI ((mvN sv b False 12 : Nat) : Int)) (congrArg (fun z : Nat => iI ((mvN sv b False z : Nat) : Int)) (show n = 12 by omega)) ?_
      exact W.iret hx hb hr (fun t ht _ => ⟨rfl, ht⟩) (fun _ h => nomatch h) dX1_moved_47
    | succ j ih_5_1 =>
      intro n hn_5  ls hl
      refine lv_iload hx hb dX1_moved_5 (lv_at hl 4 rfl) ?_
      refine ib_bi hx hb dX1_moved_7 (by decide) ?_
      refine ib_icmp_ge (tgt := 46) hx hb dX1_moved_9 (by decide) ⟨by omega, by omega⟩ ⟨by omega, by omega⟩ (fun c_9 => absurd c_9 (by omega)) (fun c_9 => ?_)
      refine lv_iload_n hx hb dX1_moved_12 rfl (lv_at hl 3 rfl) ?_
      refine lv_iload_n hx hb dX1_moved_13 rfl (lv_at hl 0 rfl) ?_
      refine lv_iload hx hb dX1_moved_14 (lv_at hl 4 rfl) ?_
      refine lv_ishr hx hb dX1_moved_16 ?_
      refine st_i (y := iI ((sv / 2 ^ n : Nat) : Int)) (ir_shr (by omega) (by omega)) ?_
      refine ib_const hx hb dX1_moved_17 ?_
      refine lv_iand hx hb dX1_moved_18 ?_
      refine st_i (y := iI ((sv / 2 ^ n &&& 1 : Nat) : Int)) (ir_and _ 1) ?_
      refine lv_iload_n hx hb dX1_moved_19 rfl (lv_at hl 2 rfl) ?_
      refine ib_if_eq (tgt := 30) hx hb dX1_moved_20 (by decide) ⟨by omega, by omega⟩ (fun c_20 => ?_) (fun c_20 => absurd c_20 (by decide))
      refine lv_iload_n hx hb dX1_moved_30 rfl (lv_at hl 1 rfl) ?_
      refine lv_iload hx hb dX1_moved_31 (lv_at hl 4 rfl) ?_
      refine ib_add (z := ((b + n : Nat) : Int)) hx hb dX1_moved_33 (by omega) ?_
      refine rd_call (va_runS (As := [.int (iI ((b + n : Nat) : Int))]) (rest := [.int (iI ((sv / 2 ^ n &&& 1 : Nat) : Int)), .int (iI ((mvN sv b False n : Nat) : Int))]) ⟨hx, hb, hml, hown, hts⟩ (mX1_modulo l ((b + n : Nat) : Int) (by omega) (by omega)) (va_cwS 1 hts gX1_moved_X1_modulo rfl rfl rfl hdX1_modulo ⟨Nat.le_of_ble_eq_true rfl, Nat.le_of_ble_eq_true rfl⟩) tt_pre rfl rfl hl.1 rfl (lv_room (Nat.le_of_ble_eq_true rfl)) dX1_moved_34 ⟨Nat.le_of_ble_eq_true rfl, Nat.le_of_ble_eq_true rfl⟩) ?_
      have hm_34 := md_lt ((b + n : Nat) : Int)
      refine lv_ishl hx hb dX1_moved_37 ?_
      refine st_i (y := iI (((sv / 2 ^ n &&& 1) * 2 ^ md (((b + n : Nat) : Int)) : Nat) : Int)) (ir_shl (by omega) (iv_b _ _)) ?_
      refine lv_ior hx hb dX1_moved_38 ?_
      refine st_i (y := iI ((mvN sv b False (n + 1) : Nat) : Int)) (ir_or _ _) ?_
      refine lv_istore_n (lv' := [(3, .int (iI ((mvN sv b False (n + 1) : Nat) : Int))), (0, .int (iI ((sv : Nat) : Int))), (1, .int (iI ((b : Nat) : Int))), (2, .int (iI 0)), (4, .int (iI ((n : Nat) : Int)))]) hx hb dX1_moved_39 rfl hl (by decide) rfl (fun ls hl => ?_)
      refine lv_iinc (v := iI ((n + 1 : Nat) : Int)) (lv' := [(4, .int (iI ((n + 1 : Nat) : Int))), (3, .int (iI ((mvN sv b False (n + 1) : Nat) : Int))), (0, .int (iI ((sv : Nat) : Int))), (1, .int (iI ((b : Nat) : Int))), (2, .int (iI 0))]) hx hb dX1_moved_40 hl (k := 4) rfl (iI_inc (by omega)) (by decide) rfl (fun ls hl => ?_)
      refine lv_goto (tgt := 5) hx hb dX1_moved_43 (by decide) ?_
      exact ih_5_1 (n + 1) (by omega)  _ (lv_sub hl [2, 3, 4, 1, 0] rfl)
  exact lp_5_1 12 0 (by omega)  _ (lv_sub hl [2, 3, 4, 1, 0] rfl)

set_option maxHeartbeats 4000000 in
set_option maxRecDepth 100000 in
theorem mX1_moved_1 (l : Launch) (sv b : Nat) (h : sv < 4096) (hb9 : b < 12) : rd l yX1_moved wsX1_moved { frames := 1, cells := 0, slots := 0, locals := 20 } [.int (iI ((sv : Nat) : Int)), .int (iI ((b : Nat) : Int)), .int (iI 1)] tt_ (some (.int (iI ((mvN sv b True 12 : Nat) : Int)))) := by
  refine Met.ofW (cc := cX1_moved) (maxL := 5) (ret := (some .int)) (by decide) rfl ?_
  intro P0 e s m args below meth c s₁ B hml hv
  obtain ⟨rfl, -⟩ := hv
  have hx := B.exec
  have hb := B.bytes
  have hr := B.returns
  have hts := atoms_spec (ws := wsX1_moved) B.pre
  have hown : s.vm.findClass RX1 = some m.cls := findClass_of_methodNamed B.named
  have hlocks := B.notSynchronized
  have hl := lv_entry ([.int (iI ((sv : Nat) : Int)), .int (iI ((b : Nat) : Int)), .int (iI 1)]) (n := 5) (Nat.le_of_ble_eq_true rfl)
  rw [lg_entry_eq]
  generalize (lg_sl ([.int (iI ((sv : Nat) : Int)), .int (iI ((b : Nat) : Int)), .int (iI 1)]) ++ List.replicate (5 - (lg_sl ([.int (iI ((sv : Nat) : Int)), .int (iI ((b : Nat) : Int)), .int (iI 1)])).length) Slot.unset).toArray = ls at hl ⊢
  have hl : lv_has ls 5 [(0, .int (iI ((sv : Nat) : Int))), (1, .int (iI ((b : Nat) : Int))), (2, .int (iI 1))] := hl
  refine ib_const hx hb dX1_moved_0 ?_
  refine lv_istore_n (lv' := [(3, .int (iI 0)), (0, .int (iI ((sv : Nat) : Int))), (1, .int (iI ((b : Nat) : Int))), (2, .int (iI 1))]) hx hb dX1_moved_1 rfl hl (by decide) rfl (fun ls hl => ?_)
  refine ib_const hx hb dX1_moved_2 ?_
  refine lv_istore (lv' := [(4, .int (iI 0)), (3, .int (iI 0)), (0, .int (iI ((sv : Nat) : Int))), (1, .int (iI ((b : Nat) : Int))), (2, .int (iI 1))]) hx hb dX1_moved_3 hl (by decide) rfl (fun ls hl => ?_)
  have lp_5_1 : ∀ (j n : Nat), n + j = 12 → ∀ ls : Array Slot, lv_has ls 5 [(0, .int (iI ((sv : Nat) : Int))), (1, .int (iI ((b : Nat) : Int))), (2, .int (iI 1)), (3, .int (iI ((mvN sv b True n : Nat) : Int))), (4, .int (iI ((n : Nat) : Int)))] → W P0 l e (headSpec wsX1_moved { frames := 1, cells := 0, slots := 0, locals := 20 }).room s m ([.int (iI ((sv : Nat) : Int)), .int (iI ((b : Nat) : Int)), .int (iI 1)] : List Value).toArray below meth c s.heap [] 0 0 (MQ below (rdQ (some (.int (iI ((mvN sv b True 12 : Nat) : Int))))) ([.int (iI ((sv : Nat) : Int)), .int (iI ((b : Nat) : Int)), .int (iI 1)] : List Value).toArray s 0 0 (fun _ => False)) (F0 m 5 ls []) := by
    intro j
    induction j with
    | zero =>
      intro n hn_5  ls hl
      refine lv_iload hx hb dX1_moved_5 (lv_at hl 4 rfl) ?_
      refine ib_bi hx hb dX1_moved_7 (by decide) ?_
      refine ib_icmp_ge (tgt := 46) hx hb dX1_moved_9 (by decide) ⟨by omega, by omega⟩ ⟨by omega, by omega⟩ (fun c_9 => ?_) (fun c_9 => absurd c_9 (by omega))
      refine lv_iload_n hx hb dX1_moved_46 rfl (lv_at hl 3 rfl) ?_
      refine st_i (y := iI ((mvN sv b True 12 : Nat) : Int)) (congrArg (fun z : Nat => iI ((mvN sv b True z : Nat) : Int)) (show n = 12 by omega)) ?_
      exact W.iret hx hb hr (fun t ht _ => ⟨rfl, ht⟩) (fun _ h => nomatch h) dX1_moved_47
    | succ j ih_5_1 =>
      intro n hn_5  ls hl
      refine lv_iload hx hb dX1_moved_5 (lv_at hl 4 rfl) ?_
      refine ib_bi hx hb dX1_moved_7 (by decide) ?_
      refine ib_icmp_ge (tgt := 46) hx hb dX1_moved_9 (by decide) ⟨by omega, by omega⟩ ⟨by omega, by omega⟩ (fun c_9 => absurd c_9 (by omega)) (fun c_9 => ?_)
      refine lv_iload_n hx hb dX1_moved_12 rfl (lv_at hl 3 rfl) ?_
      refine lv_iload_n hx hb dX1_moved_13 rfl (lv_at hl 0 rfl) ?_
      refine lv_iload hx hb dX1_moved_14 (lv_at hl 4 rfl) ?_
      refine lv_ishr hx hb dX1_moved_16 ?_
      refine st_i (y := iI ((sv / 2 ^ n : Nat) : Int)) (ir_shr (by omega) (by omega)) ?_
      refine ib_const hx hb dX1_moved_17 ?_
      refine lv_iand hx hb dX1_moved_18 ?_
      refine st_i (y := iI ((sv / 2 ^ n &&& 1 : Nat) : Int)) (ir_and _ 1) ?_
      refine lv_iload_n hx hb dX1_moved_19 rfl (lv_at hl 2 rfl) ?_
      refine ib_if_eq (tgt := 30) hx hb dX1_moved_20 (by decide) ⟨by omega, by omega⟩ (fun c_20 => absurd c_20 (by decide)) (fun c_20 => ?_)
      refine lv_iload_n hx hb dX1_moved_23 rfl (lv_at hl 1 rfl) ?_
      refine lv_iload hx hb dX1_moved_24 (lv_at hl 4 rfl) ?_
      refine ib_sub (z := ((b : Nat) : Int) - ((n : Nat) : Int)) hx hb dX1_moved_26 (by omega) ?_
      refine lv_goto (tgt := 34) hx hb dX1_moved_27 (by decide) ?_
      refine rd_call (va_runS (As := [.int (iI (((b : Nat) : Int) - ((n : Nat) : Int)))]) (rest := [.int (iI ((sv / 2 ^ n &&& 1 : Nat) : Int)), .int (iI ((mvN sv b True n : Nat) : Int))]) ⟨hx, hb, hml, hown, hts⟩ (mX1_modulo l (((b : Nat) : Int) - ((n : Nat) : Int)) (by omega) (by omega)) (va_cwS 1 hts gX1_moved_X1_modulo rfl rfl rfl hdX1_modulo ⟨Nat.le_of_ble_eq_true rfl, Nat.le_of_ble_eq_true rfl⟩) tt_pre rfl rfl hl.1 rfl (lv_room (Nat.le_of_ble_eq_true rfl)) dX1_moved_34 ⟨Nat.le_of_ble_eq_true rfl, Nat.le_of_ble_eq_true rfl⟩) ?_
      have hm_34 := md_lt (((b : Nat) : Int) - ((n : Nat) : Int))
      refine lv_ishl hx hb dX1_moved_37 ?_
      refine st_i (y := iI (((sv / 2 ^ n &&& 1) * 2 ^ md (((b : Nat) : Int) - ((n : Nat) : Int)) : Nat) : Int)) (ir_shl (by omega) (iv_b _ _)) ?_
      refine lv_ior hx hb dX1_moved_38 ?_
      refine st_i (y := iI ((mvN sv b True (n + 1) : Nat) : Int)) (ir_or _ _) ?_
      refine lv_istore_n (lv' := [(3, .int (iI ((mvN sv b True (n + 1) : Nat) : Int))), (0, .int (iI ((sv : Nat) : Int))), (1, .int (iI ((b : Nat) : Int))), (2, .int (iI 1)), (4, .int (iI ((n : Nat) : Int)))]) hx hb dX1_moved_39 rfl hl (by decide) rfl (fun ls hl => ?_)
      refine lv_iinc (v := iI ((n + 1 : Nat) : Int)) (lv' := [(4, .int (iI ((n + 1 : Nat) : Int))), (3, .int (iI ((mvN sv b True (n + 1) : Nat) : Int))), (0, .int (iI ((sv : Nat) : Int))), (1, .int (iI ((b : Nat) : Int))), (2, .int (iI 1))]) hx hb dX1_moved_40 hl (k := 4) rfl (iI_inc (by omega)) (by decide) rfl (fun ls hl => ?_)
      refine lv_goto (tgt := 5) hx hb dX1_moved_43 (by decide) ?_
      exact ih_5_1 (n + 1) (by omega)  _ (lv_sub hl [2, 3, 4, 1, 0] rfl)
  exact lp_5_1 12 0 (by omega)  _ (lv_sub hl [2, 3, 4, 1, 0] rfl)

set_option maxHeartbeats 4000000 in
set_option maxRecDepth 100000 in
theorem mX1_least (l : Launch) (sv : Nat) (h : sv < 4096) : rd l yX1_least wsX1_least { frames := 2, cells := 0, slots := 0, locals := 44 } [.int (iI ((sv : Nat) : Int))] tt_ (some (.int (iI ((lsN sv 12 : Nat) : Int)))) := by
  refine Met.ofW (cc := cX1_least) (maxL := 3) (ret := (some .int)) (by decide) rfl ?_
  intro P0 e s m args below meth c s₁ B hml hv
  obtain ⟨rfl, -⟩ := hv
  have hx := B.exec
  have hb := B.bytes
  have hr := B.returns
  have hts := atoms_spec (ws := wsX1_least) B.pre
  have hown : s.vm.findClass RX1 = some m.cls := findClass_of_methodNamed B.named
  have hlocks := B.notSynchronized
  have hl := lv_entry ([.int (iI ((sv : Nat) : Int))]) (n := 3) (Nat.le_of_ble_eq_true rfl)
  rw [lg_entry_eq]
  generalize (lg_sl ([.int (iI ((sv : Nat) : Int))]) ++ List.replicate (3 - (lg_sl ([.int (iI ((sv : Nat) : Int))])).length) Slot.unset).toArray = ls at hl ⊢
  have hl : lv_has ls 3 [(0, .int (iI ((sv : Nat) : Int)))] := hl
  refine lv_iload_n hx hb dX1_least_0 rfl (lv_at hl 0 rfl) ?_
  refine lv_istore_n (lv' := [(1, .int (iI ((sv : Nat) : Int))), (0, .int (iI ((sv : Nat) : Int)))]) hx hb dX1_least_1 rfl hl (by decide) rfl (fun ls hl => ?_)
  refine ib_const hx hb dX1_least_2 ?_
  refine lv_istore_n (lv' := [(2, .int (iI 0)), (1, .int (iI ((sv : Nat) : Int))), (0, .int (iI ((sv : Nat) : Int)))]) hx hb dX1_least_3 rfl hl (by decide) rfl (fun ls hl => ?_)
  have lp_4_1 : ∀ (j n : Nat), n + j = 12 → ∀ ls : Array Slot, lv_has ls 3 [(0, .int (iI ((sv : Nat) : Int))), (1, .int (iI ((lsN sv n : Nat) : Int))), (2, .int (iI ((n : Nat) : Int)))] → W P0 l e (headSpec wsX1_least { frames := 2, cells := 0, slots := 0, locals := 44 }).room s m ([.int (iI ((sv : Nat) : Int))] : List Value).toArray below meth c s.heap [] 0 0 (MQ below (rdQ (some (.int (iI ((lsN sv 12 : Nat) : Int))))) ([.int (iI ((sv : Nat) : Int))] : List Value).toArray s 0 0 (fun _ => False)) (F0 m 4 ls []) := by
    intro j
    induction j with
    | zero =>
      intro n hn_4  ls hl
      have hl9 := lsN_le sv n
      refine lv_iload_n hx hb dX1_least_4 rfl (lv_at hl 2 rfl) ?_
      refine ib_bi hx hb dX1_least_5 (by decide) ?_
      refine ib_icmp_ge (tgt := 58) hx hb dX1_least_7 (by decide) ⟨by omega, by omega⟩ ⟨by omega, by omega⟩ (fun c_7 => ?_) (fun c_7 => absurd c_7 (by omega))
      refine lv_iload_n hx hb dX1_least_58 rfl (lv_at hl 1 rfl) ?_
      refine st_i (y := iI ((lsN sv 12 : Nat) : Int)) (congrArg (fun z : Nat => iI ((lsN sv z : Nat) : Int)) (show n = 12 by omega)) ?_
      exact W.iret hx hb hr (fun t ht _ => ⟨rfl, ht⟩) (fun _ h => nomatch h) dX1_least_59
    | succ j ih_4_1 =>
      intro n hn_4  ls hl
      have hl9 := lsN_le sv n
      refine lv_iload_n hx hb dX1_least_4 rfl (lv_at hl 2 rfl) ?_
      refine ib_bi hx hb dX1_least_5 (by decide) ?_
      refine ib_icmp_ge (tgt := 58) hx hb dX1_least_7 (by decide) ⟨by omega, by omega⟩ ⟨by omega, by omega⟩ (fun c_7 => absurd c_7 (by omega)) (fun c_7 => ?_)
      refine lv_iload_n hx hb dX1_least_10 rfl (lv_at hl 0 rfl) ?_
      refine lv_iload_n hx hb dX1_least_11 rfl (lv_at hl 2 rfl) ?_
      refine ib_const hx hb dX1_least_12 ?_
      refine rd_call (va_runS (As := [.int (iI ((sv : Nat) : Int)), .int (iI ((n : Nat) : Int)), .int (iI 0)]) (rest := []) ⟨hx, hb, hml, hown, hts⟩ (mX1_moved_0 l sv n (by omega) (by omega)) (va_cwS 3 hts gX1_least_X1_moved rfl rfl rfl hdX1_moved ⟨Nat.le_of_ble_eq_true rfl, Nat.le_of_ble_eq_true rfl⟩) tt_pre rfl rfl hl.1 rfl (lv_room (Nat.le_of_ble_eq_true rfl)) dX1_least_13 ⟨Nat.le_of_ble_eq_true rfl, Nat.le_of_ble_eq_true rfl⟩) ?_
      have hv_13 := mvN_lt sv n False 12
      refine lv_iload_n hx hb dX1_least_16 rfl (lv_at hl 1 rfl) ?_
      refine ib_icmp_ge (tgt := 29) hx hb dX1_least_17 (by decide) ⟨by omega, by omega⟩ ⟨by omega, by omega⟩ (fun c_17 => ?_) (fun c_17 => ?_)
      · skip
        refine lv_iload_n hx hb dX1_least_29 rfl (lv_at hl 1 rfl) ?_
        refine lv_istore_n (lv' := [(1, .int (iI ((lsN sv n : Nat) : Int))), (0, .int (iI ((sv : Nat) : Int))), (2, .int (iI ((n : Nat) : Int)))]) hx hb dX1_least_30 rfl hl (by decide) rfl (fun ls hl => ?_)
        refine lv_iload_n hx hb dX1_least_31 rfl (lv_at hl 1 rfl) ?_
        refine lv_iload_n hx hb dX1_least_32 rfl (lv_at hl 2 rfl) ?_
        refine ib_const hx hb dX1_least_33 ?_
        refine rd_call (va_runS (As := [.int (iI ((sv : Nat) : Int)), .int (iI ((n : Nat) : Int)), .int (iI 1)]) (rest := []) ⟨hx, hb, hml, hown, hts⟩ (mX1_moved_1 l sv n (by omega) (by omega)) (va_cwS 3 hts gX1_least_X1_moved rfl rfl rfl hdX1_moved ⟨Nat.le_of_ble_eq_true rfl, Nat.le_of_ble_eq_true rfl⟩) tt_pre rfl rfl hl.1 rfl (lv_room (Nat.le_of_ble_eq_true rfl)) dX1_least_34 ⟨Nat.le_of_ble_eq_true rfl, Nat.le_of_ble_eq_true rfl⟩) ?_
        have hv_34 := mvN_lt sv n True 12
        refine lv_iload_n hx hb dX1_least_37 rfl (lv_at hl 0 rfl) ?_
        refine ib_icmp_ge (tgt := 50) hx hb dX1_least_38 (by decide) ⟨by omega, by omega⟩ ⟨by omega, by omega⟩ (fun c_38 => ?_) (fun c_38 => ?_)
        · skip
          refine lv_iload_n hx hb dX1_least_50 rfl (lv_at hl 0 rfl) ?_
          refine lv_istore_n (lv' := [(1, .int (iI ((lsN sv n : Nat) : Int))), (0, .int (iI ((sv : Nat) : Int))), (2, .int (iI ((n : Nat) : Int)))]) hx hb dX1_least_51 rfl hl (by decide) rfl (fun ls hl => ?_)
          refine lv_iinc (v := iI ((n + 1 : Nat) : Int)) (lv' := [(2, .int (iI ((n + 1 : Nat) : Int))), (1, .int (iI ((lsN sv n : Nat) : Int))), (0, .int (iI ((sv : Nat) : Int)))]) hx hb dX1_least_52 hl (k := 2) rfl (iI_inc (by omega)) (by decide) rfl (fun ls hl => ?_)
          refine lv_goto (tgt := 4) hx hb dX1_least_55 (by decide) ?_
          have hl : lv_has ls 3 [(2, .int (iI ((n + 1 : Nat) : Int))), (1, .int (iI ((lsN sv (n + 1) : Nat) : Int))), (0, .int (iI ((sv : Nat) : Int)))] := by
            have e9 : iI ((lsN sv n : Nat) : Int) = iI ((lsN sv (n + 1) : Nat) : Int) := congrArg (fun z : Nat => iI ((z : Nat) : Int)) (show _ = min (min (lsN sv n) (mvN sv n False 12)) (mvN sv n True 12) by omega)
            rw [← e9]; exact hl
          exact ih_4_1 (n + 1) (by omega)  _ (lv_sub hl [2, 1, 0] rfl)
        · skip
          refine lv_iload_n hx hb dX1_least_41 rfl (lv_at hl 1 rfl) ?_
          refine lv_iload_n hx hb dX1_least_42 rfl (lv_at hl 2 rfl) ?_
          refine ib_const hx hb dX1_least_43 ?_
          refine rd_call (va_runS (As := [.int (iI ((sv : Nat) : Int)), .int (iI ((n : Nat) : Int)), .int (iI 1)]) (rest := []) ⟨hx, hb, hml, hown, hts⟩ (mX1_moved_1 l sv n (by omega) (by omega)) (va_cwS 3 hts gX1_least_X1_moved rfl rfl rfl hdX1_moved ⟨Nat.le_of_ble_eq_true rfl, Nat.le_of_ble_eq_true rfl⟩) tt_pre rfl rfl hl.1 rfl (lv_room (Nat.le_of_ble_eq_true rfl)) dX1_least_44 ⟨Nat.le_of_ble_eq_true rfl, Nat.le_of_ble_eq_true rfl⟩) ?_
          have hv_44 := mvN_lt sv n True 12
          refine lv_goto (tgt := 51) hx hb dX1_least_47 (by decide) ?_
          refine lv_istore_n (lv' := [(1, .int (iI ((mvN sv n True 12 : Nat) : Int))), (0, .int (iI ((sv : Nat) : Int))), (2, .int (iI ((n : Nat) : Int)))]) hx hb dX1_least_51 rfl hl (by decide) rfl (fun ls hl => ?_)
          refine lv_iinc (v := iI ((n + 1 : Nat) : Int)) (lv' := [(2, .int (iI ((n + 1 : Nat) : Int))), (1, .int (iI ((mvN sv n True 12 : Nat) : Int))), (0, .int (iI ((sv : Nat) : Int)))]) hx hb dX1_least_52 hl (k := 2) rfl (iI_inc (by omega)) (by decide) rfl (fun ls hl => ?_)
          refine lv_goto (tgt := 4) hx hb dX1_least_55 (by decide) ?_
          have hl : lv_has ls 3 [(2, .int (iI ((n + 1 : Nat) : Int))), (1, .int (iI ((lsN sv (n + 1) : Nat) : Int))), (0, .int (iI ((sv : Nat) : Int)))] := by
            have e9 : iI ((mvN sv n True 12 : Nat) : Int) = iI ((lsN sv (n + 1) : Nat) : Int) := congrArg (fun z : Nat => iI ((z : Nat) : Int)) (show _ = min (min (lsN sv n) (mvN sv n False 12)) (mvN sv n True 12) by omega)
            rw [← e9]; exact hl
          exact ih_4_1 (n + 1) (by omega)  _ (lv_sub hl [2, 1, 0] rfl)
      · skip
        refine lv_iload_n hx hb dX1_least_20 rfl (lv_at hl 0 rfl) ?_
        refine lv_iload_n hx hb dX1_least_21 rfl (lv_at hl 2 rfl) ?_
        refine ib_const hx hb dX1_least_22 ?_
        refine rd_call (va_runS (As := [.int (iI ((sv : Nat) : Int)), .int (iI ((n : Nat) : Int)), .int (iI 0)]) (rest := []) ⟨hx, hb, hml, hown, hts⟩ (mX1_moved_0 l sv n (by omega) (by omega)) (va_cwS 3 hts gX1_least_X1_moved rfl rfl rfl hdX1_moved ⟨Nat.le_of_ble_eq_true rfl, Nat.le_of_ble_eq_true rfl⟩) tt_pre rfl rfl hl.1 rfl (lv_room (Nat.le_of_ble_eq_true rfl)) dX1_least_23 ⟨Nat.le_of_ble_eq_true rfl, Nat.le_of_ble_eq_true rfl⟩) ?_
        have hv_23 := mvN_lt sv n False 12
        refine lv_goto (tgt := 30) hx hb dX1_least_26 (by decide) ?_
        refine lv_istore_n (lv' := [(1, .int (iI ((mvN sv n False 12 : Nat) : Int))), (0, .int (iI ((sv : Nat) : Int))), (2, .int (iI ((n : Nat) : Int)))]) hx hb dX1_least_30 rfl hl (by decide) rfl (fun ls hl => ?_)
        refine lv_iload_n hx hb dX1_least_31 rfl (lv_at hl 1 rfl) ?_
        refine lv_iload_n hx hb dX1_least_32 rfl (lv_at hl 2 rfl) ?_
        refine ib_const hx hb dX1_least_33 ?_
        refine rd_call (va_runS (As := [.int (iI ((sv : Nat) : Int)), .int (iI ((n : Nat) : Int)), .int (iI 1)]) (rest := []) ⟨hx, hb, hml, hown, hts⟩ (mX1_moved_1 l sv n (by omega) (by omega)) (va_cwS 3 hts gX1_least_X1_moved rfl rfl rfl hdX1_moved ⟨Nat.le_of_ble_eq_true rfl, Nat.le_of_ble_eq_true rfl⟩) tt_pre rfl rfl hl.1 rfl (lv_room (Nat.le_of_ble_eq_true rfl)) dX1_least_34 ⟨Nat.le_of_ble_eq_true rfl, Nat.le_of_ble_eq_true rfl⟩) ?_
        have hv_34 := mvN_lt sv n True 12
        refine lv_iload_n hx hb dX1_least_37 rfl (lv_at hl 0 rfl) ?_
        refine ib_icmp_ge (tgt := 50) hx hb dX1_least_38 (by decide) ⟨by omega, by omega⟩ ⟨by omega, by omega⟩ (fun c_38 => ?_) (fun c_38 => ?_)
        · skip
          refine lv_iload_n hx hb dX1_least_50 rfl (lv_at hl 0 rfl) ?_
          refine lv_istore_n (lv' := [(1, .int (iI ((mvN sv n False 12 : Nat) : Int))), (0, .int (iI ((sv : Nat) : Int))), (2, .int (iI ((n : Nat) : Int)))]) hx hb dX1_least_51 rfl hl (by decide) rfl (fun ls hl => ?_)
          refine lv_iinc (v := iI ((n + 1 : Nat) : Int)) (lv' := [(2, .int (iI ((n + 1 : Nat) : Int))), (1, .int (iI ((mvN sv n False 12 : Nat) : Int))), (0, .int (iI ((sv : Nat) : Int)))]) hx hb dX1_least_52 hl (k := 2) rfl (iI_inc (by omega)) (by decide) rfl (fun ls hl => ?_)
          refine lv_goto (tgt := 4) hx hb dX1_least_55 (by decide) ?_
          have hl : lv_has ls 3 [(2, .int (iI ((n + 1 : Nat) : Int))), (1, .int (iI ((lsN sv (n + 1) : Nat) : Int))), (0, .int (iI ((sv : Nat) : Int)))] := by
            have e9 : iI ((mvN sv n False 12 : Nat) : Int) = iI ((lsN sv (n + 1) : Nat) : Int) := congrArg (fun z : Nat => iI ((z : Nat) : Int)) (show _ = min (min (lsN sv n) (mvN sv n False 12)) (mvN sv n True 12) by omega)
            rw [← e9]; exact hl
          exact ih_4_1 (n + 1) (by omega)  _ (lv_sub hl [2, 1, 0] rfl)
        · skip
          refine lv_iload_n hx hb dX1_least_41 rfl (lv_at hl 1 rfl) ?_
          refine lv_iload_n hx hb dX1_least_42 rfl (lv_at hl 2 rfl) ?_
          refine ib_const hx hb dX1_least_43 ?_
          refine rd_call (va_runS (As := [.int (iI ((sv : Nat) : Int)), .int (iI ((n : Nat) : Int)), .int (iI 1)]) (rest := []) ⟨hx, hb, hml, hown, hts⟩ (mX1_moved_1 l sv n (by omega) (by omega)) (va_cwS 3 hts gX1_least_X1_moved rfl rfl rfl hdX1_moved ⟨Nat.le_of_ble_eq_true rfl, Nat.le_of_ble_eq_true rfl⟩) tt_pre rfl rfl hl.1 rfl (lv_room (Nat.le_of_ble_eq_true rfl)) dX1_least_44 ⟨Nat.le_of_ble_eq_true rfl, Nat.le_of_ble_eq_true rfl⟩) ?_
          have hv_44 := mvN_lt sv n True 12
          refine lv_goto (tgt := 51) hx hb dX1_least_47 (by decide) ?_
          refine lv_istore_n (lv' := [(1, .int (iI ((mvN sv n True 12 : Nat) : Int))), (0, .int (iI ((sv : Nat) : Int))), (2, .int (iI ((n : Nat) : Int)))]) hx hb dX1_least_51 rfl hl (by decide) rfl (fun ls hl => ?_)
          refine lv_iinc (v := iI ((n + 1 : Nat) : Int)) (lv' := [(2, .int (iI ((n + 1 : Nat) : Int))), (1, .int (iI ((mvN sv n True 12 : Nat) : Int))), (0, .int (iI ((sv : Nat) : Int)))]) hx hb dX1_least_52 hl (k := 2) rfl (iI_inc (by omega)) (by decide) rfl (fun ls hl => ?_)
          refine lv_goto (tgt := 4) hx hb dX1_least_55 (by decide) ?_
          have hl : lv_has ls 3 [(2, .int (iI ((n + 1 : Nat) : Int))), (1, .int (iI ((lsN sv (n + 1) : Nat) : Int))), (0, .int (iI ((sv : Nat) : Int)))] := by
            have e9 : iI ((mvN sv n True 12 : Nat) : Int) = iI ((lsN sv (n + 1) : Nat) : Int) := congrArg (fun z : Nat => iI ((z : Nat) : Int)) (show _ = min (min (lsN sv n) (mvN sv n False 12)) (mvN sv n True 12) by omega)
            rw [← e9]; exact hl
          exact ih_4_1 (n + 1) (by omega)  _ (lv_sub hl [2, 1, 0] rfl)
  exact lp_4_1 12 0 (by omega)  _ (lv_sub hl [2, 1, 0] rfl)

set_option maxHeartbeats 4000000 in
set_option maxRecDepth 100000 in
theorem mX1_at (l : Launch) (dC : Nat → ClassId) (dI : Nat → Nat → Nat) (cI : ClassId) (m0 t0 k0 p0 : Nat) (a0 a1 K q : Nat → Nat) (th : Int32) (w : Nat) (h0 : lt12 a0) (h1 : lt12 a1) (hw : w ≤ 12) (hq : ∀ i, i < w → q i < 12) (r i : Nat) (hr9 : r < 2) (hi : i < 12) : rd l yX1_at wsX1_at { frames := 0, cells := 0, slots := 0, locals := 0 } [.ref m0, .int (iI ((r : Nat) : Int)), .int (iI ((i : Nat) : Int))] (bW (dC, dI) [(m0, .inr (1, [.int th, .ref t0, .ref k0, .ref p0, .int (iI ((w : Nat) : Int))])), (t0, .inl (cI, 24, .inl (fun j => iI ((tb a0 a1 j : Nat) : Int)))), (k0, .inl (cI, 12, .inl (fun j => iI ((K j : Nat) : Int)))), (p0, .inl (cI, 12, .inl (fun j => iI ((q j : Nat) : Int))))] [(cI, .int)]) (some (.int (iI ((rw_ r a0 a1 i : Nat) : Int)))) := by
  refine Met.ofW (cc := cX1_at) (maxL := 3) (ret := (some .int)) (by decide) rfl ?_
  intro P0 e s m args below meth c s₁ B hml hv
  obtain ⟨rfl, hP, hK⟩ := hv
  have hx := B.exec
  have hb := B.bytes
  have hr := B.returns
  have hts := atoms_spec (ws := wsX1_at) B.pre
  have hown : s.vm.findClass RX1 = some m.cls := findClass_of_methodNamed B.named
  have hlocks := B.notSynchronized
  have hinX : ∀ w ∈ u_ws RX1 TX1 5, w ∈ wsX1_at := by decide +kernel
  have hl := lv_entry ([.ref m0, .int (iI ((r : Nat) : Int)), .int (iI ((i : Nat) : Int))]) (n := 3) (Nat.le_of_ble_eq_true rfl)
  rw [lg_entry_eq]
  generalize (lg_sl ([.ref m0, .int (iI ((r : Nat) : Int)), .int (iI ((i : Nat) : Int))]) ++ List.replicate (3 - (lg_sl ([.ref m0, .int (iI ((r : Nat) : Int)), .int (iI ((i : Nat) : Int))])).length) Slot.unset).toArray = ls at hl ⊢
  have hl : lv_has ls 3 [(0, .ref m0), (1, .int (iI ((r : Nat) : Int))), (2, .int (iI ((i : Nat) : Int)))] := hl
  refine lv_aload_n hx hb dX1_at_0 rfl (lv_at hl 0 rfl) ?_
  refine va_get (D := (dC, dI)) (ci := 1) (v := .ref t0) (C := RX1) (T := TX1) (N := 5) hx hb hts hinX hown hK hP 0 rfl rfl 1 (by decide) (hts (.fieldLink RX1 7 "ToneRowsModel" "tones" "[I") (by decide +kernel)) (fun _ h9 => h9) rfl dX1_at_1 ?_
  refine ib_bi hx hb dX1_at_4 (by decide) ?_
  refine lv_iload_n hx hb dX1_at_6 rfl (lv_at hl 1 rfl) ?_
  refine ib_mul (z := ((12 * r : Nat) : Int)) hx hb dX1_at_7 (by first | omega | rfl | (push_cast; rfl)) ?_
  refine lv_iload_n hx hb dX1_at_8 rfl (lv_at hl 2 rfl) ?_
  refine ib_add (z := (((12 * r) + i : Nat) : Int)) hx hb dX1_at_9 (by omega) ?_
  refine ib_ald (f := fun j => iI ((tb a0 a1 j : Nat) : Int)) (i := (12 * r) + i) (v := iI ((tb a0 a1 ((12 * r) + i) : Nat) : Int)) hx hb hK hP 1 0 rfl rfl (by first | rfl | omega) (by omega) (by omega) rfl dX1_at_10 ?_
  refine st_i (y := iI ((rw_ r a0 a1 i : Nat) : Int)) (congrArg (fun z : Nat => iI ((z : Nat) : Int)) (tb_rw a0 a1 (by omega) (by omega))) ?_
  exact W.iret hx hb hr (fun t ht _ => ⟨rfl, ht⟩) (fun _ h => nomatch h) dX1_at_11

set_option maxHeartbeats 4000000 in
set_option maxRecDepth 100000 in
theorem mX1_formAt (l : Launch) (dC : Nat → ClassId) (dI : Nat → Nat → Nat) (cI : ClassId) (m0 t0 k0 p0 : Nat) (a0 a1 K q : Nat → Nat) (th : Int32) (w : Nat) (h0 : lt12 a0) (h1 : lt12 a1) (hw : w ≤ 12) (hq : ∀ i, i < w → q i < 12) (r code i : Nat) (hr9 : r < 2) (hc : code < 48) (hi : i < 12) : rd l yX1_formAt wsX1_formAt { frames := 1, cells := 0, slots := 0, locals := 22 } [.ref m0, .int (iI ((r : Nat) : Int)), .int (iI ((code : Nat) : Int)), .int (iI ((i : Nat) : Int))] (bW (dC, dI) [(m0, .inr (1, [.int th, .ref t0, .ref k0, .ref p0, .int (iI ((w : Nat) : Int))])), (t0, .inl (cI, 24, .inl (fun j => iI ((tb a0 a1 j : Nat) : Int)))), (k0, .inl (cI, 12, .inl (fun j => iI ((K j : Nat) : Int)))), (p0, .inl (cI, 12, .inl (fun j => iI ((q j : Nat) : Int))))] [(cI, .int)]) (some (.int (iI ((fm (rw_ r a0 a1) code i : Nat) : Int)))) := by
  refine Met.ofW (cc := cX1_formAt) (maxL := 7) (ret := (some .int)) (by decide) rfl ?_
  intro P0 e s m args below meth c s₁ B hml hv
  obtain ⟨rfl, hP, hK⟩ := hv
  have hx := B.exec
  have hb := B.bytes
  have hr := B.returns
  have hts := atoms_spec (ws := wsX1_formAt) B.pre
  have hown : s.vm.findClass RX1 = some m.cls := findClass_of_methodNamed B.named
  have hlocks := B.notSynchronized
  have hinX : ∀ w ∈ u_ws RX1 TX1 5, w ∈ wsX1_formAt := by decide +kernel
  have hl := lv_entry ([.ref m0, .int (iI ((r : Nat) : Int)), .int (iI ((code : Nat) : Int)), .int (iI ((i : Nat) : Int))]) (n := 7) (Nat.le_of_ble_eq_true rfl)
  rw [lg_entry_eq]
  generalize (lg_sl ([.ref m0, .int (iI ((r : Nat) : Int)), .int (iI ((code : Nat) : Int)), .int (iI ((i : Nat) : Int))]) ++ List.replicate (7 - (lg_sl ([.ref m0, .int (iI ((r : Nat) : Int)), .int (iI ((code : Nat) : Int)), .int (iI ((i : Nat) : Int))])).length) Slot.unset).toArray = ls at hl ⊢
  have hl : lv_has ls 7 [(0, .ref m0), (1, .int (iI ((r : Nat) : Int))), (2, .int (iI ((code : Nat) : Int))), (3, .int (iI ((i : Nat) : Int)))] := hl
  refine lv_iload_n hx hb dX1_formAt_0 rfl (lv_at hl 2 rfl) ?_
  refine ib_bi hx hb dX1_formAt_1 (by decide) ?_
  refine ib_div (z := ((code / 12 : Nat) : Int)) hx hb dX1_formAt_3 (by omega) (by omega) (by omega) (by omega) (by first | omega | rfl) ?_
  refine lv_istore (lv' := [(4, .int (iI ((code / 12 : Nat) : Int))), (0, .ref m0), (1, .int (iI ((r : Nat) : Int))), (2, .int (iI ((code : Nat) : Int))), (3, .int (iI ((i : Nat) : Int)))]) hx hb dX1_formAt_4 hl (by decide) rfl (fun ls hl => ?_)
  refine lv_iload hx hb dX1_formAt_6 (lv_at hl 0 rfl) ?_
  refine ib_const hx hb dX1_formAt_8 ?_
  refine ib_icmp_lt (tgt := 19) hx hb dX1_formAt_9 (by decide) ⟨by omega, by omega⟩ ⟨by omega, by omega⟩ (fun c_9 => ?_) (fun c_9 => ?_)
  · skip
    refine lv_iload_n hx hb dX1_formAt_19 rfl (lv_at hl 4 rfl) ?_
    refine lv_istore (lv' := [(5, .int (iI ((i : Nat) : Int))), (4, .int (iI ((code / 12 : Nat) : Int))), (0, .ref m0), (1, .int (iI ((r : Nat) : Int))), (2, .int (iI ((code : Nat) : Int))), (3, .int (iI ((i : Nat) : Int)))]) hx hb dX1_formAt_20 hl (by decide) rfl (fun ls hl => ?_)
    refine lv_aload_n hx hb dX1_formAt_22 rfl (lv_at hl 2 rfl) ?_
    refine lv_iload_n hx hb dX1_formAt_23 rfl (lv_at hl 3 rfl) ?_
    refine lv_iload hx hb dX1_formAt_24 (lv_at hl 0 rfl) ?_
    refine rd_call (va_runV (As := [.int (iI ((r : Nat) : Int)), .int (iI ((i : Nat) : Int))]) (rest := []) ⟨hx, hb, hml, hown, hts⟩ (mX1_at l dC dI cI m0 t0 k0 p0 a0 a1 K q th w h0 h1 hw hq r i (by omega) (by omega)) (cwV 2 hts gX1_formAt_X1_at rfl rfl rfl hvX1_at ⟨Nat.le_of_ble_eq_true rfl, Nat.le_of_ble_eq_true rfl⟩) (bW_pre (ci := 1) (q0 := 0) hK hP rfl rfl rfl) rfl rfl hl.1 rfl (lv_room (Nat.le_of_ble_eq_true rfl)) dX1_formAt_26 ⟨Nat.le_of_ble_eq_true rfl, Nat.le_of_ble_eq_true rfl⟩) ?_
    have hr_26 := rw_lt h0 h1 r (i := i) (by omega)
    refine lv_aload_n hx hb dX1_formAt_29 rfl (lv_at hl 2 rfl) ?_
    refine lv_iload_n hx hb dX1_formAt_30 rfl (lv_at hl 3 rfl) ?_
    refine ib_const hx hb dX1_formAt_31 ?_
    refine rd_call (va_runV (As := [.int (iI ((r : Nat) : Int)), .int (iI 0)]) (rest := [.int (iI ((rw_ r a0 a1 i : Nat) : Int))]) ⟨hx, hb, hml, hown, hts⟩ (mX1_at l dC dI cI m0 t0 k0 p0 a0 a1 K q th w h0 h1 hw hq r 0 (by omega) (by omega)) (cwV 2 hts gX1_formAt_X1_at rfl rfl rfl hvX1_at ⟨Nat.le_of_ble_eq_true rfl, Nat.le_of_ble_eq_true rfl⟩) (bW_pre (ci := 1) (q0 := 0) hK hP rfl rfl rfl) rfl rfl hl.1 rfl (lv_room (Nat.le_of_ble_eq_true rfl)) dX1_formAt_32 ⟨Nat.le_of_ble_eq_true rfl, Nat.le_of_ble_eq_true rfl⟩) ?_
    have hr_32 := rw_lt h0 h1 r (i := 0) (by omega)
    refine ib_sub (z := ((rw_ r a0 a1 i : Nat) : Int) - ((rw_ r a0 a1 0 : Nat) : Int)) hx hb dX1_formAt_35 (by omega) ?_
    refine lv_istore (lv' := [(6, .int (iI (((rw_ r a0 a1 i : Nat) : Int) - ((rw_ r a0 a1 0 : Nat) : Int)))), (5, .int (iI ((i : Nat) : Int))), (4, .int (iI ((code / 12 : Nat) : Int))), (0, .ref m0), (1, .int (iI ((r : Nat) : Int))), (2, .int (iI ((code : Nat) : Int))), (3, .int (iI ((i : Nat) : Int)))]) hx hb dX1_formAt_36 hl (by decide) rfl (fun ls hl => ?_)
    refine lv_iload hx hb dX1_formAt_38 (lv_at hl 2 rfl) ?_
    refine ib_const hx hb dX1_formAt_40 ?_
    refine ib_rem (z := (((code / 12) % 2 : Nat) : Int)) hx hb dX1_formAt_41 (by omega) (by omega) (by omega) (by omega) (by first | omega | rfl) ?_
    refine ib_if_ne (tgt := 50) hx hb dX1_formAt_42 (by decide) ⟨by omega, by omega⟩ (fun c_42 => ?_) (fun c_42 => ?_)
    · skip
      refine lv_iload hx hb dX1_formAt_50 (lv_at hl 0 rfl) ?_
      refine ib_neg (z := -(((rw_ r a0 a1 i : Nat) : Int) - ((rw_ r a0 a1 0 : Nat) : Int))) hx hb dX1_formAt_52 rfl ?_
      refine lv_iload_n hx hb dX1_formAt_53 rfl (lv_at hl 5 rfl) ?_
      refine ib_bi hx hb dX1_formAt_54 (by decide) ?_
      refine ib_rem (z := ((code % 12 : Nat) : Int)) hx hb dX1_formAt_56 (by omega) (by omega) (by omega) (by omega) (by first | omega | rfl) ?_
      refine ib_add (z := (-(((rw_ r a0 a1 i : Nat) : Int) - ((rw_ r a0 a1 0 : Nat) : Int))) + ((code % 12 : Nat) : Int)) hx hb dX1_formAt_57 (by omega) ?_
      refine rd_call (va_runS (As := [.int (iI ((-(((rw_ r a0 a1 i : Nat) : Int) - ((rw_ r a0 a1 0 : Nat) : Int))) + ((code % 12 : Nat) : Int)))]) (rest := []) ⟨hx, hb, hml, hown, hts⟩ (mX1_modulo l ((-(((rw_ r a0 a1 i : Nat) : Int) - ((rw_ r a0 a1 0 : Nat) : Int))) + ((code % 12 : Nat) : Int)) (by omega) (by omega)) (va_cwS 1 hts gX1_formAt_X1_modulo rfl rfl rfl hdX1_modulo ⟨Nat.le_of_ble_eq_true rfl, Nat.le_of_ble_eq_true rfl⟩) tt_pre rfl rfl hl.1 rfl (lv_room (Nat.le_of_ble_eq_true rfl)) dX1_formAt_58 ⟨Nat.le_of_ble_eq_true rfl, Nat.le_of_ble_eq_true rfl⟩) ?_
      have hm_58 := md_lt ((-(((rw_ r a0 a1 i : Nat) : Int) - ((rw_ r a0 a1 0 : Nat) : Int))) + ((code % 12 : Nat) : Int))
      refine st_i (y := iI ((fm (rw_ r a0 a1) code i : Nat) : Int)) (congrArg (fun z : Int => iI ((md z : Nat) : Int)) (by rw [fmz, show fmf code i = i from if_neg (by omega), if_neg (show ¬ code / 12 % 2 = 0 by omega)])) ?_
      exact W.iret hx hb hr (fun t ht _ => ⟨rfl, ht⟩) (fun _ h => nomatch h) dX1_formAt_61
    · skip
      refine lv_iload hx hb dX1_formAt_45 (lv_at hl 0 rfl) ?_
      refine lv_goto (tgt := 53) hx hb dX1_formAt_47 (by decide) ?_
      refine lv_iload_n hx hb dX1_formAt_53 rfl (lv_at hl 5 rfl) ?_
      refine ib_bi hx hb dX1_formAt_54 (by decide) ?_
      refine ib_rem (z := ((code % 12 : Nat) : Int)) hx hb dX1_formAt_56 (by omega) (by omega) (by omega) (by omega) (by first | omega | rfl) ?_
      refine ib_add (z := (((rw_ r a0 a1 i : Nat) : Int) - ((rw_ r a0 a1 0 : Nat) : Int)) + ((code % 12 : Nat) : Int)) hx hb dX1_formAt_57 (by omega) ?_
      refine rd_call (va_runS (As := [.int (iI ((((rw_ r a0 a1 i : Nat) : Int) - ((rw_ r a0 a1 0 : Nat) : Int)) + ((code % 12 : Nat) : Int)))]) (rest := []) ⟨hx, hb, hml, hown, hts⟩ (mX1_modulo l ((((rw_ r a0 a1 i : Nat) : Int) - ((rw_ r a0 a1 0 : Nat) : Int)) + ((code % 12 : Nat) : Int)) (by omega) (by omega)) (va_cwS 1 hts gX1_formAt_X1_modulo rfl rfl rfl hdX1_modulo ⟨Nat.le_of_ble_eq_true rfl, Nat.le_of_ble_eq_true rfl⟩) tt_pre rfl rfl hl.1 rfl (lv_room (Nat.le_of_ble_eq_true rfl)) dX1_formAt_58 ⟨Nat.le_of_ble_eq_true rfl, Nat.le_of_ble_eq_true rfl⟩) ?_
      have hm_58 := md_lt ((((rw_ r a0 a1 i : Nat) : Int) - ((rw_ r a0 a1 0 : Nat) : Int)) + ((code % 12 : Nat) : Int))
      refine st_i (y := iI ((fm (rw_ r a0 a1) code i : Nat) : Int)) (congrArg (fun z : Int => iI ((md z : Nat) : Int)) (by rw [fmz, show fmf code i = i from if_neg (by omega), if_pos (show code / 12 % 2 = 0 by omega)])) ?_
      exact W.iret hx hb hr (fun t ht _ => ⟨rfl, ht⟩) (fun _ h => nomatch h) dX1_formAt_61
  · skip
    refine ib_bi hx hb dX1_formAt_12 (by decide) ?_
    refine lv_iload_n hx hb dX1_formAt_14 rfl (lv_at hl 4 rfl) ?_
    refine ib_sub (z := ((11 - i : Nat) : Int)) hx hb dX1_formAt_15 (by omega) ?_
    refine lv_goto (tgt := 20) hx hb dX1_formAt_16 (by decide) ?_
    refine lv_istore (lv' := [(5, .int (iI ((11 - i : Nat) : Int))), (4, .int (iI ((code / 12 : Nat) : Int))), (0, .ref m0), (1, .int (iI ((r : Nat) : Int))), (2, .int (iI ((code : Nat) : Int))), (3, .int (iI ((i : Nat) : Int)))]) hx hb dX1_formAt_20 hl (by decide) rfl (fun ls hl => ?_)
    refine lv_aload_n hx hb dX1_formAt_22 rfl (lv_at hl 2 rfl) ?_
    refine lv_iload_n hx hb dX1_formAt_23 rfl (lv_at hl 3 rfl) ?_
    refine lv_iload hx hb dX1_formAt_24 (lv_at hl 0 rfl) ?_
    refine rd_call (va_runV (As := [.int (iI ((r : Nat) : Int)), .int (iI ((11 - i : Nat) : Int))]) (rest := []) ⟨hx, hb, hml, hown, hts⟩ (mX1_at l dC dI cI m0 t0 k0 p0 a0 a1 K q th w h0 h1 hw hq r (11 - i) (by omega) (by omega)) (cwV 2 hts gX1_formAt_X1_at rfl rfl rfl hvX1_at ⟨Nat.le_of_ble_eq_true rfl, Nat.le_of_ble_eq_true rfl⟩) (bW_pre (ci := 1) (q0 := 0) hK hP rfl rfl rfl) rfl rfl hl.1 rfl (lv_room (Nat.le_of_ble_eq_true rfl)) dX1_formAt_26 ⟨Nat.le_of_ble_eq_true rfl, Nat.le_of_ble_eq_true rfl⟩) ?_
    have hr_26 := rw_lt h0 h1 r (i := 11 - i) (by omega)
    refine lv_aload_n hx hb dX1_formAt_29 rfl (lv_at hl 2 rfl) ?_
    refine lv_iload_n hx hb dX1_formAt_30 rfl (lv_at hl 3 rfl) ?_
    refine ib_const hx hb dX1_formAt_31 ?_
    refine rd_call (va_runV (As := [.int (iI ((r : Nat) : Int)), .int (iI 0)]) (rest := [.int (iI ((rw_ r a0 a1 (11 - i) : Nat) : Int))]) ⟨hx, hb, hml, hown, hts⟩ (mX1_at l dC dI cI m0 t0 k0 p0 a0 a1 K q th w h0 h1 hw hq r 0 (by omega) (by omega)) (cwV 2 hts gX1_formAt_X1_at rfl rfl rfl hvX1_at ⟨Nat.le_of_ble_eq_true rfl, Nat.le_of_ble_eq_true rfl⟩) (bW_pre (ci := 1) (q0 := 0) hK hP rfl rfl rfl) rfl rfl hl.1 rfl (lv_room (Nat.le_of_ble_eq_true rfl)) dX1_formAt_32 ⟨Nat.le_of_ble_eq_true rfl, Nat.le_of_ble_eq_true rfl⟩) ?_
    have hr_32 := rw_lt h0 h1 r (i := 0) (by omega)
    refine ib_sub (z := ((rw_ r a0 a1 (11 - i) : Nat) : Int) - ((rw_ r a0 a1 0 : Nat) : Int)) hx hb dX1_formAt_35 (by omega) ?_
    refine lv_istore (lv' := [(6, .int (iI (((rw_ r a0 a1 (11 - i) : Nat) : Int) - ((rw_ r a0 a1 0 : Nat) : Int)))), (5, .int (iI ((11 - i : Nat) : Int))), (4, .int (iI ((code / 12 : Nat) : Int))), (0, .ref m0), (1, .int (iI ((r : Nat) : Int))), (2, .int (iI ((code : Nat) : Int))), (3, .int (iI ((i : Nat) : Int)))]) hx hb dX1_formAt_36 hl (by decide) rfl (fun ls hl => ?_)
    refine lv_iload hx hb dX1_formAt_38 (lv_at hl 2 rfl) ?_
    refine ib_const hx hb dX1_formAt_40 ?_
    refine ib_rem (z := (((code / 12) % 2 : Nat) : Int)) hx hb dX1_formAt_41 (by omega) (by omega) (by omega) (by omega) (by first | omega | rfl) ?_
    refine ib_if_ne (tgt := 50) hx hb dX1_formAt_42 (by decide) ⟨by omega, by omega⟩ (fun c_42 => ?_) (fun c_42 => ?_)
    · skip
      refine lv_iload hx hb dX1_formAt_50 (lv_at hl 0 rfl) ?_
      refine ib_neg (z := -(((rw_ r a0 a1 (11 - i) : Nat) : Int) - ((rw_ r a0 a1 0 : Nat) : Int))) hx hb dX1_formAt_52 rfl ?_
      refine lv_iload_n hx hb dX1_formAt_53 rfl (lv_at hl 5 rfl) ?_
      refine ib_bi hx hb dX1_formAt_54 (by decide) ?_
      refine ib_rem (z := ((code % 12 : Nat) : Int)) hx hb dX1_formAt_56 (by omega) (by omega) (by omega) (by omega) (by first | omega | rfl) ?_
      refine ib_add (z := (-(((rw_ r a0 a1 (11 - i) : Nat) : Int) - ((rw_ r a0 a1 0 : Nat) : Int))) + ((code % 12 : Nat) : Int)) hx hb dX1_formAt_57 (by omega) ?_
      refine rd_call (va_runS (As := [.int (iI ((-(((rw_ r a0 a1 (11 - i) : Nat) : Int) - ((rw_ r a0 a1 0 : Nat) : Int))) + ((code % 12 : Nat) : Int)))]) (rest := []) ⟨hx, hb, hml, hown, hts⟩ (mX1_modulo l ((-(((rw_ r a0 a1 (11 - i) : Nat) : Int) - ((rw_ r a0 a1 0 : Nat) : Int))) + ((code % 12 : Nat) : Int)) (by omega) (by omega)) (va_cwS 1 hts gX1_formAt_X1_modulo rfl rfl rfl hdX1_modulo ⟨Nat.le_of_ble_eq_true rfl, Nat.le_of_ble_eq_true rfl⟩) tt_pre rfl rfl hl.1 rfl (lv_room (Nat.le_of_ble_eq_true rfl)) dX1_formAt_58 ⟨Nat.le_of_ble_eq_true rfl, Nat.le_of_ble_eq_true rfl⟩) ?_
      have hm_58 := md_lt ((-(((rw_ r a0 a1 (11 - i) : Nat) : Int) - ((rw_ r a0 a1 0 : Nat) : Int))) + ((code % 12 : Nat) : Int))
      refine st_i (y := iI ((fm (rw_ r a0 a1) code i : Nat) : Int)) (congrArg (fun z : Int => iI ((md z : Nat) : Int)) (by rw [fmz, show fmf code i = 11 - i from if_pos (by omega), if_neg (show ¬ code / 12 % 2 = 0 by omega)])) ?_
      exact W.iret hx hb hr (fun t ht _ => ⟨rfl, ht⟩) (fun _ h => nomatch h) dX1_formAt_61
    · skip
      refine lv_iload hx hb dX1_formAt_45 (lv_at hl 0 rfl) ?_
      refine lv_goto (tgt := 53) hx hb dX1_formAt_47 (by decide) ?_
      refine lv_iload_n hx hb dX1_formAt_53 rfl (lv_at hl 5 rfl) ?_
      refine ib_bi hx hb dX1_formAt_54 (by decide) ?_
      refine ib_rem (z := ((code % 12 : Nat) : Int)) hx hb dX1_formAt_56 (by omega) (by omega) (by omega) (by omega) (by first | omega | rfl) ?_
      refine ib_add (z := (((rw_ r a0 a1 (11 - i) : Nat) : Int) - ((rw_ r a0 a1 0 : Nat) : Int)) + ((code % 12 : Nat) : Int)) hx hb dX1_formAt_57 (by omega) ?_
      refine rd_call (va_runS (As := [.int (iI ((((rw_ r a0 a1 (11 - i) : Nat) : Int) - ((rw_ r a0 a1 0 : Nat) : Int)) + ((code % 12 : Nat) : Int)))]) (rest := []) ⟨hx, hb, hml, hown, hts⟩ (mX1_modulo l ((((rw_ r a0 a1 (11 - i) : Nat) : Int) - ((rw_ r a0 a1 0 : Nat) : Int)) + ((code % 12 : Nat) : Int)) (by omega) (by omega)) (va_cwS 1 hts gX1_formAt_X1_modulo rfl rfl rfl hdX1_modulo ⟨Nat.le_of_ble_eq_true rfl, Nat.le_of_ble_eq_true rfl⟩) tt_pre rfl rfl hl.1 rfl (lv_room (Nat.le_of_ble_eq_true rfl)) dX1_formAt_58 ⟨Nat.le_of_ble_eq_true rfl, Nat.le_of_ble_eq_true rfl⟩) ?_
      have hm_58 := md_lt ((((rw_ r a0 a1 (11 - i) : Nat) : Int) - ((rw_ r a0 a1 0 : Nat) : Int)) + ((code % 12 : Nat) : Int))
      refine st_i (y := iI ((fm (rw_ r a0 a1) code i : Nat) : Int)) (congrArg (fun z : Int => iI ((md z : Nat) : Int)) (by rw [fmz, show fmf code i = 11 - i from if_pos (by omega), if_pos (show code / 12 % 2 = 0 by omega)])) ?_
      exact W.iret hx hb hr (fun t ht _ => ⟨rfl, ht⟩) (fun _ h => nomatch h) dX1_formAt_61

set_option maxHeartbeats 4000000 in
set_option maxRecDepth 100000 in
theorem mX1_step (l : Launch) (dC : Nat → ClassId) (dI : Nat → Nat → Nat) (cI : ClassId) (m0 t0 k0 p0 : Nat) (a0 a1 K q : Nat → Nat) (th : Int32) (w : Nat) (h0 : lt12 a0) (h1 : lt12 a1) (hw : w ≤ 12) (hq : ∀ i, i < w → q i < 12) (r i : Nat) (hr9 : r < 2) (hi : i < 11) : rd l yX1_step wsX1_step { frames := 1, cells := 0, slots := 0, locals := 22 } [.ref m0, .int (iI ((r : Nat) : Int)), .int (iI ((i : Nat) : Int))] (bW (dC, dI) [(m0, .inr (1, [.int th, .ref t0, .ref k0, .ref p0, .int (iI ((w : Nat) : Int))])), (t0, .inl (cI, 24, .inl (fun j => iI ((tb a0 a1 j : Nat) : Int)))), (k0, .inl (cI, 12, .inl (fun j => iI ((K j : Nat) : Int)))), (p0, .inl (cI, 12, .inl (fun j => iI ((q j : Nat) : Int))))] [(cI, .int)]) (some (.int (iI ((md (((rw_ r a0 a1 (i + 1) : Nat) : Int) - ((rw_ r a0 a1 i : Nat) : Int)) : Nat) : Int)))) := by
  refine Met.ofW (cc := cX1_step) (maxL := 3) (ret := (some .int)) (by decide) rfl ?_
  intro P0 e s m args below meth c s₁ B hml hv
  obtain ⟨rfl, hP, hK⟩ := hv
  have hx := B.exec
  have hb := B.bytes
  have hr := B.returns
  have hts := atoms_spec (ws := wsX1_step) B.pre
  have hown : s.vm.findClass RX1 = some m.cls := findClass_of_methodNamed B.named
  have hlocks := B.notSynchronized
  have hinX : ∀ w ∈ u_ws RX1 TX1 5, w ∈ wsX1_step := by decide +kernel
  have hl := lv_entry ([.ref m0, .int (iI ((r : Nat) : Int)), .int (iI ((i : Nat) : Int))]) (n := 3) (Nat.le_of_ble_eq_true rfl)
  rw [lg_entry_eq]
  generalize (lg_sl ([.ref m0, .int (iI ((r : Nat) : Int)), .int (iI ((i : Nat) : Int))]) ++ List.replicate (3 - (lg_sl ([.ref m0, .int (iI ((r : Nat) : Int)), .int (iI ((i : Nat) : Int))])).length) Slot.unset).toArray = ls at hl ⊢
  have hl : lv_has ls 3 [(0, .ref m0), (1, .int (iI ((r : Nat) : Int))), (2, .int (iI ((i : Nat) : Int)))] := hl
  refine lv_aload_n hx hb dX1_step_0 rfl (lv_at hl 0 rfl) ?_
  refine lv_iload_n hx hb dX1_step_1 rfl (lv_at hl 1 rfl) ?_
  refine lv_iload_n hx hb dX1_step_2 rfl (lv_at hl 2 rfl) ?_
  refine ib_const hx hb dX1_step_3 ?_
  refine ib_add (z := ((i + 1 : Nat) : Int)) hx hb dX1_step_4 (by omega) ?_
  refine rd_call (va_runV (As := [.int (iI ((r : Nat) : Int)), .int (iI ((i + 1 : Nat) : Int))]) (rest := []) ⟨hx, hb, hml, hown, hts⟩ (mX1_at l dC dI cI m0 t0 k0 p0 a0 a1 K q th w h0 h1 hw hq r (i + 1) (by omega) (by omega)) (cwV 2 hts gX1_step_X1_at rfl rfl rfl hvX1_at ⟨Nat.le_of_ble_eq_true rfl, Nat.le_of_ble_eq_true rfl⟩) (bW_pre (ci := 1) (q0 := 0) hK hP rfl rfl rfl) rfl rfl hl.1 rfl (lv_room (Nat.le_of_ble_eq_true rfl)) dX1_step_5 ⟨Nat.le_of_ble_eq_true rfl, Nat.le_of_ble_eq_true rfl⟩) ?_
  have hr_5 := rw_lt h0 h1 r (i := i + 1) (by omega)
  refine lv_aload_n hx hb dX1_step_8 rfl (lv_at hl 0 rfl) ?_
  refine lv_iload_n hx hb dX1_step_9 rfl (lv_at hl 1 rfl) ?_
  refine lv_iload_n hx hb dX1_step_10 rfl (lv_at hl 2 rfl) ?_
  refine rd_call (va_runV (As := [.int (iI ((r : Nat) : Int)), .int (iI ((i : Nat) : Int))]) (rest := [.int (iI ((rw_ r a0 a1 (i + 1) : Nat) : Int))]) ⟨hx, hb, hml, hown, hts⟩ (mX1_at l dC dI cI m0 t0 k0 p0 a0 a1 K q th w h0 h1 hw hq r i (by omega) (by omega)) (cwV 2 hts gX1_step_X1_at rfl rfl rfl hvX1_at ⟨Nat.le_of_ble_eq_true rfl, Nat.le_of_ble_eq_true rfl⟩) (bW_pre (ci := 1) (q0 := 0) hK hP rfl rfl rfl) rfl rfl hl.1 rfl (lv_room (Nat.le_of_ble_eq_true rfl)) dX1_step_11 ⟨Nat.le_of_ble_eq_true rfl, Nat.le_of_ble_eq_true rfl⟩) ?_
  have hr_11 := rw_lt h0 h1 r (i := i) (by omega)
  refine ib_sub (z := ((rw_ r a0 a1 (i + 1) : Nat) : Int) - ((rw_ r a0 a1 i : Nat) : Int)) hx hb dX1_step_14 (by omega) ?_
  refine rd_call (va_runS (As := [.int (iI (((rw_ r a0 a1 (i + 1) : Nat) : Int) - ((rw_ r a0 a1 i : Nat) : Int)))]) (rest := []) ⟨hx, hb, hml, hown, hts⟩ (mX1_modulo l (((rw_ r a0 a1 (i + 1) : Nat) : Int) - ((rw_ r a0 a1 i : Nat) : Int)) (by omega) (by omega)) (va_cwS 1 hts gX1_step_X1_modulo rfl rfl rfl hdX1_modulo ⟨Nat.le_of_ble_eq_true rfl, Nat.le_of_ble_eq_true rfl⟩) tt_pre rfl rfl hl.1 rfl (lv_room (Nat.le_of_ble_eq_true rfl)) dX1_step_15 ⟨Nat.le_of_ble_eq_true rfl, Nat.le_of_ble_eq_true rfl⟩) ?_
  have hm_15 := md_lt (((rw_ r a0 a1 (i + 1) : Nat) : Int) - ((rw_ r a0 a1 i : Nat) : Int))
  exact W.iret hx hb hr (fun t ht _ => ⟨rfl, ht⟩) (fun _ h => nomatch h) dX1_step_18

set_option maxHeartbeats 4000000 in
set_option maxRecDepth 100000 in
theorem mX1_itself (l : Launch) (dC : Nat → ClassId) (dI : Nat → Nat → Nat) (cI : ClassId) (m0 t0 k0 p0 : Nat) (a0 a1 K q : Nat → Nat) (th : Int32) (w : Nat) (h0 : lt12 a0) (h1 : lt12 a1) (hw : w ≤ 12) (hq : ∀ i, i < w → q i < 12) (r : Nat) (hr9 : r < 2) : rd l yX1_itself wsX1_itself { frames := 1, cells := 0, slots := 0, locals := 22 } [.ref m0, .int (iI ((r : Nat) : Int))] (bW (dC, dI) [(m0, .inr (1, [.int th, .ref t0, .ref k0, .ref p0, .int (iI ((w : Nat) : Int))])), (t0, .inl (cI, 24, .inl (fun j => iI ((tb a0 a1 j : Nat) : Int)))), (k0, .inl (cI, 12, .inl (fun j => iI ((K j : Nat) : Int)))), (p0, .inl (cI, 12, .inl (fun j => iI ((q j : Nat) : Int))))] [(cI, .int)]) (some (.int (iI ((rw_ r a0 a1 0 : Nat) : Int)))) := by
  refine Met.ofW (cc := cX1_itself) (maxL := 2) (ret := (some .int)) (by decide) rfl ?_
  intro P0 e s m args below meth c s₁ B hml hv
  obtain ⟨rfl, hP, hK⟩ := hv
  have hx := B.exec
  have hb := B.bytes
  have hr := B.returns
  have hts := atoms_spec (ws := wsX1_itself) B.pre
  have hown : s.vm.findClass RX1 = some m.cls := findClass_of_methodNamed B.named
  have hlocks := B.notSynchronized
  have hinX : ∀ w ∈ u_ws RX1 TX1 5, w ∈ wsX1_itself := by decide +kernel
  have hl := lv_entry ([.ref m0, .int (iI ((r : Nat) : Int))]) (n := 2) (Nat.le_of_ble_eq_true rfl)
  rw [lg_entry_eq]
  generalize (lg_sl ([.ref m0, .int (iI ((r : Nat) : Int))]) ++ List.replicate (2 - (lg_sl ([.ref m0, .int (iI ((r : Nat) : Int))])).length) Slot.unset).toArray = ls at hl ⊢
  have hl : lv_has ls 2 [(0, .ref m0), (1, .int (iI ((r : Nat) : Int)))] := hl
  refine ib_const hx hb dX1_itself_0 ?_
  refine lv_aload_n hx hb dX1_itself_1 rfl (lv_at hl 0 rfl) ?_
  refine lv_iload_n hx hb dX1_itself_2 rfl (lv_at hl 1 rfl) ?_
  refine ib_const hx hb dX1_itself_3 ?_
  refine rd_call (va_runV (As := [.int (iI ((r : Nat) : Int)), .int (iI 0)]) (rest := [.int (iI 0)]) ⟨hx, hb, hml, hown, hts⟩ (mX1_at l dC dI cI m0 t0 k0 p0 a0 a1 K q th w h0 h1 hw hq r 0 (by omega) (by omega)) (cwV 2 hts gX1_itself_X1_at rfl rfl rfl hvX1_at ⟨Nat.le_of_ble_eq_true rfl, Nat.le_of_ble_eq_true rfl⟩) (bW_pre (ci := 1) (q0 := 0) hK hP rfl rfl rfl) rfl rfl hl.1 rfl (lv_room (Nat.le_of_ble_eq_true rfl)) dX1_itself_4 ⟨Nat.le_of_ble_eq_true rfl, Nat.le_of_ble_eq_true rfl⟩) ?_
  have hr_4 := rw_lt h0 h1 r (i := 0) (by omega)
  refine rd_call (va_runS (As := [.int (iI 0), .int (iI ((rw_ r a0 a1 0 : Nat) : Int))]) (rest := []) ⟨hx, hb, hml, hown, hts⟩ (mX1_codeOf l 0 (rw_ r a0 a1 0)) (va_cwS 2 hts gX1_itself_X1_codeOf rfl rfl rfl hdX1_codeOf ⟨Nat.le_of_ble_eq_true rfl, Nat.le_of_ble_eq_true rfl⟩) tt_pre rfl rfl hl.1 rfl (lv_room (Nat.le_of_ble_eq_true rfl)) dX1_itself_7 ⟨Nat.le_of_ble_eq_true rfl, Nat.le_of_ble_eq_true rfl⟩) ?_
  refine st_i (y := iI ((rw_ r a0 a1 0 : Nat) : Int)) (congrArg iI (by omega)) ?_
  exact W.iret hx hb hr (fun t ht _ => ⟨rfl, ht⟩) (fun _ h => nomatch h) dX1_itself_10

set_option maxHeartbeats 4000000 in
set_option maxRecDepth 100000 in
theorem mX1_areSame (l : Launch) (dC : Nat → ClassId) (dI : Nat → Nat → Nat) (cI : ClassId) (m0 t0 k0 p0 : Nat) (a0 a1 K q : Nat → Nat) (th : Int32) (w : Nat) (h0 : lt12 a0) (h1 : lt12 a1) (hw : w ≤ 12) (hq : ∀ i, i < w → q i < 12) (r c1 c2 : Nat) (hr9 : r < 2) (hc1 : c1 < 48) (hc2 : c2 < 48) : rd l yX1_areSame wsX1_areSame { frames := 2, cells := 0, slots := 0, locals := 48 } [.ref m0, .int (iI ((r : Nat) : Int)), .int (iI ((c1 : Nat) : Int)), .int (iI ((c2 : Nat) : Int))] (bW (dC, dI) [(m0, .inr (1, [.int th, .ref t0, .ref k0, .ref p0, .int (iI ((w : Nat) : Int))])), (t0, .inl (cI, 24, .inl (fun j => iI ((tb a0 a1 j : Nat) : Int)))), (k0, .inl (cI, 12, .inl (fun j => iI ((K j : Nat) : Int)))), (p0, .inl (cI, 12, .inl (fun j => iI ((q j : Nat) : Int))))] [(cI, .int)]) (some (.int (iI (bI (alN (eqB (rw_ r a0 a1) c1 c2) 12 = true))))) := by
  refine Met.ofW (cc := cX1_areSame) (maxL := 6) (ret := (some .boolean)) (by decide) rfl ?_
  intro P0 e s m args below meth c s₁ B hml hv
  obtain ⟨rfl, hP, hK⟩ := hv
  have hx := B.exec
  have hb := B.bytes
  have hr := B.returns
  have hts := atoms_spec (ws := wsX1_areSame) B.pre
  have hown : s.vm.findClass RX1 = some m.cls := findClass_of_methodNamed B.named
  have hlocks := B.notSynchronized
  have hinX : ∀ w ∈ u_ws RX1 TX1 5, w ∈ wsX1_areSame := by decide +kernel
  have hl := lv_entry ([.ref m0, .int (iI ((r : Nat) : Int)), .int (iI ((c1 : Nat) : Int)), .int (iI ((c2 : Nat) : Int))]) (n := 6) (Nat.le_of_ble_eq_true rfl)
  rw [lg_entry_eq]
  generalize (lg_sl ([.ref m0, .int (iI ((r : Nat) : Int)), .int (iI ((c1 : Nat) : Int)), .int (iI ((c2 : Nat) : Int))]) ++ List.replicate (6 - (lg_sl ([.ref m0, .int (iI ((r : Nat) : Int)), .int (iI ((c1 : Nat) : Int)), .int (iI ((c2 : Nat) : Int))])).length) Slot.unset).toArray = ls at hl ⊢
  have hl : lv_has ls 6 [(0, .ref m0), (1, .int (iI ((r : Nat) : Int))), (2, .int (iI ((c1 : Nat) : Int))), (3, .int (iI ((c2 : Nat) : Int)))] := hl
  refine ib_const hx hb dX1_areSame_0 ?_
  refine lv_istore (lv' := [(4, .int (iI 1)), (0, .ref m0), (1, .int (iI ((r : Nat) : Int))), (2, .int (iI ((c1 : Nat) : Int))), (3, .int (iI ((c2 : Nat) : Int)))]) hx hb dX1_areSame_1 hl (by decide) rfl (fun ls hl => ?_)
  have hl : lv_has ls 6 [(4, .int (iI (bI (alN (eqB (rw_ r a0 a1) c1 c2) 0 = true)))), (0, .ref m0), (1, .int (iI ((r : Nat) : Int))), (2, .int (iI ((c1 : Nat) : Int))), (3, .int (iI ((c2 : Nat) : Int)))] := by
    have e9 : iI 1 = iI (bI (alN (eqB (rw_ r a0 a1) c1 c2) 0 = true)) := congrArg iI (bI_t (by simp [alN])).symm
    rw [← e9]; exact hl
  refine ib_const hx hb dX1_areSame_3 ?_
  refine lv_istore (lv' := [(5, .int (iI 0)), (4, .int (iI (bI (alN (eqB (rw_ r a0 a1) c1 c2) 0 = true)))), (0, .ref m0), (1, .int (iI ((r : Nat) : Int))), (2, .int (iI ((c1 : Nat) : Int))), (3, .int (iI ((c2 : Nat) : Int)))]) hx hb dX1_areSame_4 hl (by decide) rfl (fun ls hl => ?_)
  have lp_6_1 : ∀ (j n : Nat), n + j = 12 → ∀ ls : Array Slot, lv_has ls 6 [(0, .ref m0), (1, .int (iI ((r : Nat) : Int))), (2, .int (iI ((c1 : Nat) : Int))), (3, .int (iI ((c2 : Nat) : Int))), (4, .int (iI (bI (alN (eqB (rw_ r a0 a1) c1 c2) n = true)))), (5, .int (iI ((n : Nat) : Int)))] → W P0 l e (headSpec wsX1_areSame { frames := 2, cells := 0, slots := 0, locals := 48 }).room s m ([.ref m0, .int (iI ((r : Nat) : Int)), .int (iI ((c1 : Nat) : Int)), .int (iI ((c2 : Nat) : Int))] : List Value).toArray below meth c s.heap [] 0 0 (MQ below (rdQ (some (.int (iI (bI (alN (eqB (rw_ r a0 a1) c1 c2) 12 = true)))))) ([.ref m0, .int (iI ((r : Nat) : Int)), .int (iI ((c1 : Nat) : Int)), .int (iI ((c2 : Nat) : Int))] : List Value).toArray s 0 0 (fun _ => False)) (F0 m 6 ls []) := by
    intro j
    induction j with
    | zero =>
      intro n hn_6  ls hl
      refine lv_iload hx hb dX1_areSame_6 (lv_at hl 5 rfl) ?_
      refine ib_bi hx hb dX1_areSame_8 (by decide) ?_
      refine ib_icmp_ge (tgt := 50) hx hb dX1_areSame_10 (by decide) ⟨by omega, by omega⟩ ⟨by omega, by omega⟩ (fun c_10 => ?_) (fun c_10 => absurd c_10 (by omega))
      refine lv_iload hx hb dX1_areSame_50 (lv_at hl 4 rfl) ?_
      refine st_i (y := iI (bI (alN (eqB (rw_ r a0 a1) c1 c2) 12 = true))) (congrArg iI (bI_eq (by rw [show n = 12 by omega]))) ?_
      exact W.zret hx hb hr (bI_nar _) (fun t ht _ => ⟨rfl, ht⟩) (fun _ h => nomatch h) dX1_areSame_52
    | succ j ih_6_1 =>
      intro n hn_6  ls hl
      refine lv_iload hx hb dX1_areSame_6 (lv_at hl 5 rfl) ?_
      refine ib_bi hx hb dX1_areSame_8 (by decide) ?_
      refine ib_icmp_ge (tgt := 50) hx hb dX1_areSame_10 (by decide) ⟨by omega, by omega⟩ ⟨by omega, by omega⟩ (fun c_10 => absurd c_10 (by omega)) (fun c_10 => ?_)
      refine lv_iload hx hb dX1_areSame_13 (lv_at hl 4 rfl) ?_
      refine bb_eq (tgt := 41) hx hb dX1_areSame_15 (by decide) (fun c_15 => ?_) (fun c_15 => ?_)
      · skip
        refine ib_const hx hb dX1_areSame_41 ?_
        refine lv_istore (lv' := [(4, .int (iI 0)), (0, .ref m0), (1, .int (iI ((r : Nat) : Int))), (2, .int (iI ((c1 : Nat) : Int))), (3, .int (iI ((c2 : Nat) : Int))), (5, .int (iI ((n : Nat) : Int)))]) hx hb dX1_areSame_42 hl (by decide) rfl (fun ls hl => ?_)
        refine lv_iinc (v := iI ((n + 1 : Nat) : Int)) (lv' := [(5, .int (iI ((n + 1 : Nat) : Int))), (4, .int (iI 0)), (0, .ref m0), (1, .int (iI ((r : Nat) : Int))), (2, .int (iI ((c1 : Nat) : Int))), (3, .int (iI ((c2 : Nat) : Int)))]) hx hb dX1_areSame_44 hl (k := 5) rfl (iI_inc (by omega)) (by decide) rfl (fun ls hl => ?_)
        refine lv_goto (tgt := 6) hx hb dX1_areSame_47 (by decide) ?_
        have hl : lv_has ls 6 [(5, .int (iI ((n + 1 : Nat) : Int))), (4, .int (iI (bI (alN (eqB (rw_ r a0 a1) c1 c2) (n + 1) = true)))), (0, .ref m0), (1, .int (iI ((r : Nat) : Int))), (2, .int (iI ((c1 : Nat) : Int))), (3, .int (iI ((c2 : Nat) : Int)))] := by
          have e9 : iI 0 = iI (bI (alN (eqB (rw_ r a0 a1) c1 c2) (n + 1) = true)) := al_0 c_15
          rw [← e9]; exact hl
        exact ih_6_1 (n + 1) (by omega)  _ (lv_sub hl [2, 3, 4, 5, 1, 0] rfl)
      · skip
        refine lv_aload_n hx hb dX1_areSame_18 rfl (lv_at hl 0 rfl) ?_
        refine lv_iload_n hx hb dX1_areSame_19 rfl (lv_at hl 1 rfl) ?_
        refine lv_iload_n hx hb dX1_areSame_20 rfl (lv_at hl 2 rfl) ?_
        refine lv_iload hx hb dX1_areSame_21 (lv_at hl 5 rfl) ?_
        refine rd_call (va_runV (As := [.int (iI ((r : Nat) : Int)), .int (iI ((c1 : Nat) : Int)), .int (iI ((n : Nat) : Int))]) (rest := []) ⟨hx, hb, hml, hown, hts⟩ (mX1_formAt l dC dI cI m0 t0 k0 p0 a0 a1 K q th w h0 h1 hw hq r c1 n (by omega) (by omega) (by omega)) (cwV 3 hts gX1_areSame_X1_formAt rfl rfl rfl hvX1_formAt ⟨Nat.le_of_ble_eq_true rfl, Nat.le_of_ble_eq_true rfl⟩) (bW_pre (ci := 1) (q0 := 0) hK hP rfl rfl rfl) rfl rfl hl.1 rfl (lv_room (Nat.le_of_ble_eq_true rfl)) dX1_areSame_23 ⟨Nat.le_of_ble_eq_true rfl, Nat.le_of_ble_eq_true rfl⟩) ?_
        have hf_23 := fm_lt (rw_ r a0 a1) c1 n
        refine lv_aload_n hx hb dX1_areSame_26 rfl (lv_at hl 0 rfl) ?_
        refine lv_iload_n hx hb dX1_areSame_27 rfl (lv_at hl 1 rfl) ?_
        refine lv_iload_n hx hb dX1_areSame_28 rfl (lv_at hl 3 rfl) ?_
        refine lv_iload hx hb dX1_areSame_29 (lv_at hl 5 rfl) ?_
        refine rd_call (va_runV (As := [.int (iI ((r : Nat) : Int)), .int (iI ((c2 : Nat) : Int)), .int (iI ((n : Nat) : Int))]) (rest := [.int (iI ((fm (rw_ r a0 a1) c1 n : Nat) : Int))]) ⟨hx, hb, hml, hown, hts⟩ (mX1_formAt l dC dI cI m0 t0 k0 p0 a0 a1 K q th w h0 h1 hw hq r c2 n (by omega) (by omega) (by omega)) (cwV 3 hts gX1_areSame_X1_formAt rfl rfl rfl hvX1_formAt ⟨Nat.le_of_ble_eq_true rfl, Nat.le_of_ble_eq_true rfl⟩) (bW_pre (ci := 1) (q0 := 0) hK hP rfl rfl rfl) rfl rfl hl.1 rfl (lv_room (Nat.le_of_ble_eq_true rfl)) dX1_areSame_31 ⟨Nat.le_of_ble_eq_true rfl, Nat.le_of_ble_eq_true rfl⟩) ?_
        have hf_31 := fm_lt (rw_ r a0 a1) c2 n
        refine ib_icmp_ne (tgt := 41) hx hb dX1_areSame_34 (by decide) ⟨by omega, by omega⟩ ⟨by omega, by omega⟩ (fun c_34 => ?_) (fun c_34 => ?_)
        · skip
          refine ib_const hx hb dX1_areSame_41 ?_
          refine lv_istore (lv' := [(4, .int (iI 0)), (0, .ref m0), (1, .int (iI ((r : Nat) : Int))), (2, .int (iI ((c1 : Nat) : Int))), (3, .int (iI ((c2 : Nat) : Int))), (5, .int (iI ((n : Nat) : Int)))]) hx hb dX1_areSame_42 hl (by decide) rfl (fun ls hl => ?_)
          refine lv_iinc (v := iI ((n + 1 : Nat) : Int)) (lv' := [(5, .int (iI ((n + 1 : Nat) : Int))), (4, .int (iI 0)), (0, .ref m0), (1, .int (iI ((r : Nat) : Int))), (2, .int (iI ((c1 : Nat) : Int))), (3, .int (iI ((c2 : Nat) : Int)))]) hx hb dX1_areSame_44 hl (k := 5) rfl (iI_inc (by omega)) (by decide) rfl (fun ls hl => ?_)
          refine lv_goto (tgt := 6) hx hb dX1_areSame_47 (by decide) ?_
          have hl : lv_has ls 6 [(5, .int (iI ((n + 1 : Nat) : Int))), (4, .int (iI (bI (alN (eqB (rw_ r a0 a1) c1 c2) (n + 1) = true)))), (0, .ref m0), (1, .int (iI ((r : Nat) : Int))), (2, .int (iI ((c1 : Nat) : Int))), (3, .int (iI ((c2 : Nat) : Int)))] := by
            have e9 : iI 0 = iI (bI (alN (eqB (rw_ r a0 a1) c1 c2) (n + 1) = true)) := al_2 (decide_eq_false (by omega))
            rw [← e9]; exact hl
          exact ih_6_1 (n + 1) (by omega)  _ (lv_sub hl [2, 3, 4, 5, 1, 0] rfl)
        · skip
          refine ib_const hx hb dX1_areSame_37 ?_
          refine lv_goto (tgt := 42) hx hb dX1_areSame_38 (by decide) ?_
          refine lv_istore (lv' := [(4, .int (iI 1)), (0, .ref m0), (1, .int (iI ((r : Nat) : Int))), (2, .int (iI ((c1 : Nat) : Int))), (3, .int (iI ((c2 : Nat) : Int))), (5, .int (iI ((n : Nat) : Int)))]) hx hb dX1_areSame_42 hl (by decide) rfl (fun ls hl => ?_)
          refine lv_iinc (v := iI ((n + 1 : Nat) : Int)) (lv' := [(5, .int (iI ((n + 1 : Nat) : Int))), (4, .int (iI 1)), (0, .ref m0), (1, .int (iI ((r : Nat) : Int))), (2, .int (iI ((c1 : Nat) : Int))), (3, .int (iI ((c2 : Nat) : Int)))]) hx hb dX1_areSame_44 hl (k := 5) rfl (iI_inc (by omega)) (by decide) rfl (fun ls hl => ?_)
          refine lv_goto (tgt := 6) hx hb dX1_areSame_47 (by decide) ?_
          have hl : lv_has ls 6 [(5, .int (iI ((n + 1 : Nat) : Int))), (4, .int (iI (bI (alN (eqB (rw_ r a0 a1) c1 c2) (n + 1) = true)))), (0, .ref m0), (1, .int (iI ((r : Nat) : Int))), (2, .int (iI ((c1 : Nat) : Int))), (3, .int (iI ((c2 : Nat) : Int)))] := by
            have e9 : iI 1 = iI (bI (alN (eqB (rw_ r a0 a1) c1 c2) (n + 1) = true)) := al_1 c_15 (decide_eq_true (by omega))
            rw [← e9]; exact hl
          exact ih_6_1 (n + 1) (by omega)  _ (lv_sub hl [2, 3, 4, 5, 1, 0] rfl)
  exact lp_6_1 12 0 (by omega)  _ (lv_sub hl [2, 3, 4, 5, 1, 0] rfl)

set_option maxHeartbeats 4000000 in
set_option maxRecDepth 100000 in
theorem mX1_setOf (l : Launch) (dC : Nat → ClassId) (dI : Nat → Nat → Nat) (cI : ClassId) (m0 t0 k0 p0 : Nat) (a0 a1 K q : Nat → Nat) (th : Int32) (w : Nat) (h0 : lt12 a0) (h1 : lt12 a1) (hw : w ≤ 12) (hq : ∀ i, i < w → q i < 12) (r code i k : Nat) (hr9 : r < 2) (hc : code < 48) (hi : i + k ≤ 12) : rd l yX1_setOf wsX1_setOf { frames := 2, cells := 0, slots := 0, locals := 48 } [.ref m0, .int (iI ((r : Nat) : Int)), .int (iI ((code : Nat) : Int)), .int (iI ((i : Nat) : Int)), .int (iI ((k : Nat) : Int))] (bW (dC, dI) [(m0, .inr (1, [.int th, .ref t0, .ref k0, .ref p0, .int (iI ((w : Nat) : Int))])), (t0, .inl (cI, 24, .inl (fun j => iI ((tb a0 a1 j : Nat) : Int)))), (k0, .inl (cI, 12, .inl (fun j => iI ((K j : Nat) : Int)))), (p0, .inl (cI, 12, .inl (fun j => iI ((q j : Nat) : Int))))] [(cI, .int)]) (some (.int (iI ((setF (fm (rw_ r a0 a1) code) i k : Nat) : Int)))) := by
  refine Met.ofW (cc := cX1_setOf) (maxL := 7) (ret := (some .int)) (by decide) rfl ?_
  intro P0 e s m args below meth c s₁ B hml hv
  obtain ⟨rfl, hP, hK⟩ := hv
  have hx := B.exec
  have hb := B.bytes
  have hr := B.returns
  have hts := atoms_spec (ws := wsX1_setOf) B.pre
  have hown : s.vm.findClass RX1 = some m.cls := findClass_of_methodNamed B.named
  have hlocks := B.notSynchronized
  have hinX : ∀ w ∈ u_ws RX1 TX1 5, w ∈ wsX1_setOf := by decide +kernel
  have hl := lv_entry ([.ref m0, .int (iI ((r : Nat) : Int)), .int (iI ((code : Nat) : Int)), .int (iI ((i : Nat) : Int)), .int (iI ((k : Nat) : Int))]) (n := 7) (Nat.le_of_ble_eq_true rfl)
  rw [lg_entry_eq]
  generalize (lg_sl ([.ref m0, .int (iI ((r : Nat) : Int)), .int (iI ((code : Nat) : Int)), .int (iI ((i : Nat) : Int)), .int (iI ((k : Nat) : Int))]) ++ List.replicate (7 - (lg_sl ([.ref m0, .int (iI ((r : Nat) : Int)), .int (iI ((code : Nat) : Int)), .int (iI ((i : Nat) : Int)), .int (iI ((k : Nat) : Int))])).length) Slot.unset).toArray = ls at hl ⊢
  have hl : lv_has ls 7 [(0, .ref m0), (1, .int (iI ((r : Nat) : Int))), (2, .int (iI ((code : Nat) : Int))), (3, .int (iI ((i : Nat) : Int))), (4, .int (iI ((k : Nat) : Int)))] := hl
  refine ib_const hx hb dX1_setOf_0 ?_
  refine lv_istore (lv' := [(5, .int (iI 0)), (0, .ref m0), (1, .int (iI ((r : Nat) : Int))), (2, .int (iI ((code : Nat) : Int))), (3, .int (iI ((i : Nat) : Int))), (4, .int (iI ((k : Nat) : Int)))]) hx hb dX1_setOf_1 hl (by decide) rfl (fun ls hl => ?_)
  refine ib_const hx hb dX1_setOf_3 ?_
  refine lv_istore (lv' := [(6, .int (iI 0)), (5, .int (iI 0)), (0, .ref m0), (1, .int (iI ((r : Nat) : Int))), (2, .int (iI ((code : Nat) : Int))), (3, .int (iI ((i : Nat) : Int))), (4, .int (iI ((k : Nat) : Int)))]) hx hb dX1_setOf_4 hl (by decide) rfl (fun ls hl => ?_)
  have lp_6_1 : ∀ (j n : Nat), n + j = k → ∀ ls : Array Slot, lv_has ls 7 [(0, .ref m0), (1, .int (iI ((r : Nat) : Int))), (2, .int (iI ((code : Nat) : Int))), (3, .int (iI ((i : Nat) : Int))), (4, .int (iI ((k : Nat) : Int))), (5, .int (iI ((setF (fm (rw_ r a0 a1) code) i n : Nat) : Int))), (6, .int (iI ((n : Nat) : Int)))] → W P0 l e (headSpec wsX1_setOf { frames := 2, cells := 0, slots := 0, locals := 48 }).room s m ([.ref m0, .int (iI ((r : Nat) : Int)), .int (iI ((code : Nat) : Int)), .int (iI ((i : Nat) : Int)), .int (iI ((k : Nat) : Int))] : List Value).toArray below meth c s.heap [] 0 0 (MQ below (rdQ (some (.int (iI ((setF (fm (rw_ r a0 a1) code) i k : Nat) : Int))))) ([.ref m0, .int (iI ((r : Nat) : Int)), .int (iI ((code : Nat) : Int)), .int (iI ((i : Nat) : Int)), .int (iI ((k : Nat) : Int))] : List Value).toArray s 0 0 (fun _ => False)) (F0 m 6 ls []) := by
    intro j
    induction j with
    | zero =>
      intro n hn_6  ls hl
      have hs9 := setF_lt (fm_lt (rw_ r a0 a1) code) i n
      refine lv_iload hx hb dX1_setOf_6 (lv_at hl 6 rfl) ?_
      refine lv_iload hx hb dX1_setOf_8 (lv_at hl 4 rfl) ?_
      refine ib_icmp_ge (tgt := 36) hx hb dX1_setOf_10 (by decide) ⟨by omega, by omega⟩ ⟨by omega, by omega⟩ (fun c_10 => ?_) (fun c_10 => absurd c_10 (by omega))
      refine lv_iload hx hb dX1_setOf_36 (lv_at hl 5 rfl) ?_
      refine st_i (y := iI ((setF (fm (rw_ r a0 a1) code) i k : Nat) : Int)) (congrArg (fun z : Nat => iI ((setF (fm (rw_ r a0 a1) code) i z : Nat) : Int)) (show n = k by omega)) ?_
      exact W.iret hx hb hr (fun t ht _ => ⟨rfl, ht⟩) (fun _ h => nomatch h) dX1_setOf_38
    | succ j ih_6_1 =>
      intro n hn_6  ls hl
      have hs9 := setF_lt (fm_lt (rw_ r a0 a1) code) i n
      refine lv_iload hx hb dX1_setOf_6 (lv_at hl 6 rfl) ?_
      refine lv_iload hx hb dX1_setOf_8 (lv_at hl 4 rfl) ?_
      refine ib_icmp_ge (tgt := 36) hx hb dX1_setOf_10 (by decide) ⟨by omega, by omega⟩ ⟨by omega, by omega⟩ (fun c_10 => absurd c_10 (by omega)) (fun c_10 => ?_)
      refine lv_iload hx hb dX1_setOf_13 (lv_at hl 5 rfl) ?_
      refine ib_const hx hb dX1_setOf_15 ?_
      refine lv_aload_n hx hb dX1_setOf_16 rfl (lv_at hl 0 rfl) ?_
      refine lv_iload_n hx hb dX1_setOf_17 rfl (lv_at hl 1 rfl) ?_
      refine lv_iload_n hx hb dX1_setOf_18 rfl (lv_at hl 2 rfl) ?_
      refine lv_iload_n hx hb dX1_setOf_19 rfl (lv_at hl 3 rfl) ?_
      refine lv_iload hx hb dX1_setOf_20 (lv_at hl 6 rfl) ?_
      refine ib_add (z := ((i + n : Nat) : Int)) hx hb dX1_setOf_22 (by omega) ?_
      refine rd_call (va_runV (As := [.int (iI ((r : Nat) : Int)), .int (iI ((code : Nat) : Int)), .int (iI ((i + n : Nat) : Int))]) (rest := [.int (iI 1), .int (iI ((setF (fm (rw_ r a0 a1) code) i n : Nat) : Int))]) ⟨hx, hb, hml, hown, hts⟩ (mX1_formAt l dC dI cI m0 t0 k0 p0 a0 a1 K q th w h0 h1 hw hq r code (i + n) (by omega) (by omega) (by omega)) (cwV 3 hts gX1_setOf_X1_formAt rfl rfl rfl hvX1_formAt ⟨Nat.le_of_ble_eq_true rfl, Nat.le_of_ble_eq_true rfl⟩) (bW_pre (ci := 1) (q0 := 0) hK hP rfl rfl rfl) rfl rfl hl.1 rfl (lv_room (Nat.le_of_ble_eq_true rfl)) dX1_setOf_23 ⟨Nat.le_of_ble_eq_true rfl, Nat.le_of_ble_eq_true rfl⟩) ?_
      have hf_23 := fm_lt (rw_ r a0 a1) code (i + n)
      refine lv_ishl hx hb dX1_setOf_26 ?_
      refine st_i (y := iI ((2 ^ fm (rw_ r a0 a1) code (i + n) : Nat) : Int)) (ir_shl1 (by omega)) ?_
      refine lv_ior hx hb dX1_setOf_27 ?_
      refine st_i (y := iI ((setF (fm (rw_ r a0 a1) code) i (n + 1) : Nat) : Int)) (ir_or _ _) ?_
      refine lv_istore (lv' := [(5, .int (iI ((setF (fm (rw_ r a0 a1) code) i (n + 1) : Nat) : Int))), (0, .ref m0), (1, .int (iI ((r : Nat) : Int))), (2, .int (iI ((code : Nat) : Int))), (3, .int (iI ((i : Nat) : Int))), (4, .int (iI ((k : Nat) : Int))), (6, .int (iI ((n : Nat) : Int)))]) hx hb dX1_setOf_28 hl (by decide) rfl (fun ls hl => ?_)
      refine lv_iinc (v := iI ((n + 1 : Nat) : Int)) (lv' := [(6, .int (iI ((n + 1 : Nat) : Int))), (5, .int (iI ((setF (fm (rw_ r a0 a1) code) i (n + 1) : Nat) : Int))), (0, .ref m0), (1, .int (iI ((r : Nat) : Int))), (2, .int (iI ((code : Nat) : Int))), (3, .int (iI ((i : Nat) : Int))), (4, .int (iI ((k : Nat) : Int)))]) hx hb dX1_setOf_30 hl (k := 6) rfl (iI_inc (by omega)) (by decide) rfl (fun ls hl => ?_)
      refine lv_goto (tgt := 6) hx hb dX1_setOf_33 (by decide) ?_
      exact ih_6_1 (n + 1) (by omega)  _ (lv_sub hl [2, 3, 4, 5, 6, 1, 0] rfl)
  exact lp_6_1 k 0 (by omega)  _ (lv_sub hl [2, 3, 4, 5, 6, 1, 0] rfl)

set_option maxHeartbeats 4000000 in
set_option maxRecDepth 100000 in
theorem mX1_setsKept (l : Launch) (dC : Nat → ClassId) (dI : Nat → Nat → Nat) (cI : ClassId) (m0 t0 k0 p0 : Nat) (a0 a1 K q : Nat → Nat) (th : Int32) (w : Nat) (h0 : lt12 a0) (h1 : lt12 a1) (hw : w ≤ 12) (hq : ∀ i, i < w → q i < 12) (r code k : Nat) (hr9 : r < 2) (hc : code < 48) (hk1 : 1 ≤ k) (hk2 : k ≤ 12) : rd l yX1_setsKept wsX1_setsKept { frames := 3, cells := 0, slots := 0, locals := 74 } [.ref m0, .int (iI ((r : Nat) : Int)), .int (iI ((code : Nat) : Int)), .int (iI ((k : Nat) : Int))] (bW (dC, dI) [(m0, .inr (1, [.int th, .ref t0, .ref k0, .ref p0, .int (iI ((w : Nat) : Int))])), (t0, .inl (cI, 24, .inl (fun j => iI ((tb a0 a1 j : Nat) : Int)))), (k0, .inl (cI, 12, .inl (fun j => iI ((K j : Nat) : Int)))), (p0, .inl (cI, 12, .inl (fun j => iI ((q j : Nat) : Int))))] [(cI, .int)]) (some (.int (iI ((skN (rw_ r a0 a1) code k (13 - k) : Nat) : Int)))) := by
  refine Met.ofW (cc := cX1_setsKept) (maxL := 8) (ret := (some .int)) (by decide) rfl ?_
  intro P0 e s m args below meth c s₁ B hml hv
  obtain ⟨rfl, hP, hK⟩ := hv
  have hx := B.exec
  have hb := B.bytes
  have hr := B.returns
  have hts := atoms_spec (ws := wsX1_setsKept) B.pre
  have hown : s.vm.findClass RX1 = some m.cls := findClass_of_methodNamed B.named
  have hlocks := B.notSynchronized
  have hinX : ∀ w ∈ u_ws RX1 TX1 5, w ∈ wsX1_setsKept := by decide +kernel
  have hl := lv_entry ([.ref m0, .int (iI ((r : Nat) : Int)), .int (iI ((code : Nat) : Int)), .int (iI ((k : Nat) : Int))]) (n := 8) (Nat.le_of_ble_eq_true rfl)
  rw [lg_entry_eq]
  generalize (lg_sl ([.ref m0, .int (iI ((r : Nat) : Int)), .int (iI ((code : Nat) : Int)), .int (iI ((k : Nat) : Int))]) ++ List.replicate (8 - (lg_sl ([.ref m0, .int (iI ((r : Nat) : Int)), .int (iI ((code : Nat) : Int)), .int (iI ((k : Nat) : Int))])).length) Slot.unset).toArray = ls at hl ⊢
  have hl : lv_has ls 8 [(0, .ref m0), (1, .int (iI ((r : Nat) : Int))), (2, .int (iI ((code : Nat) : Int))), (3, .int (iI ((k : Nat) : Int)))] := hl
  refine ib_const hx hb dX1_setsKept_0 ?_
  refine lv_istore (lv' := [(4, .int (iI 0)), (0, .ref m0), (1, .int (iI ((r : Nat) : Int))), (2, .int (iI ((code : Nat) : Int))), (3, .int (iI ((k : Nat) : Int)))]) hx hb dX1_setsKept_1 hl (by decide) rfl (fun ls hl => ?_)
  refine ib_const hx hb dX1_setsKept_3 ?_
  refine lv_istore (lv' := [(5, .int (iI 0)), (4, .int (iI 0)), (0, .ref m0), (1, .int (iI ((r : Nat) : Int))), (2, .int (iI ((code : Nat) : Int))), (3, .int (iI ((k : Nat) : Int)))]) hx hb dX1_setsKept_4 hl (by decide) rfl (fun ls hl => ?_)
  have lp_6_1 : ∀ (j n : Nat), n + j = 13 - k → ∀ ls : Array Slot, lv_has ls 8 [(0, .ref m0), (1, .int (iI ((r : Nat) : Int))), (2, .int (iI ((code : Nat) : Int))), (3, .int (iI ((k : Nat) : Int))), (4, .int (iI ((skN (rw_ r a0 a1) code k n : Nat) : Int))), (5, .int (iI ((n : Nat) : Int)))] → W P0 l e (headSpec wsX1_setsKept { frames := 3, cells := 0, slots := 0, locals := 74 }).room s m ([.ref m0, .int (iI ((r : Nat) : Int)), .int (iI ((code : Nat) : Int)), .int (iI ((k : Nat) : Int))] : List Value).toArray below meth c s.heap [] 0 0 (MQ below (rdQ (some (.int (iI ((skN (rw_ r a0 a1) code k (13 - k) : Nat) : Int))))) ([.ref m0, .int (iI ((r : Nat) : Int)), .int (iI ((code : Nat) : Int)), .int (iI ((k : Nat) : Int))] : List Value).toArray s 0 0 (fun _ => False)) (F0 m 6 ls []) := by
    intro j
    induction j with
    | zero =>
      intro n hn_6  ls hl
      have hs9 := skN_le (rw_ r a0 a1) code k n
      refine lv_iload hx hb dX1_setsKept_6 (lv_at hl 5 rfl) ?_
      refine lv_iload_n hx hb dX1_setsKept_8 rfl (lv_at hl 3 rfl) ?_
      refine ib_add (z := ((n + k : Nat) : Int)) hx hb dX1_setsKept_9 (by omega) ?_
      refine ib_bi hx hb dX1_setsKept_10 (by decide) ?_
      refine ib_icmp_gt (tgt := 94) hx hb dX1_setsKept_12 (by decide) ⟨by omega, by omega⟩ ⟨by omega, by omega⟩ (fun c_12 => ?_) (fun c_12 => absurd c_12 (by omega))
      refine lv_iload hx hb dX1_setsKept_94 (lv_at hl 4 rfl) ?_
      refine st_i (y := iI ((skN (rw_ r a0 a1) code k (13 - k) : Nat) : Int)) (congrArg (fun z : Nat => iI ((skN (rw_ r a0 a1) code k z : Nat) : Int)) (show n = 13 - k by omega)) ?_
      exact W.iret hx hb hr (fun t ht _ => ⟨rfl, ht⟩) (fun _ h => nomatch h) dX1_setsKept_96
    | succ j ih_6_1 =>
      intro n hn_6  ls hl
      have hs9 := skN_le (rw_ r a0 a1) code k n
      refine lv_iload hx hb dX1_setsKept_6 (lv_at hl 5 rfl) ?_
      refine lv_iload_n hx hb dX1_setsKept_8 rfl (lv_at hl 3 rfl) ?_
      refine ib_add (z := ((n + k : Nat) : Int)) hx hb dX1_setsKept_9 (by omega) ?_
      refine ib_bi hx hb dX1_setsKept_10 (by decide) ?_
      refine ib_icmp_gt (tgt := 94) hx hb dX1_setsKept_12 (by decide) ⟨by omega, by omega⟩ ⟨by omega, by omega⟩ (fun c_12 => absurd c_12 (by omega)) (fun c_12 => ?_)
      refine ib_const hx hb dX1_setsKept_15 ?_
      refine lv_istore (lv' := [(6, .int (iI 0)), (0, .ref m0), (1, .int (iI ((r : Nat) : Int))), (2, .int (iI ((code : Nat) : Int))), (3, .int (iI ((k : Nat) : Int))), (4, .int (iI ((skN (rw_ r a0 a1) code k n : Nat) : Int))), (5, .int (iI ((n : Nat) : Int)))]) hx hb dX1_setsKept_16 hl (by decide) rfl (fun ls hl => ?_)
      have hl : lv_has ls 8 [(6, .int (iI (bI (orN (kpB (rw_ r a0 a1) code k n) 0 = true)))), (0, .ref m0), (1, .int (iI ((r : Nat) : Int))), (2, .int (iI ((code : Nat) : Int))), (3, .int (iI ((k : Nat) : Int))), (4, .int (iI ((skN (rw_ r a0 a1) code k n : Nat) : Int))), (5, .int (iI ((n : Nat) : Int)))] := by
        have e9 : iI 0 = iI (bI (orN (kpB (rw_ r a0 a1) code k n) 0 = true)) := congrArg iI (bI_f (by simp [orN])).symm
        rw [← e9]; exact hl
      refine ib_const hx hb dX1_setsKept_18 ?_
      refine lv_istore (lv' := [(7, .int (iI 0)), (6, .int (iI (bI (orN (kpB (rw_ r a0 a1) code k n) 0 = true)))), (0, .ref m0), (1, .int (iI ((r : Nat) : Int))), (2, .int (iI ((code : Nat) : Int))), (3, .int (iI ((k : Nat) : Int))), (4, .int (iI ((skN (rw_ r a0 a1) code k n : Nat) : Int))), (5, .int (iI ((n : Nat) : Int)))]) hx hb dX1_setsKept_19 hl (by decide) rfl (fun ls hl => ?_)
      have lp_21_2 : ∀ (j o : Nat), o + j = 13 - k → ∀ ls : Array Slot, lv_has ls 8 [(0, .ref m0), (1, .int (iI ((r : Nat) : Int))), (2, .int (iI ((code : Nat) : Int))), (3, .int (iI ((k : Nat) : Int))), (4, .int (iI ((skN (rw_ r a0 a1) code k n : Nat) : Int))), (5, .int (iI ((n : Nat) : Int))), (6, .int (iI (bI (orN (kpB (rw_ r a0 a1) code k n) o = true)))), (7, .int (iI ((o : Nat) : Int)))] → W P0 l e (headSpec wsX1_setsKept { frames := 3, cells := 0, slots := 0, locals := 74 }).room s m ([.ref m0, .int (iI ((r : Nat) : Int)), .int (iI ((code : Nat) : Int)), .int (iI ((k : Nat) : Int))] : List Value).toArray below meth c s.heap [] 0 0 (MQ below (rdQ (some (.int (iI ((skN (rw_ r a0 a1) code k (13 - k) : Nat) : Int))))) ([.ref m0, .int (iI ((r : Nat) : Int)), .int (iI ((code : Nat) : Int)), .int (iI ((k : Nat) : Int))] : List Value).toArray s 0 0 (fun _ => False)) (F0 m 21 ls []) := by
        intro j
        induction j with
        | zero =>
          intro o hn_21  ls hl
          have hno : o = 13 - k := by omega
          refine lv_iload hx hb dX1_setsKept_21 (lv_at hl 7 rfl) ?_
          refine lv_iload_n hx hb dX1_setsKept_23 rfl (lv_at hl 3 rfl) ?_
          refine ib_add (z := ((o + k : Nat) : Int)) hx hb dX1_setsKept_24 (by omega) ?_
          refine ib_bi hx hb dX1_setsKept_25 (by decide) ?_
          refine ib_icmp_gt (tgt := 73) hx hb dX1_setsKept_27 (by decide) ⟨by omega, by omega⟩ ⟨by omega, by omega⟩ (fun c_27 => ?_) (fun c_27 => absurd c_27 (by omega))
          refine lv_iload hx hb dX1_setsKept_73 (lv_at hl 4 rfl) ?_
          refine lv_iload hx hb dX1_setsKept_75 (lv_at hl 6 rfl) ?_
          refine bb_eq (tgt := 84) hx hb dX1_setsKept_77 (by decide) (fun c_77 => ?_) (fun c_77 => ?_)
          · skip
            refine ib_const hx hb dX1_setsKept_84 ?_
            refine ib_add (z := (((skN (rw_ r a0 a1) code k n) + 0 : Nat) : Int)) hx hb dX1_setsKept_85 (by omega) ?_
            refine lv_istore (lv' := [(4, .int (iI (((skN (rw_ r a0 a1) code k n) + 0 : Nat) : Int))), (0, .ref m0), (1, .int (iI ((r : Nat) : Int))), (2, .int (iI ((code : Nat) : Int))), (3, .int (iI ((k : Nat) : Int))), (5, .int (iI ((n : Nat) : Int))), (6, .int (iI (bI (orN (kpB (rw_ r a0 a1) code k n) o = true)))), (7, .int (iI ((o : Nat) : Int)))]) hx hb dX1_setsKept_86 hl (by decide) rfl (fun ls hl => ?_)
            refine lv_iinc (v := iI ((n + 1 : Nat) : Int)) (lv' := [(5, .int (iI ((n + 1 : Nat) : Int))), (4, .int (iI (((skN (rw_ r a0 a1) code k n) + 0 : Nat) : Int))), (0, .ref m0), (1, .int (iI ((r : Nat) : Int))), (2, .int (iI ((code : Nat) : Int))), (3, .int (iI ((k : Nat) : Int))), (6, .int (iI (bI (orN (kpB (rw_ r a0 a1) code k n) o = true)))), (7, .int (iI ((o : Nat) : Int)))]) hx hb dX1_setsKept_88 hl (k := 5) rfl (iI_inc (by omega)) (by decide) rfl (fun ls hl => ?_)
            refine lv_goto (tgt := 6) hx hb dX1_setsKept_91 (by decide) ?_
            have hl : lv_has ls 8 [(5, .int (iI ((n + 1 : Nat) : Int))), (4, .int (iI ((skN (rw_ r a0 a1) code k (n + 1) : Nat) : Int))), (0, .ref m0), (1, .int (iI ((r : Nat) : Int))), (2, .int (iI ((code : Nat) : Int))), (3, .int (iI ((k : Nat) : Int))), (6, .int (iI (bI (orN (kpB (rw_ r a0 a1) code k n) o = true)))), (7, .int (iI ((o : Nat) : Int)))] := by
              have e9 : iI (((skN (rw_ r a0 a1) code k n) + 0 : Nat) : Int) = iI ((skN (rw_ r a0 a1) code k (n + 1) : Nat) : Int) := congrArg (fun z : Nat => iI ((z : Nat) : Int)) (skN_f (hno ▸ c_77))
              rw [← e9]; exact hl
            exact ih_6_1 (n + 1) (by omega)  _ (lv_sub hl [2, 3, 4, 5, 1, 0] rfl)
          · skip
            refine ib_const hx hb dX1_setsKept_80 ?_
            refine lv_goto (tgt := 85) hx hb dX1_setsKept_81 (by decide) ?_
            refine ib_add (z := (((skN (rw_ r a0 a1) code k n) + 1 : Nat) : Int)) hx hb dX1_setsKept_85 (by omega) ?_
            refine lv_istore (lv' := [(4, .int (iI (((skN (rw_ r a0 a1) code k n) + 1 : Nat) : Int))), (0, .ref m0), (1, .int (iI ((r : Nat) : Int))), (2, .int (iI ((code : Nat) : Int))), (3, .int (iI ((k : Nat) : Int))), (5, .int (iI ((n : Nat) : Int))), (6, .int (iI (bI (orN (kpB (rw_ r a0 a1) code k n) o = true)))), (7, .int (iI ((o : Nat) : Int)))]) hx hb dX1_setsKept_86 hl (by decide) rfl (fun ls hl => ?_)
            refine lv_iinc (v := iI ((n + 1 : Nat) : Int)) (lv' := [(5, .int (iI ((n + 1 : Nat) : Int))), (4, .int (iI (((skN (rw_ r a0 a1) code k n) + 1 : Nat) : Int))), (0, .ref m0), (1, .int (iI ((r : Nat) : Int))), (2, .int (iI ((code : Nat) : Int))), (3, .int (iI ((k : Nat) : Int))), (6, .int (iI (bI (orN (kpB (rw_ r a0 a1) code k n) o = true)))), (7, .int (iI ((o : Nat) : Int)))]) hx hb dX1_setsKept_88 hl (k := 5) rfl (iI_inc (by omega)) (by decide) rfl (fun ls hl => ?_)
            refine lv_goto (tgt := 6) hx hb dX1_setsKept_91 (by decide) ?_
            have hl : lv_has ls 8 [(5, .int (iI ((n + 1 : Nat) : Int))), (4, .int (iI ((skN (rw_ r a0 a1) code k (n + 1) : Nat) : Int))), (0, .ref m0), (1, .int (iI ((r : Nat) : Int))), (2, .int (iI ((code : Nat) : Int))), (3, .int (iI ((k : Nat) : Int))), (6, .int (iI (bI (orN (kpB (rw_ r a0 a1) code k n) o = true)))), (7, .int (iI ((o : Nat) : Int)))] := by
              have e9 : iI (((skN (rw_ r a0 a1) code k n) + 1 : Nat) : Int) = iI ((skN (rw_ r a0 a1) code k (n + 1) : Nat) : Int) := congrArg (fun z : Nat => iI ((z : Nat) : Int)) (skN_t (hno ▸ c_77))
              rw [← e9]; exact hl
            exact ih_6_1 (n + 1) (by omega)  _ (lv_sub hl [2, 3, 4, 5, 1, 0] rfl)
        | succ j ih_21_2 =>
          intro o hn_21  ls hl
          refine lv_iload hx hb dX1_setsKept_21 (lv_at hl 7 rfl) ?_
          refine lv_iload_n hx hb dX1_setsKept_23 rfl (lv_at hl 3 rfl) ?_
          refine ib_add (z := ((o + k : Nat) : Int)) hx hb dX1_setsKept_24 (by omega) ?_
          refine ib_bi hx hb dX1_setsKept_25 (by decide) ?_
          refine ib_icmp_gt (tgt := 73) hx hb dX1_setsKept_27 (by decide) ⟨by omega, by omega⟩ ⟨by omega, by omega⟩ (fun c_27 => absurd c_27 (by omega)) (fun c_27 => ?_)
          refine lv_iload hx hb dX1_setsKept_30 (lv_at hl 6 rfl) ?_
          refine bb_ne (tgt := 60) hx hb dX1_setsKept_32 (by decide) (fun c_32 => ?_) (fun c_32 => ?_)
          · skip
            refine ib_const hx hb dX1_setsKept_60 ?_
            refine lv_goto (tgt := 65) hx hb dX1_setsKept_61 (by decide) ?_
            refine lv_istore (lv' := [(6, .int (iI 1)), (0, .ref m0), (1, .int (iI ((r : Nat) : Int))), (2, .int (iI ((code : Nat) : Int))), (3, .int (iI ((k : Nat) : Int))), (4, .int (iI ((skN (rw_ r a0 a1) code k n : Nat) : Int))), (5, .int (iI ((n : Nat) : Int))), (7, .int (iI ((o : Nat) : Int)))]) hx hb dX1_setsKept_65 hl (by decide) rfl (fun ls hl => ?_)
            refine lv_iinc (v := iI ((o + 1 : Nat) : Int)) (lv' := [(7, .int (iI ((o + 1 : Nat) : Int))), (6, .int (iI 1)), (0, .ref m0), (1, .int (iI ((r : Nat) : Int))), (2, .int (iI ((code : Nat) : Int))), (3, .int (iI ((k : Nat) : Int))), (4, .int (iI ((skN (rw_ r a0 a1) code k n : Nat) : Int))), (5, .int (iI ((n : Nat) : Int)))]) hx hb dX1_setsKept_67 hl (k := 7) rfl (iI_inc (by omega)) (by decide) rfl (fun ls hl => ?_)
            refine lv_goto (tgt := 21) hx hb dX1_setsKept_70 (by decide) ?_
            have hl : lv_has ls 8 [(7, .int (iI ((o + 1 : Nat) : Int))), (6, .int (iI (bI (orN (kpB (rw_ r a0 a1) code k n) (o + 1) = true)))), (0, .ref m0), (1, .int (iI ((r : Nat) : Int))), (2, .int (iI ((code : Nat) : Int))), (3, .int (iI ((k : Nat) : Int))), (4, .int (iI ((skN (rw_ r a0 a1) code k n : Nat) : Int))), (5, .int (iI ((n : Nat) : Int)))] := by
              have e9 : iI 1 = iI (bI (orN (kpB (rw_ r a0 a1) code k n) (o + 1) = true)) := or_1 c_32
              rw [← e9]; exact hl
            exact ih_21_2 (o + 1) (by omega)  _ (lv_sub hl [2, 3, 4, 5, 6, 7, 1, 0] rfl)
          · skip
            refine lv_aload_n hx hb dX1_setsKept_35 rfl (lv_at hl 0 rfl) ?_
            refine lv_iload_n hx hb dX1_setsKept_36 rfl (lv_at hl 1 rfl) ?_
            refine lv_iload_n hx hb dX1_setsKept_37 rfl (lv_at hl 2 rfl) ?_
            refine lv_iload hx hb dX1_setsKept_38 (lv_at hl 7 rfl) ?_
            refine lv_iload_n hx hb dX1_setsKept_40 rfl (lv_at hl 3 rfl) ?_
            refine rd_call (va_runV (As := [.int (iI ((r : Nat) : Int)), .int (iI ((code : Nat) : Int)), .int (iI ((o : Nat) : Int)), .int (iI ((k : Nat) : Int))]) (rest := []) ⟨hx, hb, hml, hown, hts⟩ (mX1_setOf l dC dI cI m0 t0 k0 p0 a0 a1 K q th w h0 h1 hw hq r code o k (by omega) (by omega) (by omega)) (cwV 4 hts gX1_setsKept_X1_setOf rfl rfl rfl hvX1_setOf ⟨Nat.le_of_ble_eq_true rfl, Nat.le_of_ble_eq_true rfl⟩) (bW_pre (ci := 1) (q0 := 0) hK hP rfl rfl rfl) rfl rfl hl.1 rfl (lv_room (Nat.le_of_ble_eq_true rfl)) dX1_setsKept_41 ⟨Nat.le_of_ble_eq_true rfl, Nat.le_of_ble_eq_true rfl⟩) ?_
            have hs_41 := setF_lt (fm_lt (rw_ r a0 a1) code) o k
            refine lv_aload_n hx hb dX1_setsKept_44 rfl (lv_at hl 0 rfl) ?_
            refine lv_iload_n hx hb dX1_setsKept_45 rfl (lv_at hl 1 rfl) ?_
            refine lv_aload_n hx hb dX1_setsKept_46 rfl (lv_at hl 0 rfl) ?_
            refine lv_iload_n hx hb dX1_setsKept_47 rfl (lv_at hl 1 rfl) ?_
            refine rd_call (va_runV (As := [.int (iI ((r : Nat) : Int))]) (rest := [.int (iI ((r : Nat) : Int)), .ref m0, .int (iI ((setF (fm (rw_ r a0 a1) code) o k : Nat) : Int))]) ⟨hx, hb, hml, hown, hts⟩ (mX1_itself l dC dI cI m0 t0 k0 p0 a0 a1 K q th w h0 h1 hw hq r (by omega)) (cwV 1 hts gX1_setsKept_X1_itself rfl rfl rfl hvX1_itself ⟨Nat.le_of_ble_eq_true rfl, Nat.le_of_ble_eq_true rfl⟩) (bW_pre (ci := 1) (q0 := 0) hK hP rfl rfl rfl) rfl rfl hl.1 rfl (lv_room (Nat.le_of_ble_eq_true rfl)) dX1_setsKept_48 ⟨Nat.le_of_ble_eq_true rfl, Nat.le_of_ble_eq_true rfl⟩) ?_
            have hr_48 := rw_lt h0 h1 r (i := 0) (by omega)
            refine lv_iload hx hb dX1_setsKept_51 (lv_at hl 5 rfl) ?_
            refine lv_iload_n hx hb dX1_setsKept_53 rfl (lv_at hl 3 rfl) ?_
            refine rd_call (va_runV (As := [.int (iI ((r : Nat) : Int)), .int (iI ((rw_ r a0 a1 0 : Nat) : Int)), .int (iI ((n : Nat) : Int)), .int (iI ((k : Nat) : Int))]) (rest := [.int (iI ((setF (fm (rw_ r a0 a1) code) o k : Nat) : Int))]) ⟨hx, hb, hml, hown, hts⟩ (mX1_setOf l dC dI cI m0 t0 k0 p0 a0 a1 K q th w h0 h1 hw hq r (rw_ r a0 a1 0) n k (by omega) (by omega) (by omega)) (cwV 4 hts gX1_setsKept_X1_setOf rfl rfl rfl hvX1_setOf ⟨Nat.le_of_ble_eq_true rfl, Nat.le_of_ble_eq_true rfl⟩) (bW_pre (ci := 1) (q0 := 0) hK hP rfl rfl rfl) rfl rfl hl.1 rfl (lv_room (Nat.le_of_ble_eq_true rfl)) dX1_setsKept_54 ⟨Nat.le_of_ble_eq_true rfl, Nat.le_of_ble_eq_true rfl⟩) ?_
            have hs_54 := setF_lt (fm_lt (rw_ r a0 a1) (rw_ r a0 a1 0)) n k
            refine ib_icmp_ne (tgt := 64) hx hb dX1_setsKept_57 (by decide) ⟨by omega, by omega⟩ ⟨by omega, by omega⟩ (fun c_57 => ?_) (fun c_57 => ?_)
            · skip
              refine ib_const hx hb dX1_setsKept_64 ?_
              refine lv_istore (lv' := [(6, .int (iI 0)), (0, .ref m0), (1, .int (iI ((r : Nat) : Int))), (2, .int (iI ((code : Nat) : Int))), (3, .int (iI ((k : Nat) : Int))), (4, .int (iI ((skN (rw_ r a0 a1) code k n : Nat) : Int))), (5, .int (iI ((n : Nat) : Int))), (7, .int (iI ((o : Nat) : Int)))]) hx hb dX1_setsKept_65 hl (by decide) rfl (fun ls hl => ?_)
              refine lv_iinc (v := iI ((o + 1 : Nat) : Int)) (lv' := [(7, .int (iI ((o + 1 : Nat) : Int))), (6, .int (iI 0)), (0, .ref m0), (1, .int (iI ((r : Nat) : Int))), (2, .int (iI ((code : Nat) : Int))), (3, .int (iI ((k : Nat) : Int))), (4, .int (iI ((skN (rw_ r a0 a1) code k n : Nat) : Int))), (5, .int (iI ((n : Nat) : Int)))]) hx hb dX1_setsKept_67 hl (k := 7) rfl (iI_inc (by omega)) (by decide) rfl (fun ls hl => ?_)
              refine lv_goto (tgt := 21) hx hb dX1_setsKept_70 (by decide) ?_
              have hl : lv_has ls 8 [(7, .int (iI ((o + 1 : Nat) : Int))), (6, .int (iI (bI (orN (kpB (rw_ r a0 a1) code k n) (o + 1) = true)))), (0, .ref m0), (1, .int (iI ((r : Nat) : Int))), (2, .int (iI ((code : Nat) : Int))), (3, .int (iI ((k : Nat) : Int))), (4, .int (iI ((skN (rw_ r a0 a1) code k n : Nat) : Int))), (5, .int (iI ((n : Nat) : Int)))] := by
                have e9 : iI 0 = iI (bI (orN (kpB (rw_ r a0 a1) code k n) (o + 1) = true)) := or_0 c_32 (decide_eq_false (by omega))
                rw [← e9]; exact hl
              exact ih_21_2 (o + 1) (by omega)  _ (lv_sub hl [2, 3, 4, 5, 6, 7, 1, 0] rfl)
            · skip
              refine ib_const hx hb dX1_setsKept_60 ?_
              refine lv_goto (tgt := 65) hx hb dX1_setsKept_61 (by decide) ?_
              refine lv_istore (lv' := [(6, .int (iI 1)), (0, .ref m0), (1, .int (iI ((r : Nat) : Int))), (2, .int (iI ((code : Nat) : Int))), (3, .int (iI ((k : Nat) : Int))), (4, .int (iI ((skN (rw_ r a0 a1) code k n : Nat) : Int))), (5, .int (iI ((n : Nat) : Int))), (7, .int (iI ((o : Nat) : Int)))]) hx hb dX1_setsKept_65 hl (by decide) rfl (fun ls hl => ?_)
              refine lv_iinc (v := iI ((o + 1 : Nat) : Int)) (lv' := [(7, .int (iI ((o + 1 : Nat) : Int))), (6, .int (iI 1)), (0, .ref m0), (1, .int (iI ((r : Nat) : Int))), (2, .int (iI ((code : Nat) : Int))), (3, .int (iI ((k : Nat) : Int))), (4, .int (iI ((skN (rw_ r a0 a1) code k n : Nat) : Int))), (5, .int (iI ((n : Nat) : Int)))]) hx hb dX1_setsKept_67 hl (k := 7) rfl (iI_inc (by omega)) (by decide) rfl (fun ls hl => ?_)
              refine lv_goto (tgt := 21) hx hb dX1_setsKept_70 (by decide) ?_
              have hl : lv_has ls 8 [(7, .int (iI ((o + 1 : Nat) : Int))), (6, .int (iI (bI (orN (kpB (rw_ r a0 a1) code k n) (o + 1) = true)))), (0, .ref m0), (1, .int (iI ((r : Nat) : Int))), (2, .int (iI ((code : Nat) : Int))), (3, .int (iI ((k : Nat) : Int))), (4, .int (iI ((skN (rw_ r a0 a1) code k n : Nat) : Int))), (5, .int (iI ((n : Nat) : Int)))] := by
                have e9 : iI 1 = iI (bI (orN (kpB (rw_ r a0 a1) code k n) (o + 1) = true)) := or_2 (decide_eq_true (by omega))
                rw [← e9]; exact hl
              exact ih_21_2 (o + 1) (by omega)  _ (lv_sub hl [2, 3, 4, 5, 6, 7, 1, 0] rfl)
      exact lp_21_2 (13 - k) 0 (by omega)  _ (lv_sub hl [2, 3, 4, 5, 6, 7, 1, 0] rfl)
  exact lp_6_1 (13 - k) 0 (by omega)  _ (lv_sub hl [2, 3, 4, 5, 1, 0] rfl)

set_option maxHeartbeats 4000000 in
set_option maxRecDepth 100000 in
theorem mX1_same (l : Launch) (dC : Nat → ClassId) (dI : Nat → Nat → Nat) (cI : ClassId) (m0 t0 k0 p0 : Nat) (a0 a1 K q : Nat → Nat) (th : Int32) (w : Nat) (h0 : lt12 a0) (h1 : lt12 a1) (hw : w ≤ 12) (hq : ∀ i, i < w → q i < 12) (r i code o : Nat) (hr9 : r < 2) (hi : i < 12) (hc : code < 48) (ho : o < 12) : rd l yX1_same wsX1_same { frames := 2, cells := 0, slots := 0, locals := 48 } [.ref m0, .int (iI ((r : Nat) : Int)), .int (iI ((i : Nat) : Int)), .int (iI ((code : Nat) : Int)), .int (iI ((o : Nat) : Int))] (bW (dC, dI) [(m0, .inr (1, [.int th, .ref t0, .ref k0, .ref p0, .int (iI ((w : Nat) : Int))])), (t0, .inl (cI, 24, .inl (fun j => iI ((tb a0 a1 j : Nat) : Int)))), (k0, .inl (cI, 12, .inl (fun j => iI ((K j : Nat) : Int)))), (p0, .inl (cI, 12, .inl (fun j => iI ((q j : Nat) : Int))))] [(cI, .int)]) (some (.int (iI ((smN (rw_ r a0 a1) (fm (rw_ r a0 a1) code) i o 12 0 : Nat) : Int)))) := by
  refine Met.ofW (cc := cX1_same) (maxL := 6) (ret := (some .int)) (by decide) rfl ?_
  intro P0 e s m args below meth c s₁ B hml hv
  obtain ⟨rfl, hP, hK⟩ := hv
  have hx := B.exec
  have hb := B.bytes
  have hr := B.returns
  have hts := atoms_spec (ws := wsX1_same) B.pre
  have hown : s.vm.findClass RX1 = some m.cls := findClass_of_methodNamed B.named
  have hlocks := B.notSynchronized
  have hinX : ∀ w ∈ u_ws RX1 TX1 5, w ∈ wsX1_same := by decide +kernel
  have hl := lv_entry ([.ref m0, .int (iI ((r : Nat) : Int)), .int (iI ((i : Nat) : Int)), .int (iI ((code : Nat) : Int)), .int (iI ((o : Nat) : Int))]) (n := 6) (Nat.le_of_ble_eq_true rfl)
  rw [lg_entry_eq]
  generalize (lg_sl ([.ref m0, .int (iI ((r : Nat) : Int)), .int (iI ((i : Nat) : Int)), .int (iI ((code : Nat) : Int)), .int (iI ((o : Nat) : Int))]) ++ List.replicate (6 - (lg_sl ([.ref m0, .int (iI ((r : Nat) : Int)), .int (iI ((i : Nat) : Int)), .int (iI ((code : Nat) : Int)), .int (iI ((o : Nat) : Int))])).length) Slot.unset).toArray = ls at hl ⊢
  have hl : lv_has ls 6 [(0, .ref m0), (1, .int (iI ((r : Nat) : Int))), (2, .int (iI ((i : Nat) : Int))), (3, .int (iI ((code : Nat) : Int))), (4, .int (iI ((o : Nat) : Int)))] := hl
  refine ib_const hx hb dX1_same_0 ?_
  refine lv_istore (lv' := [(5, .int (iI 0)), (0, .ref m0), (1, .int (iI ((r : Nat) : Int))), (2, .int (iI ((i : Nat) : Int))), (3, .int (iI ((code : Nat) : Int))), (4, .int (iI ((o : Nat) : Int)))]) hx hb dX1_same_1 hl (by decide) rfl (fun ls hl => ?_)
  have lp_3_1 : ∀ (j n : Nat), n + j = 12 → smN (rw_ r a0 a1) (fm (rw_ r a0 a1) code) i o 12 0 = smN (rw_ r a0 a1) (fm (rw_ r a0 a1) code) i o j n → ∀ ls : Array Slot, lv_has ls 6 [(0, .ref m0), (1, .int (iI ((r : Nat) : Int))), (2, .int (iI ((i : Nat) : Int))), (3, .int (iI ((code : Nat) : Int))), (4, .int (iI ((o : Nat) : Int))), (5, .int (iI ((n : Nat) : Int)))] → W P0 l e (headSpec wsX1_same { frames := 2, cells := 0, slots := 0, locals := 48 }).room s m ([.ref m0, .int (iI ((r : Nat) : Int)), .int (iI ((i : Nat) : Int)), .int (iI ((code : Nat) : Int)), .int (iI ((o : Nat) : Int))] : List Value).toArray below meth c s.heap [] 0 0 (MQ below (rdQ (some (.int (iI ((smN (rw_ r a0 a1) (fm (rw_ r a0 a1) code) i o 12 0 : Nat) : Int))))) ([.ref m0, .int (iI ((r : Nat) : Int)), .int (iI ((i : Nat) : Int)), .int (iI ((code : Nat) : Int)), .int (iI ((o : Nat) : Int))] : List Value).toArray s 0 0 (fun _ => False)) (F0 m 3 ls []) := by
    intro j
    induction j with
    | zero =>
      intro n hn_3 hqq ls hl
      refine lv_iload_n hx hb dX1_same_3 rfl (lv_at hl 2 rfl) ?_
      refine lv_iload hx hb dX1_same_4 (lv_at hl 5 rfl) ?_
      refine ib_add (z := ((i + n : Nat) : Int)) hx hb dX1_same_6 (by omega) ?_
      refine ib_bi hx hb dX1_same_7 (by decide) ?_
      refine ib_icmp_ge (tgt := 51) hx hb dX1_same_9 (by decide) ⟨by omega, by omega⟩ ⟨by omega, by omega⟩ (fun c_9 => ?_) (fun c_9 => absurd c_9 (by omega))
      refine lv_iload hx hb dX1_same_51 (lv_at hl 5 rfl) ?_
      refine st_i (y := iI ((smN (rw_ r a0 a1) (fm (rw_ r a0 a1) code) i o 12 0 : Nat) : Int)) (congrArg (fun z : Nat => iI ((z : Nat) : Int)) hqq.symm) ?_
      exact W.iret hx hb hr (fun t ht _ => ⟨rfl, ht⟩) (fun _ h => nomatch h) dX1_same_53
    | succ j ih_3_1 =>
      intro n hn_3 hqq ls hl
      refine lv_iload_n hx hb dX1_same_3 rfl (lv_at hl 2 rfl) ?_
      refine lv_iload hx hb dX1_same_4 (lv_at hl 5 rfl) ?_
      refine ib_add (z := ((i + n : Nat) : Int)) hx hb dX1_same_6 (by omega) ?_
      refine ib_bi hx hb dX1_same_7 (by decide) ?_
      refine ib_icmp_ge (tgt := 51) hx hb dX1_same_9 (by decide) ⟨by omega, by omega⟩ ⟨by omega, by omega⟩ (fun c_9 => ?_) (fun c_9 => ?_)
      · skip
        refine lv_iload hx hb dX1_same_51 (lv_at hl 5 rfl) ?_
        refine st_i (y := iI ((smN (rw_ r a0 a1) (fm (rw_ r a0 a1) code) i o 12 0 : Nat) : Int)) (congrArg (fun z : Nat => iI ((z : Nat) : Int)) (hqq.trans (smN_stop (by omega))).symm) ?_
        exact W.iret hx hb hr (fun t ht _ => ⟨rfl, ht⟩) (fun _ h => nomatch h) dX1_same_53
      · skip
        refine lv_iload hx hb dX1_same_12 (lv_at hl 4 rfl) ?_
        refine lv_iload hx hb dX1_same_14 (lv_at hl 5 rfl) ?_
        refine ib_add (z := ((o + n : Nat) : Int)) hx hb dX1_same_16 (by omega) ?_
        refine ib_bi hx hb dX1_same_17 (by decide) ?_
        refine ib_icmp_ge (tgt := 51) hx hb dX1_same_19 (by decide) ⟨by omega, by omega⟩ ⟨by omega, by omega⟩ (fun c_19 => ?_) (fun c_19 => ?_)
        · skip
          refine lv_iload hx hb dX1_same_51 (lv_at hl 5 rfl) ?_
          refine st_i (y := iI ((smN (rw_ r a0 a1) (fm (rw_ r a0 a1) code) i o 12 0 : Nat) : Int)) (congrArg (fun z : Nat => iI ((z : Nat) : Int)) (hqq.trans (smN_stop (by omega))).symm) ?_
          exact W.iret hx hb hr (fun t ht _ => ⟨rfl, ht⟩) (fun _ h => nomatch h) dX1_same_53
        · skip
          refine lv_aload_n hx hb dX1_same_22 rfl (lv_at hl 0 rfl) ?_
          refine lv_iload_n hx hb dX1_same_23 rfl (lv_at hl 1 rfl) ?_
          refine lv_iload_n hx hb dX1_same_24 rfl (lv_at hl 2 rfl) ?_
          refine lv_iload hx hb dX1_same_25 (lv_at hl 5 rfl) ?_
          refine ib_add (z := ((i + n : Nat) : Int)) hx hb dX1_same_27 (by omega) ?_
          refine rd_call (va_runV (As := [.int (iI ((r : Nat) : Int)), .int (iI ((i + n : Nat) : Int))]) (rest := []) ⟨hx, hb, hml, hown, hts⟩ (mX1_at l dC dI cI m0 t0 k0 p0 a0 a1 K q th w h0 h1 hw hq r (i + n) (by omega) (by omega)) (cwV 2 hts gX1_same_X1_at rfl rfl rfl hvX1_at ⟨Nat.le_of_ble_eq_true rfl, Nat.le_of_ble_eq_true rfl⟩) (bW_pre (ci := 1) (q0 := 0) hK hP rfl rfl rfl) rfl rfl hl.1 rfl (lv_room (Nat.le_of_ble_eq_true rfl)) dX1_same_28 ⟨Nat.le_of_ble_eq_true rfl, Nat.le_of_ble_eq_true rfl⟩) ?_
          have hr_28 := rw_lt h0 h1 r (i := i + n) (by omega)
          refine lv_aload_n hx hb dX1_same_31 rfl (lv_at hl 0 rfl) ?_
          refine lv_iload_n hx hb dX1_same_32 rfl (lv_at hl 1 rfl) ?_
          refine lv_iload_n hx hb dX1_same_33 rfl (lv_at hl 3 rfl) ?_
          refine lv_iload hx hb dX1_same_34 (lv_at hl 4 rfl) ?_
          refine lv_iload hx hb dX1_same_36 (lv_at hl 5 rfl) ?_
          refine ib_add (z := ((o + n : Nat) : Int)) hx hb dX1_same_38 (by omega) ?_
          refine rd_call (va_runV (As := [.int (iI ((r : Nat) : Int)), .int (iI ((code : Nat) : Int)), .int (iI ((o + n : Nat) : Int))]) (rest := [.int (iI ((rw_ r a0 a1 (i + n) : Nat) : Int))]) ⟨hx, hb, hml, hown, hts⟩ (mX1_formAt l dC dI cI m0 t0 k0 p0 a0 a1 K q th w h0 h1 hw hq r code (o + n) (by omega) (by omega) (by omega)) (cwV 3 hts gX1_same_X1_formAt rfl rfl rfl hvX1_formAt ⟨Nat.le_of_ble_eq_true rfl, Nat.le_of_ble_eq_true rfl⟩) (bW_pre (ci := 1) (q0 := 0) hK hP rfl rfl rfl) rfl rfl hl.1 rfl (lv_room (Nat.le_of_ble_eq_true rfl)) dX1_same_39 ⟨Nat.le_of_ble_eq_true rfl, Nat.le_of_ble_eq_true rfl⟩) ?_
          have hf_39 := fm_lt (rw_ r a0 a1) code (o + n)
          refine ib_icmp_ne (tgt := 51) hx hb dX1_same_42 (by decide) ⟨by omega, by omega⟩ ⟨by omega, by omega⟩ (fun c_42 => ?_) (fun c_42 => ?_)
          · skip
            refine lv_iload hx hb dX1_same_51 (lv_at hl 5 rfl) ?_
            refine st_i (y := iI ((smN (rw_ r a0 a1) (fm (rw_ r a0 a1) code) i o 12 0 : Nat) : Int)) (congrArg (fun z : Nat => iI ((z : Nat) : Int)) (hqq.trans (smN_stop (by omega))).symm) ?_
            exact W.iret hx hb hr (fun t ht _ => ⟨rfl, ht⟩) (fun _ h => nomatch h) dX1_same_53
          · skip
            refine lv_iinc (v := iI ((n + 1 : Nat) : Int)) (lv' := [(5, .int (iI ((n + 1 : Nat) : Int))), (0, .ref m0), (1, .int (iI ((r : Nat) : Int))), (2, .int (iI ((i : Nat) : Int))), (3, .int (iI ((code : Nat) : Int))), (4, .int (iI ((o : Nat) : Int)))]) hx hb dX1_same_45 hl (k := 5) rfl (iI_inc (by omega)) (by decide) rfl (fun ls hl => ?_)
            refine lv_goto (tgt := 3) hx hb dX1_same_48 (by decide) ?_
            exact ih_3_1 (n + 1) (by omega) (hqq.trans (smN_go (by omega))) _ (lv_sub hl [1, 2, 3, 4, 5, 0] rfl)
  exact lp_3_1 12 0 (by omega) (rfl) _ (lv_sub hl [1, 2, 3, 4, 5, 0] rfl)

set_option maxHeartbeats 4000000 in
set_option maxRecDepth 100000 in
theorem mX1_isWritten (l : Launch) (dC : Nat → ClassId) (dI : Nat → Nat → Nat) (cI : ClassId) (m0 t0 k0 p0 : Nat) (a0 a1 K q : Nat → Nat) (th : Int32) (w : Nat) (h0 : lt12 a0) (h1 : lt12 a1) (hw : w ≤ 12) (hq : ∀ i, i < w → q i < 12) (t : Nat) (ht : t < 12) : rd l yX1_isWritten wsX1_isWritten { frames := 0, cells := 0, slots := 0, locals := 0 } [.ref m0, .int (iI ((t : Nat) : Int))] (bW (dC, dI) [(m0, .inr (1, [.int th, .ref t0, .ref k0, .ref p0, .int (iI ((w : Nat) : Int))])), (t0, .inl (cI, 24, .inl (fun j => iI ((tb a0 a1 j : Nat) : Int)))), (k0, .inl (cI, 12, .inl (fun j => iI ((K j : Nat) : Int)))), (p0, .inl (cI, 12, .inl (fun j => iI ((q j : Nat) : Int))))] [(cI, .int)]) (some (.int (iI (bI (orN (wtB q t) w = true))))) := by
  refine Met.ofW (cc := cX1_isWritten) (maxL := 4) (ret := (some .boolean)) (by decide) rfl ?_
  intro P0 e s m args below meth c s₁ B hml hv
  obtain ⟨rfl, hP, hK⟩ := hv
  have hx := B.exec
  have hb := B.bytes
  have hr := B.returns
  have hts := atoms_spec (ws := wsX1_isWritten) B.pre
  have hown : s.vm.findClass RX1 = some m.cls := findClass_of_methodNamed B.named
  have hlocks := B.notSynchronized
  have hinX : ∀ w ∈ u_ws RX1 TX1 5, w ∈ wsX1_isWritten := by decide +kernel
  have hl := lv_entry ([.ref m0, .int (iI ((t : Nat) : Int))]) (n := 4) (Nat.le_of_ble_eq_true rfl)
  rw [lg_entry_eq]
  generalize (lg_sl ([.ref m0, .int (iI ((t : Nat) : Int))]) ++ List.replicate (4 - (lg_sl ([.ref m0, .int (iI ((t : Nat) : Int))])).length) Slot.unset).toArray = ls at hl ⊢
  have hl : lv_has ls 4 [(0, .ref m0), (1, .int (iI ((t : Nat) : Int)))] := hl
  refine ib_const hx hb dX1_isWritten_0 ?_
  refine lv_istore_n (lv' := [(2, .int (iI 0)), (0, .ref m0), (1, .int (iI ((t : Nat) : Int)))]) hx hb dX1_isWritten_1 rfl hl (by decide) rfl (fun ls hl => ?_)
  have hl : lv_has ls 4 [(2, .int (iI (bI (orN (wtB q t) 0 = true)))), (0, .ref m0), (1, .int (iI ((t : Nat) : Int)))] := by
    have e9 : iI 0 = iI (bI (orN (wtB q t) 0 = true)) := congrArg iI (bI_f (by simp [orN])).symm
    rw [← e9]; exact hl
  refine ib_const hx hb dX1_isWritten_2 ?_
  refine lv_istore_n (lv' := [(3, .int (iI 0)), (2, .int (iI (bI (orN (wtB q t) 0 = true)))), (0, .ref m0), (1, .int (iI ((t : Nat) : Int)))]) hx hb dX1_isWritten_3 rfl hl (by decide) rfl (fun ls hl => ?_)
  have lp_4_1 : ∀ (j n : Nat), n + j = w → ∀ ls : Array Slot, lv_has ls 4 [(0, .ref m0), (1, .int (iI ((t : Nat) : Int))), (2, .int (iI (bI (orN (wtB q t) n = true)))), (3, .int (iI ((n : Nat) : Int)))] → W P0 l e (headSpec wsX1_isWritten { frames := 0, cells := 0, slots := 0, locals := 0 }).room s m ([.ref m0, .int (iI ((t : Nat) : Int))] : List Value).toArray below meth c s.heap [] 0 0 (MQ below (rdQ (some (.int (iI (bI (orN (wtB q t) w = true)))))) ([.ref m0, .int (iI ((t : Nat) : Int))] : List Value).toArray s 0 0 (fun _ => False)) (F0 m 4 ls []) := by
    intro j
    induction j with
    | zero =>
      intro n hn_4  ls hl
      refine lv_iload_n hx hb dX1_isWritten_4 rfl (lv_at hl 3 rfl) ?_
      refine lv_aload_n hx hb dX1_isWritten_5 rfl (lv_at hl 0 rfl) ?_
      refine va_get (D := (dC, dI)) (ci := 1) (v := .int (iI ((w : Nat) : Int))) (C := RX1) (T := TX1) (N := 5) hx hb hts hinX hown hK hP 0 rfl rfl 4 (by decide) (hts (.fieldLink RX1 88 "ToneRowsModel" "written" "I") (by decide +kernel)) (fun _ h9 => h9) rfl dX1_isWritten_6 ?_
      refine ib_icmp_ge (tgt := 38) hx hb dX1_isWritten_9 (by decide) ⟨by omega, by omega⟩ ⟨by omega, by omega⟩ (fun c_9 => ?_) (fun c_9 => absurd c_9 (by omega))
      refine lv_iload_n hx hb dX1_isWritten_38 rfl (lv_at hl 2 rfl) ?_
      refine st_i (y := iI (bI (orN (wtB q t) w = true))) (congrArg iI (bI_eq (by rw [show n = w by omega]))) ?_
      exact W.zret hx hb hr (bI_nar _) (fun t ht _ => ⟨rfl, ht⟩) (fun _ h => nomatch h) dX1_isWritten_39
    | succ j ih_4_1 =>
      intro n hn_4  ls hl
      refine lv_iload_n hx hb dX1_isWritten_4 rfl (lv_at hl 3 rfl) ?_
      refine lv_aload_n hx hb dX1_isWritten_5 rfl (lv_at hl 0 rfl) ?_
      refine va_get (D := (dC, dI)) (ci := 1) (v := .int (iI ((w : Nat) : Int))) (C := RX1) (T := TX1) (N := 5) hx hb hts hinX hown hK hP 0 rfl rfl 4 (by decide) (hts (.fieldLink RX1 88 "ToneRowsModel" "written" "I") (by decide +kernel)) (fun _ h9 => h9) rfl dX1_isWritten_6 ?_
      refine ib_icmp_ge (tgt := 38) hx hb dX1_isWritten_9 (by decide) ⟨by omega, by omega⟩ ⟨by omega, by omega⟩ (fun c_9 => absurd c_9 (by omega)) (fun c_9 => ?_)
      refine lv_iload_n hx hb dX1_isWritten_12 rfl (lv_at hl 2 rfl) ?_
      refine bb_ne (tgt := 26) hx hb dX1_isWritten_13 (by decide) (fun c_13 => ?_) (fun c_13 => ?_)
      · skip
        refine ib_const hx hb dX1_isWritten_26 ?_
        refine lv_goto (tgt := 31) hx hb dX1_isWritten_27 (by decide) ?_
        refine lv_istore_n (lv' := [(2, .int (iI 1)), (0, .ref m0), (1, .int (iI ((t : Nat) : Int))), (3, .int (iI ((n : Nat) : Int)))]) hx hb dX1_isWritten_31 rfl hl (by decide) rfl (fun ls hl => ?_)
        refine lv_iinc (v := iI ((n + 1 : Nat) : Int)) (lv' := [(3, .int (iI ((n + 1 : Nat) : Int))), (2, .int (iI 1)), (0, .ref m0), (1, .int (iI ((t : Nat) : Int)))]) hx hb dX1_isWritten_32 hl (k := 3) rfl (iI_inc (by omega)) (by decide) rfl (fun ls hl => ?_)
        refine lv_goto (tgt := 4) hx hb dX1_isWritten_35 (by decide) ?_
        have hl : lv_has ls 4 [(3, .int (iI ((n + 1 : Nat) : Int))), (2, .int (iI (bI (orN (wtB q t) (n + 1) = true)))), (0, .ref m0), (1, .int (iI ((t : Nat) : Int)))] := by
          have e9 : iI 1 = iI (bI (orN (wtB q t) (n + 1) = true)) := or_1 c_13
          rw [← e9]; exact hl
        exact ih_4_1 (n + 1) (by omega)  _ (lv_sub hl [2, 3, 1, 0] rfl)
      · skip
        refine lv_aload_n hx hb dX1_isWritten_16 rfl (lv_at hl 0 rfl) ?_
        refine va_get (D := (dC, dI)) (ci := 1) (v := .ref p0) (C := RX1) (T := TX1) (N := 5) hx hb hts hinX hown hK hP 0 rfl rfl 3 (by decide) (hts (.fieldLink RX1 16 "ToneRowsModel" "phrase" "[I") (by decide +kernel)) (fun _ h9 => h9) rfl dX1_isWritten_17 ?_
        refine lv_iload_n hx hb dX1_isWritten_20 rfl (lv_at hl 3 rfl) ?_
        have hqn := hq n (by omega)
        refine ib_ald (f := fun j => iI ((q j : Nat) : Int)) (i := n) (v := iI ((q n : Nat) : Int)) hx hb hK hP 3 0 rfl rfl (by first | rfl | omega) (by omega) (by omega) rfl dX1_isWritten_21 ?_
        refine lv_iload_n hx hb dX1_isWritten_22 rfl (lv_at hl 1 rfl) ?_
        refine ib_icmp_ne (tgt := 30) hx hb dX1_isWritten_23 (by decide) ⟨by omega, by omega⟩ ⟨by omega, by omega⟩ (fun c_23 => ?_) (fun c_23 => ?_)
        · skip
          refine ib_const hx hb dX1_isWritten_30 ?_
          refine lv_istore_n (lv' := [(2, .int (iI 0)), (0, .ref m0), (1, .int (iI ((t : Nat) : Int))), (3, .int (iI ((n : Nat) : Int)))]) hx hb dX1_isWritten_31 rfl hl (by decide) rfl (fun ls hl => ?_)
          refine lv_iinc (v := iI ((n + 1 : Nat) : Int)) (lv' := [(3, .int (iI ((n + 1 : Nat) : Int))), (2, .int (iI 0)), (0, .ref m0), (1, .int (iI ((t : Nat) : Int)))]) hx hb dX1_isWritten_32 hl (k := 3) rfl (iI_inc (by omega)) (by decide) rfl (fun ls hl => ?_)
          refine lv_goto (tgt := 4) hx hb dX1_isWritten_35 (by decide) ?_
          have hl : lv_has ls 4 [(3, .int (iI ((n + 1 : Nat) : Int))), (2, .int (iI (bI (orN (wtB q t) (n + 1) = true)))), (0, .ref m0), (1, .int (iI ((t : Nat) : Int)))] := by
            have e9 : iI 0 = iI (bI (orN (wtB q t) (n + 1) = true)) := or_0 c_13 (decide_eq_false (by omega))
            rw [← e9]; exact hl
          exact ih_4_1 (n + 1) (by omega)  _ (lv_sub hl [2, 3, 1, 0] rfl)
        · skip
          refine ib_const hx hb dX1_isWritten_26 ?_
          refine lv_goto (tgt := 31) hx hb dX1_isWritten_27 (by decide) ?_
          refine lv_istore_n (lv' := [(2, .int (iI 1)), (0, .ref m0), (1, .int (iI ((t : Nat) : Int))), (3, .int (iI ((n : Nat) : Int)))]) hx hb dX1_isWritten_31 rfl hl (by decide) rfl (fun ls hl => ?_)
          refine lv_iinc (v := iI ((n + 1 : Nat) : Int)) (lv' := [(3, .int (iI ((n + 1 : Nat) : Int))), (2, .int (iI 1)), (0, .ref m0), (1, .int (iI ((t : Nat) : Int)))]) hx hb dX1_isWritten_32 hl (k := 3) rfl (iI_inc (by omega)) (by decide) rfl (fun ls hl => ?_)
          refine lv_goto (tgt := 4) hx hb dX1_isWritten_35 (by decide) ?_
          have hl : lv_has ls 4 [(3, .int (iI ((n + 1 : Nat) : Int))), (2, .int (iI (bI (orN (wtB q t) (n + 1) = true)))), (0, .ref m0), (1, .int (iI ((t : Nat) : Int)))] := by
            have e9 : iI 1 = iI (bI (orN (wtB q t) (n + 1) = true)) := or_2 (decide_eq_true (by omega))
            rw [← e9]; exact hl
          exact ih_4_1 (n + 1) (by omega)  _ (lv_sub hl [2, 3, 1, 0] rfl)
  exact lp_4_1 w 0 (by omega)  _ (lv_sub hl [2, 3, 1, 0] rfl)

set_option maxHeartbeats 4000000 in
set_option maxRecDepth 100000 in
theorem mX1_placeIn (l : Launch) (dC : Nat → ClassId) (dI : Nat → Nat → Nat) (cI : ClassId) (m0 t0 k0 p0 : Nat) (a0 a1 K q : Nat → Nat) (th : Int32) (w : Nat) (h0 : lt12 a0) (h1 : lt12 a1) (hw : w ≤ 12) (hq : ∀ i, i < w → q i < 12) (r code : Nat) (hr9 : r < 2) (hc : code < 48) : rd l yX1_placeIn wsX1_placeIn { frames := 2, cells := 0, slots := 0, locals := 48 } [.ref m0, .int (iI ((r : Nat) : Int)), .int (iI ((code : Nat) : Int))] (bW (dC, dI) [(m0, .inr (1, [.int th, .ref t0, .ref k0, .ref p0, .int (iI ((w : Nat) : Int))])), (t0, .inl (cI, 24, .inl (fun j => iI ((tb a0 a1 j : Nat) : Int)))), (k0, .inl (cI, 12, .inl (fun j => iI ((K j : Nat) : Int)))), (p0, .inl (cI, 12, .inl (fun j => iI ((q j : Nat) : Int))))] [(cI, .int)]) (some (.int (iI (plF (rw_ r a0 a1) q code w)))) := by
  refine Met.ofW (cc := cX1_placeIn) (maxL := 6) (ret := (some .int)) (by decide) rfl ?_
  intro P0 e s m args below meth c s₁ B hml hv
  obtain ⟨rfl, hP, hK⟩ := hv
  have hx := B.exec
  have hb := B.bytes
  have hr := B.returns
  have hts := atoms_spec (ws := wsX1_placeIn) B.pre
  have hown : s.vm.findClass RX1 = some m.cls := findClass_of_methodNamed B.named
  have hlocks := B.notSynchronized
  have hinX : ∀ w ∈ u_ws RX1 TX1 5, w ∈ wsX1_placeIn := by decide +kernel
  have hl := lv_entry ([.ref m0, .int (iI ((r : Nat) : Int)), .int (iI ((code : Nat) : Int))]) (n := 6) (Nat.le_of_ble_eq_true rfl)
  rw [lg_entry_eq]
  generalize (lg_sl ([.ref m0, .int (iI ((r : Nat) : Int)), .int (iI ((code : Nat) : Int))]) ++ List.replicate (6 - (lg_sl ([.ref m0, .int (iI ((r : Nat) : Int)), .int (iI ((code : Nat) : Int))])).length) Slot.unset).toArray = ls at hl ⊢
  have hl : lv_has ls 6 [(0, .ref m0), (1, .int (iI ((r : Nat) : Int))), (2, .int (iI ((code : Nat) : Int)))] := hl
  refine ib_const hx hb dX1_placeIn_0 ?_
  refine lv_istore_n (lv' := [(3, .int (iI 0)), (0, .ref m0), (1, .int (iI ((r : Nat) : Int))), (2, .int (iI ((code : Nat) : Int)))]) hx hb dX1_placeIn_1 rfl hl (by decide) rfl (fun ls hl => ?_)
  have lp_2_1 : ∀ (j n : Nat), n + j = 13 - w → plF (rw_ r a0 a1) q code w = ff (fun p => alN (phB (rw_ r a0 a1) q code p) w) j n → ∀ ls : Array Slot, lv_has ls 6 [(0, .ref m0), (1, .int (iI ((r : Nat) : Int))), (2, .int (iI ((code : Nat) : Int))), (3, .int (iI ((n : Nat) : Int)))] → W P0 l e (headSpec wsX1_placeIn { frames := 2, cells := 0, slots := 0, locals := 48 }).room s m ([.ref m0, .int (iI ((r : Nat) : Int)), .int (iI ((code : Nat) : Int))] : List Value).toArray below meth c s.heap [] 0 0 (MQ below (rdQ (some (.int (iI (plF (rw_ r a0 a1) q code w))))) ([.ref m0, .int (iI ((r : Nat) : Int)), .int (iI ((code : Nat) : Int))] : List Value).toArray s 0 0 (fun _ => False)) (F0 m 2 ls []) := by
    intro j
    induction j with
    | zero =>
      intro n hn_2 hqq ls hl
      refine lv_iload_n hx hb dX1_placeIn_2 rfl (lv_at hl 3 rfl) ?_
      refine lv_aload_n hx hb dX1_placeIn_3 rfl (lv_at hl 0 rfl) ?_
      refine va_get (D := (dC, dI)) (ci := 1) (v := .int (iI ((w : Nat) : Int))) (C := RX1) (T := TX1) (N := 5) hx hb hts hinX hown hK hP 0 rfl rfl 4 (by decide) (hts (.fieldLink RX1 88 "ToneRowsModel" "written" "I") (by decide +kernel)) (fun _ h9 => h9) rfl dX1_placeIn_4 ?_
      refine ib_add (z := ((n + w : Nat) : Int)) hx hb dX1_placeIn_7 (by omega) ?_
      refine ib_bi hx hb dX1_placeIn_8 (by decide) ?_
      refine ib_icmp_gt (tgt := 79) hx hb dX1_placeIn_10 (by decide) ⟨by omega, by omega⟩ ⟨by omega, by omega⟩ (fun c_10 => ?_) (fun c_10 => absurd c_10 (by omega))
      refine ib_const hx hb dX1_placeIn_79 ?_
      refine st_i (y := iI (plF (rw_ r a0 a1) q code w)) (congrArg iI (by rw [hqq]; rfl)) ?_
      exact W.iret hx hb hr (fun t ht _ => ⟨rfl, ht⟩) (fun _ h => nomatch h) dX1_placeIn_80
    | succ j ih_2_1 =>
      intro n hn_2 hqq ls hl
      refine lv_iload_n hx hb dX1_placeIn_2 rfl (lv_at hl 3 rfl) ?_
      refine lv_aload_n hx hb dX1_placeIn_3 rfl (lv_at hl 0 rfl) ?_
      refine va_get (D := (dC, dI)) (ci := 1) (v := .int (iI ((w : Nat) : Int))) (C := RX1) (T := TX1) (N := 5) hx hb hts hinX hown hK hP 0 rfl rfl 4 (by decide) (hts (.fieldLink RX1 88 "ToneRowsModel" "written" "I") (by decide +kernel)) (fun _ h9 => h9) rfl dX1_placeIn_4 ?_
      refine ib_add (z := ((n + w : Nat) : Int)) hx hb dX1_placeIn_7 (by omega) ?_
      refine ib_bi hx hb dX1_placeIn_8 (by decide) ?_
      refine ib_icmp_gt (tgt := 79) hx hb dX1_placeIn_10 (by decide) ⟨by omega, by omega⟩ ⟨by omega, by omega⟩ (fun c_10 => absurd c_10 (by omega)) (fun c_10 => ?_)
      refine ib_const hx hb dX1_placeIn_13 ?_
      refine lv_istore (lv' := [(4, .int (iI 1)), (0, .ref m0), (1, .int (iI ((r : Nat) : Int))), (2, .int (iI ((code : Nat) : Int))), (3, .int (iI ((n : Nat) : Int)))]) hx hb dX1_placeIn_14 hl (by decide) rfl (fun ls hl => ?_)
      have hl : lv_has ls 6 [(4, .int (iI (bI (alN (phB (rw_ r a0 a1) q code n) 0 = true)))), (0, .ref m0), (1, .int (iI ((r : Nat) : Int))), (2, .int (iI ((code : Nat) : Int))), (3, .int (iI ((n : Nat) : Int)))] := by
        have e9 : iI 1 = iI (bI (alN (phB (rw_ r a0 a1) q code n) 0 = true)) := congrArg iI (bI_t (by simp [alN])).symm
        rw [← e9]; exact hl
      refine ib_const hx hb dX1_placeIn_16 ?_
      refine lv_istore (lv' := [(5, .int (iI 0)), (4, .int (iI (bI (alN (phB (rw_ r a0 a1) q code n) 0 = true)))), (0, .ref m0), (1, .int (iI ((r : Nat) : Int))), (2, .int (iI ((code : Nat) : Int))), (3, .int (iI ((n : Nat) : Int)))]) hx hb dX1_placeIn_17 hl (by decide) rfl (fun ls hl => ?_)
      have lp_19_2 : ∀ (j o : Nat), o + j = w → ∀ ls : Array Slot, lv_has ls 6 [(0, .ref m0), (1, .int (iI ((r : Nat) : Int))), (2, .int (iI ((code : Nat) : Int))), (3, .int (iI ((n : Nat) : Int))), (4, .int (iI (bI (alN (phB (rw_ r a0 a1) q code n) o = true)))), (5, .int (iI ((o : Nat) : Int)))] → W P0 l e (headSpec wsX1_placeIn { frames := 2, cells := 0, slots := 0, locals := 48 }).room s m ([.ref m0, .int (iI ((r : Nat) : Int)), .int (iI ((code : Nat) : Int))] : List Value).toArray below meth c s.heap [] 0 0 (MQ below (rdQ (some (.int (iI (plF (rw_ r a0 a1) q code w))))) ([.ref m0, .int (iI ((r : Nat) : Int)), .int (iI ((code : Nat) : Int))] : List Value).toArray s 0 0 (fun _ => False)) (F0 m 19 ls []) := by
        intro j
        induction j with
        | zero =>
          intro o hn_19  ls hl
          have hno : o = w := by omega
          refine lv_iload hx hb dX1_placeIn_19 (lv_at hl 5 rfl) ?_
          refine lv_aload_n hx hb dX1_placeIn_21 rfl (lv_at hl 0 rfl) ?_
          refine va_get (D := (dC, dI)) (ci := 1) (v := .int (iI ((w : Nat) : Int))) (C := RX1) (T := TX1) (N := 5) hx hb hts hinX hown hK hP 0 rfl rfl 4 (by decide) (hts (.fieldLink RX1 88 "ToneRowsModel" "written" "I") (by decide +kernel)) (fun _ h9 => h9) rfl dX1_placeIn_22 ?_
          refine ib_icmp_ge (tgt := 66) hx hb dX1_placeIn_25 (by decide) ⟨by omega, by omega⟩ ⟨by omega, by omega⟩ (fun c_25 => ?_) (fun c_25 => absurd c_25 (by omega))
          refine lv_iload hx hb dX1_placeIn_66 (lv_at hl 4 rfl) ?_
          refine bb_eq (tgt := 73) hx hb dX1_placeIn_68 (by decide) (fun c_68 => ?_) (fun c_68 => ?_)
          · skip
            refine lv_iinc (v := iI ((n + 1 : Nat) : Int)) (lv' := [(3, .int (iI ((n + 1 : Nat) : Int))), (0, .ref m0), (1, .int (iI ((r : Nat) : Int))), (2, .int (iI ((code : Nat) : Int))), (4, .int (iI (bI (alN (phB (rw_ r a0 a1) q code n) o = true)))), (5, .int (iI ((o : Nat) : Int)))]) hx hb dX1_placeIn_73 hl (k := 3) rfl (iI_inc (by omega)) (by decide) rfl (fun ls hl => ?_)
            refine lv_goto (tgt := 2) hx hb dX1_placeIn_76 (by decide) ?_
            exact ih_2_1 (n + 1) (by omega) (hqq.trans (ff_f (by simpa [hno] using c_68))) _ (lv_sub hl [1, 2, 3, 0] rfl)
          · skip
            refine lv_iload_n hx hb dX1_placeIn_71 rfl (lv_at hl 3 rfl) ?_
            refine st_i (y := iI (plF (rw_ r a0 a1) q code w)) (congrArg iI (hqq.trans (ff_t (by simpa [hno] using c_68))).symm) ?_
            exact W.iret hx hb hr (fun t ht _ => ⟨rfl, ht⟩) (fun _ h => nomatch h) dX1_placeIn_72
        | succ j ih_19_2 =>
          intro o hn_19  ls hl
          refine lv_iload hx hb dX1_placeIn_19 (lv_at hl 5 rfl) ?_
          refine lv_aload_n hx hb dX1_placeIn_21 rfl (lv_at hl 0 rfl) ?_
          refine va_get (D := (dC, dI)) (ci := 1) (v := .int (iI ((w : Nat) : Int))) (C := RX1) (T := TX1) (N := 5) hx hb hts hinX hown hK hP 0 rfl rfl 4 (by decide) (hts (.fieldLink RX1 88 "ToneRowsModel" "written" "I") (by decide +kernel)) (fun _ h9 => h9) rfl dX1_placeIn_22 ?_
          refine ib_icmp_ge (tgt := 66) hx hb dX1_placeIn_25 (by decide) ⟨by omega, by omega⟩ ⟨by omega, by omega⟩ (fun c_25 => absurd c_25 (by omega)) (fun c_25 => ?_)
          refine lv_iload hx hb dX1_placeIn_28 (lv_at hl 4 rfl) ?_
          refine bb_eq (tgt := 57) hx hb dX1_placeIn_30 (by decide) (fun c_30 => ?_) (fun c_30 => ?_)
          · skip
            refine ib_const hx hb dX1_placeIn_57 ?_
            refine lv_istore (lv' := [(4, .int (iI 0)), (0, .ref m0), (1, .int (iI ((r : Nat) : Int))), (2, .int (iI ((code : Nat) : Int))), (3, .int (iI ((n : Nat) : Int))), (5, .int (iI ((o : Nat) : Int)))]) hx hb dX1_placeIn_58 hl (by decide) rfl (fun ls hl => ?_)
            refine lv_iinc (v := iI ((o + 1 : Nat) : Int)) (lv' := [(5, .int (iI ((o + 1 : Nat) : Int))), (4, .int (iI 0)), (0, .ref m0), (1, .int (iI ((r : Nat) : Int))), (2, .int (iI ((code : Nat) : Int))), (3, .int (iI ((n : Nat) : Int)))]) hx hb dX1_placeIn_60 hl (k := 5) rfl (iI_inc (by omega)) (by decide) rfl (fun ls hl => ?_)
            refine lv_goto (tgt := 19) hx hb dX1_placeIn_63 (by decide) ?_
            have hl : lv_has ls 6 [(5, .int (iI ((o + 1 : Nat) : Int))), (4, .int (iI (bI (alN (phB (rw_ r a0 a1) q code n) (o + 1) = true)))), (0, .ref m0), (1, .int (iI ((r : Nat) : Int))), (2, .int (iI ((code : Nat) : Int))), (3, .int (iI ((n : Nat) : Int)))] := by
              have e9 : iI 0 = iI (bI (alN (phB (rw_ r a0 a1) q code n) (o + 1) = true)) := al_0 c_30
              rw [← e9]; exact hl
            exact ih_19_2 (o + 1) (by omega)  _ (lv_sub hl [2, 3, 4, 5, 1, 0] rfl)
          · skip
            refine lv_aload_n hx hb dX1_placeIn_33 rfl (lv_at hl 0 rfl) ?_
            refine lv_iload_n hx hb dX1_placeIn_34 rfl (lv_at hl 1 rfl) ?_
            refine lv_iload_n hx hb dX1_placeIn_35 rfl (lv_at hl 2 rfl) ?_
            refine lv_iload_n hx hb dX1_placeIn_36 rfl (lv_at hl 3 rfl) ?_
            refine lv_iload hx hb dX1_placeIn_37 (lv_at hl 5 rfl) ?_
            refine ib_add (z := ((n + o : Nat) : Int)) hx hb dX1_placeIn_39 (by omega) ?_
            refine rd_call (va_runV (As := [.int (iI ((r : Nat) : Int)), .int (iI ((code : Nat) : Int)), .int (iI ((n + o : Nat) : Int))]) (rest := []) ⟨hx, hb, hml, hown, hts⟩ (mX1_formAt l dC dI cI m0 t0 k0 p0 a0 a1 K q th w h0 h1 hw hq r code (n + o) (by omega) (by omega) (by omega)) (cwV 3 hts gX1_placeIn_X1_formAt rfl rfl rfl hvX1_formAt ⟨Nat.le_of_ble_eq_true rfl, Nat.le_of_ble_eq_true rfl⟩) (bW_pre (ci := 1) (q0 := 0) hK hP rfl rfl rfl) rfl rfl hl.1 rfl (lv_room (Nat.le_of_ble_eq_true rfl)) dX1_placeIn_40 ⟨Nat.le_of_ble_eq_true rfl, Nat.le_of_ble_eq_true rfl⟩) ?_
            have hf_40 := fm_lt (rw_ r a0 a1) code (n + o)
            refine lv_aload_n hx hb dX1_placeIn_43 rfl (lv_at hl 0 rfl) ?_
            refine va_get (D := (dC, dI)) (ci := 1) (v := .ref p0) (C := RX1) (T := TX1) (N := 5) hx hb hts hinX hown hK hP 0 rfl rfl 3 (by decide) (hts (.fieldLink RX1 16 "ToneRowsModel" "phrase" "[I") (by decide +kernel)) (fun _ h9 => h9) rfl dX1_placeIn_44 ?_
            have hqn := hq o (by omega)
            refine lv_iload hx hb dX1_placeIn_47 (lv_at hl 5 rfl) ?_
            refine ib_ald (f := fun j => iI ((q j : Nat) : Int)) (i := o) (v := iI ((q o : Nat) : Int)) hx hb hK hP 3 0 rfl rfl (by first | rfl | omega) (by omega) (by omega) rfl dX1_placeIn_49 ?_
            refine ib_icmp_ne (tgt := 57) hx hb dX1_placeIn_50 (by decide) ⟨by omega, by omega⟩ ⟨by omega, by omega⟩ (fun c_50 => ?_) (fun c_50 => ?_)
            · skip
              refine ib_const hx hb dX1_placeIn_57 ?_
              refine lv_istore (lv' := [(4, .int (iI 0)), (0, .ref m0), (1, .int (iI ((r : Nat) : Int))), (2, .int (iI ((code : Nat) : Int))), (3, .int (iI ((n : Nat) : Int))), (5, .int (iI ((o : Nat) : Int)))]) hx hb dX1_placeIn_58 hl (by decide) rfl (fun ls hl => ?_)
              refine lv_iinc (v := iI ((o + 1 : Nat) : Int)) (lv' := [(5, .int (iI ((o + 1 : Nat) : Int))), (4, .int (iI 0)), (0, .ref m0), (1, .int (iI ((r : Nat) : Int))), (2, .int (iI ((code : Nat) : Int))), (3, .int (iI ((n : Nat) : Int)))]) hx hb dX1_placeIn_60 hl (k := 5) rfl (iI_inc (by omega)) (by decide) rfl (fun ls hl => ?_)
              refine lv_goto (tgt := 19) hx hb dX1_placeIn_63 (by decide) ?_
              have hl : lv_has ls 6 [(5, .int (iI ((o + 1 : Nat) : Int))), (4, .int (iI (bI (alN (phB (rw_ r a0 a1) q code n) (o + 1) = true)))), (0, .ref m0), (1, .int (iI ((r : Nat) : Int))), (2, .int (iI ((code : Nat) : Int))), (3, .int (iI ((n : Nat) : Int)))] := by
                have e9 : iI 0 = iI (bI (alN (phB (rw_ r a0 a1) q code n) (o + 1) = true)) := al_2 (decide_eq_false (by omega))
                rw [← e9]; exact hl
              exact ih_19_2 (o + 1) (by omega)  _ (lv_sub hl [2, 3, 4, 5, 1, 0] rfl)
            · skip
              refine ib_const hx hb dX1_placeIn_53 ?_
              refine lv_goto (tgt := 58) hx hb dX1_placeIn_54 (by decide) ?_
              refine lv_istore (lv' := [(4, .int (iI 1)), (0, .ref m0), (1, .int (iI ((r : Nat) : Int))), (2, .int (iI ((code : Nat) : Int))), (3, .int (iI ((n : Nat) : Int))), (5, .int (iI ((o : Nat) : Int)))]) hx hb dX1_placeIn_58 hl (by decide) rfl (fun ls hl => ?_)
              refine lv_iinc (v := iI ((o + 1 : Nat) : Int)) (lv' := [(5, .int (iI ((o + 1 : Nat) : Int))), (4, .int (iI 1)), (0, .ref m0), (1, .int (iI ((r : Nat) : Int))), (2, .int (iI ((code : Nat) : Int))), (3, .int (iI ((n : Nat) : Int)))]) hx hb dX1_placeIn_60 hl (k := 5) rfl (iI_inc (by omega)) (by decide) rfl (fun ls hl => ?_)
              refine lv_goto (tgt := 19) hx hb dX1_placeIn_63 (by decide) ?_
              have hl : lv_has ls 6 [(5, .int (iI ((o + 1 : Nat) : Int))), (4, .int (iI (bI (alN (phB (rw_ r a0 a1) q code n) (o + 1) = true)))), (0, .ref m0), (1, .int (iI ((r : Nat) : Int))), (2, .int (iI ((code : Nat) : Int))), (3, .int (iI ((n : Nat) : Int)))] := by
                have e9 : iI 1 = iI (bI (alN (phB (rw_ r a0 a1) q code n) (o + 1) = true)) := al_1 c_30 (decide_eq_true (by omega))
                rw [← e9]; exact hl
              exact ih_19_2 (o + 1) (by omega)  _ (lv_sub hl [2, 3, 4, 5, 1, 0] rfl)
      exact lp_19_2 w 0 (by omega)  _ (lv_sub hl [2, 3, 4, 5, 1, 0] rfl)
  exact lp_2_1 (13 - w) 0 (by omega) (rfl) _ (lv_sub hl [1, 2, 3, 0] rfl)
