theorem hdJ9_floorMod_7cf53 : yJ9_floorMod_7cf53.cls ≠ "java/lang/invoke/MethodHandle" ∧ yJ9_floorMod_7cf53.cls ≠ "java/lang/invoke/VarHandle" ∧ (parseMethodDescriptor yJ9_floorMod_7cf53.desc).map (fun d => d.parameters.length) = some 2 := by decide +kernel
theorem hdX0_areNeighbours : yX0_areNeighbours.cls ≠ "java/lang/invoke/MethodHandle" ∧ yX0_areNeighbours.cls ≠ "java/lang/invoke/VarHandle" ∧ (parseMethodDescriptor yX0_areNeighbours.desc).map (fun d => d.parameters.length) = some 3 := by decide +kernel
theorem hdX0_entryAt : yX0_entryAt.cls ≠ "java/lang/invoke/MethodHandle" ∧ yX0_entryAt.cls ≠ "java/lang/invoke/VarHandle" ∧ (parseMethodDescriptor yX0_entryAt.desc).map (fun d => d.parameters.length) = some 2 := by decide +kernel
theorem hdX0_inverted : yX0_inverted.cls ≠ "java/lang/invoke/MethodHandle" ∧ yX0_inverted.cls ≠ "java/lang/invoke/VarHandle" ∧ (parseMethodDescriptor yX0_inverted.desc).map (fun d => d.parameters.length) = some 1 := by decide +kernel
theorem hdX0_placeIn : yX0_placeIn.cls ≠ "java/lang/invoke/MethodHandle" ∧ yX0_placeIn.cls ≠ "java/lang/invoke/VarHandle" ∧ (parseMethodDescriptor yX0_placeIn.desc).map (fun d => d.parameters.length) = some 2 := by decide +kernel
theorem hdX0_placesOf : yX0_placesOf.cls ≠ "java/lang/invoke/MethodHandle" ∧ yX0_placesOf.cls ≠ "java/lang/invoke/VarHandle" ∧ (parseMethodDescriptor yX0_placesOf.desc).map (fun d => d.parameters.length) = some 2 := by decide +kernel
theorem hdX0_requireRange : yX0_requireRange.cls ≠ "java/lang/invoke/MethodHandle" ∧ yX0_requireRange.cls ≠ "java/lang/invoke/VarHandle" ∧ (parseMethodDescriptor yX0_requireRange.desc).map (fun d => d.parameters.length) = some 3 := by decide +kernel
theorem hdX0_transposed : yX0_transposed.cls ≠ "java/lang/invoke/MethodHandle" ∧ yX0_transposed.cls ≠ "java/lang/invoke/VarHandle" ∧ (parseMethodDescriptor yX0_transposed.desc).map (fun d => d.parameters.length) = some 2 := by decide +kernel
theorem hdX0_withEntry : yX0_withEntry.cls ≠ "java/lang/invoke/MethodHandle" ∧ yX0_withEntry.cls ≠ "java/lang/invoke/VarHandle" ∧ (parseMethodDescriptor yX0_withEntry.desc).map (fun d => d.parameters.length) = some 3 := by decide +kernel
theorem hdX0_wrap : yX0_wrap.cls ≠ "java/lang/invoke/MethodHandle" ∧ yX0_wrap.cls ≠ "java/lang/invoke/VarHandle" ∧ (parseMethodDescriptor yX0_wrap.desc).map (fun d => d.parameters.length) = some 1 := by decide +kernel
set_option maxHeartbeats 4000000 in
set_option maxRecDepth 100000 in
theorem mJ9_floorMod_7cf53 (l : Launch) (v : Int) (h : inI v) : rd l yJ9_floorMod_7cf53 wsJ9_floorMod_7cf53 { frames := 0, cells := 0, slots := 0, locals := 0 } [.int (iI v), .int (iI 12)] tt_ (some (.int (iI ((md v : Nat) : Int)))) := by
  refine mt_ofWF (cc := cJ9_floorMod_7cf53) (maxL := 3) (ret := (some .int)) (by decide +kernel) rfl ?_
  intro P0 e s m args below meth c s₁ B hml hv
  obtain ⟨rfl, -⟩ := hv
  have hx := B.exec
  have hb := B.bytes
  have hr := B.returns
  have hts := atoms_spec (ws := wsJ9_floorMod_7cf53) B.pre
  have hown : s.vm.findClass RJ9 = some m.cls := findClass_of_methodNamed B.named
  have hlocks := B.notSynchronized
  have hl := lv_entry ([.int (iI v), .int (iI 12)]) (n := 3) (Nat.le_of_ble_eq_true rfl)
  rw [lg_entry_eq]
  generalize (lg_sl ([.int (iI v), .int (iI 12)]) ++ List.replicate (3 - (lg_sl ([.int (iI v), .int (iI 12)])).length) Slot.unset).toArray = ls at hl ⊢
  have hl : lv_has ls 3 [(0, .int (iI v)), (1, .int (iI 12))] := hl
  have ht := tm_spec v
  have hxr := xr_spec h
  have hmd := md_eq v
  refine lv_iload_n hx hb dJ9_floorMod_7cf53_0 rfl (lv_at hl 0 rfl) ?_
  refine lv_iload_n hx hb dJ9_floorMod_7cf53_1 rfl (lv_at hl 1 rfl) ?_
  refine ib_remt (z := tm v) hx hb dJ9_floorMod_7cf53_2 ⟨by omega, by omega⟩ (by omega) (by omega) rfl ?_
  refine lv_istore_n (lv' := [(2, .int (iI (tm v))), (0, .int (iI v)), (1, .int (iI 12))]) hx hb dJ9_floorMod_7cf53_3 rfl hl (by decide) rfl (fun ls hl => ?_)
  refine lv_iload_n hx hb dJ9_floorMod_7cf53_4 rfl (lv_at hl 1 rfl) ?_
  refine lv_iload_n hx hb dJ9_floorMod_7cf53_5 rfl (lv_at hl 2 rfl) ?_
  refine lv_ixor hx hb dJ9_floorMod_7cf53_6 ?_
  refine st_i (y := iI (xr v)) ((iI_of _).symm) ?_
  refine ib_if_ge (tgt := 18) hx hb dJ9_floorMod_7cf53_7 (by decide) ⟨by omega, by omega⟩ (fun c_7 => ?_) (fun c_7 => ?_)
  · skip
    refine lv_iload_n hx hb dJ9_floorMod_7cf53_18 rfl (lv_at hl 0 rfl) ?_
    refine st_i (y := iI ((md v : Nat) : Int)) (congrArg iI (by rw [md_eq]; omega)) ?_
    exact W.iret hx hb hr (fun t ht _ => ⟨rfl, ht⟩) (fun _ h => nomatch h) dJ9_floorMod_7cf53_19
  · skip
    refine lv_iload_n hx hb dJ9_floorMod_7cf53_10 rfl (lv_at hl 0 rfl) ?_
    refine ib_if_eq (tgt := 18) hx hb dJ9_floorMod_7cf53_11 (by decide) ⟨by omega, by omega⟩ (fun c_11 => ?_) (fun c_11 => ?_)
    · skip
      refine lv_iload_n hx hb dJ9_floorMod_7cf53_18 rfl (lv_at hl 0 rfl) ?_
      refine st_i (y := iI ((md v : Nat) : Int)) (congrArg iI (by rw [md_eq]; omega)) ?_
      exact W.iret hx hb hr (fun t ht _ => ⟨rfl, ht⟩) (fun _ h => nomatch h) dJ9_floorMod_7cf53_19
    · skip
      refine lv_iload_n hx hb dJ9_floorMod_7cf53_14 rfl (lv_at hl 0 rfl) ?_
      refine lv_iload_n hx hb dJ9_floorMod_7cf53_15 rfl (lv_at hl 2 rfl) ?_
      refine ib_add (z := (tm v) + 12) hx hb dJ9_floorMod_7cf53_16 (by omega) ?_
      refine st_i (y := iI ((md v : Nat) : Int)) (congrArg iI (by rw [md_eq]; omega)) ?_
      exact W.iret hx hb hr (fun t ht _ => ⟨rfl, ht⟩) (fun _ h => nomatch h) dJ9_floorMod_7cf53_17

set_option maxHeartbeats 4000000 in
set_option maxRecDepth 100000 in
theorem mJ6_bitCount_0f7a4 (l : Launch) (sv : Nat) (h : sv < 4096) : rd l yJ6_bitCount_0f7a4 wsJ6_bitCount_0f7a4 { frames := 0, cells := 0, slots := 0, locals := 0 } [.int (iI ((sv : Nat) : Int))] tt_ (some (.int (iI ((popN sv : Nat) : Int)))) := by
  refine Met.ofW (cc := cJ6_bitCount_0f7a4) (maxL := 1) (ret := (some .int)) (by decide) rfl ?_
  intro P0 e s m args below meth c s₁ B hml hv
  obtain ⟨rfl, -⟩ := hv
  have hx := B.exec
  have hb := B.bytes
  have hr := B.returns
  have hts := atoms_spec (ws := wsJ6_bitCount_0f7a4) B.pre
  have hown : s.vm.findClass RJ6 = some m.cls := findClass_of_methodNamed B.named
  have hlocks := B.notSynchronized
  have hl := lv_entry ([.int (iI ((sv : Nat) : Int))]) (n := 1) (Nat.le_of_ble_eq_true rfl)
  rw [lg_entry_eq]
  generalize (lg_sl ([.int (iI ((sv : Nat) : Int))]) ++ List.replicate (1 - (lg_sl ([.int (iI ((sv : Nat) : Int))])).length) Slot.unset).toArray = ls at hl ⊢
  have hl : lv_has ls 1 [(0, .int (iI ((sv : Nat) : Int)))] := hl
  refine lv_iload_n hx hb dJ6_bitCount_0f7a4_0 rfl (lv_at hl 0 rfl) ?_
  refine lv_iload_n hx hb dJ6_bitCount_0f7a4_1 rfl (lv_at hl 0 rfl) ?_
  refine ib_const hx hb dJ6_bitCount_0f7a4_2 ?_
  refine lv_iushr hx hb dJ6_bitCount_0f7a4_3 rfl ?_
  refine lv_ldcw (v := 1431655765) hx hb hown (hts (.constant RJ6 265 (1431655765)) (by decide +kernel)) dJ6_bitCount_0f7a4_4 ?_
  refine lv_iand hx hb dJ6_bitCount_0f7a4_7 ?_
  refine lv_isub hx hb dJ6_bitCount_0f7a4_8 ?_
  refine st_i (y := bc1 (iI ((sv : Nat) : Int))) (rfl) ?_
  refine lv_istore_n (lv' := [(0, .int (bc1 (iI ((sv : Nat) : Int))))]) hx hb dJ6_bitCount_0f7a4_9 rfl hl (by decide) rfl (fun ls hl => ?_)
  refine lv_iload_n hx hb dJ6_bitCount_0f7a4_10 rfl (lv_at hl 0 rfl) ?_
  refine lv_ldcw (v := 858993459) hx hb hown (hts (.constant RJ6 266 (858993459)) (by decide +kernel)) dJ6_bitCount_0f7a4_11 ?_
  refine lv_iand hx hb dJ6_bitCount_0f7a4_14 ?_
  refine lv_iload_n hx hb dJ6_bitCount_0f7a4_15 rfl (lv_at hl 0 rfl) ?_
  refine ib_const hx hb dJ6_bitCount_0f7a4_16 ?_
  refine lv_iushr hx hb dJ6_bitCount_0f7a4_17 rfl ?_
  refine lv_ldcw (v := 858993459) hx hb hown (hts (.constant RJ6 266 (858993459)) (by decide +kernel)) dJ6_bitCount_0f7a4_18 ?_
  refine lv_iand hx hb dJ6_bitCount_0f7a4_21 ?_
  refine lv_iadd hx hb dJ6_bitCount_0f7a4_22 ?_
  refine st_i (y := bc2 (iI ((sv : Nat) : Int))) (rfl) ?_
  refine lv_istore_n (lv' := [(0, .int (bc2 (iI ((sv : Nat) : Int))))]) hx hb dJ6_bitCount_0f7a4_23 rfl hl (by decide) rfl (fun ls hl => ?_)
  refine lv_iload_n hx hb dJ6_bitCount_0f7a4_24 rfl (lv_at hl 0 rfl) ?_
  refine lv_iload_n hx hb dJ6_bitCount_0f7a4_25 rfl (lv_at hl 0 rfl) ?_
  refine ib_const hx hb dJ6_bitCount_0f7a4_26 ?_
  refine lv_iushr hx hb dJ6_bitCount_0f7a4_27 rfl ?_
  refine lv_iadd hx hb dJ6_bitCount_0f7a4_28 ?_
  refine lv_ldcw (v := 252645135) hx hb hown (hts (.constant RJ6 267 (252645135)) (by decide +kernel)) dJ6_bitCount_0f7a4_29 ?_
  refine lv_iand hx hb dJ6_bitCount_0f7a4_32 ?_
  refine st_i (y := bc3 (iI ((sv : Nat) : Int))) (rfl) ?_
  refine lv_istore_n (lv' := [(0, .int (bc3 (iI ((sv : Nat) : Int))))]) hx hb dJ6_bitCount_0f7a4_33 rfl hl (by decide) rfl (fun ls hl => ?_)
  refine lv_iload_n hx hb dJ6_bitCount_0f7a4_34 rfl (lv_at hl 0 rfl) ?_
  refine lv_iload_n hx hb dJ6_bitCount_0f7a4_35 rfl (lv_at hl 0 rfl) ?_
  refine ib_bi hx hb dJ6_bitCount_0f7a4_36 (by decide) ?_
  refine lv_iushr hx hb dJ6_bitCount_0f7a4_38 rfl ?_
  refine lv_iadd hx hb dJ6_bitCount_0f7a4_39 ?_
  refine st_i (y := bc4 (iI ((sv : Nat) : Int))) (rfl) ?_
  refine lv_istore_n (lv' := [(0, .int (bc4 (iI ((sv : Nat) : Int))))]) hx hb dJ6_bitCount_0f7a4_40 rfl hl (by decide) rfl (fun ls hl => ?_)
  refine lv_iload_n hx hb dJ6_bitCount_0f7a4_41 rfl (lv_at hl 0 rfl) ?_
  refine lv_iload_n hx hb dJ6_bitCount_0f7a4_42 rfl (lv_at hl 0 rfl) ?_
  refine ib_bi hx hb dJ6_bitCount_0f7a4_43 (by decide) ?_
  refine lv_iushr hx hb dJ6_bitCount_0f7a4_45 rfl ?_
  refine lv_iadd hx hb dJ6_bitCount_0f7a4_46 ?_
  refine st_i (y := bc5 (iI ((sv : Nat) : Int))) (rfl) ?_
  refine lv_istore_n (lv' := [(0, .int (bc5 (iI ((sv : Nat) : Int))))]) hx hb dJ6_bitCount_0f7a4_47 rfl hl (by decide) rfl (fun ls hl => ?_)
  refine lv_iload_n hx hb dJ6_bitCount_0f7a4_48 rfl (lv_at hl 0 rfl) ?_
  refine ib_bi hx hb dJ6_bitCount_0f7a4_49 (by decide) ?_
  refine lv_iand hx hb dJ6_bitCount_0f7a4_51 ?_
  refine st_i (y := iI ((popN sv : Nat) : Int)) (bc_all sv h) ?_
  exact W.iret hx hb hr (fun t ht _ => ⟨rfl, ht⟩) (fun _ h => nomatch h) dJ6_bitCount_0f7a4_52

set_option maxHeartbeats 4000000 in
set_option maxRecDepth 100000 in
theorem mX0_entryAt (l : Launch) (x : Int64) (i : Nat) (h : i < 16) : rd l yX0_entryAt wsX0_entryAt { frames := 0, cells := 0, slots := 0, locals := 0 } [.long x, .int (iI ((i : Nat) : Int))] tt_ (some (.int (iI ((ent x i : Nat) : Int)))) := by
  refine Met.ofW (cc := cX0_entryAt) (maxL := 3) (ret := (some .int)) (by decide) rfl ?_
  intro P0 e s m args below meth c s₁ B hml hv
  obtain ⟨rfl, -⟩ := hv
  have hx := B.exec
  have hb := B.bytes
  have hr := B.returns
  have hts := atoms_spec (ws := wsX0_entryAt) B.pre
  have hown : s.vm.findClass RX0 = some m.cls := findClass_of_methodNamed B.named
  have hlocks := B.notSynchronized
  have hl := lv_entry ([.long x, .int (iI ((i : Nat) : Int))]) (n := 3) (Nat.le_of_ble_eq_true rfl)
  rw [lg_entry_eq]
  generalize (lg_sl ([.long x, .int (iI ((i : Nat) : Int))]) ++ List.replicate (3 - (lg_sl ([.long x, .int (iI ((i : Nat) : Int))])).length) Slot.unset).toArray = ls at hl ⊢
  have hl : lv_has ls 3 [(0, .long x), (2, .int (iI ((i : Nat) : Int)))] := hl
  refine lv_lload_n hx hb dX0_entryAt_0 rfl (lv_at hl 0 rfl) ?_
  refine ib_const hx hb dX0_entryAt_1 ?_
  refine lv_iload_n hx hb dX0_entryAt_2 rfl (lv_at hl 1 rfl) ?_
  refine ib_mul (z := ((4 * i : Nat) : Int)) hx hb dX0_entryAt_3 (by first | omega | rfl | (push_cast; rfl)) ?_
  refine lv_lushr hx hb dX0_entryAt_4 rfl ?_
  refine lv_ldc2 (v := 15) hx hb hown (hts (.constantLong RX0 143 (15)) (by decide +kernel)) dX0_entryAt_5 ?_
  refine lv_land hx hb dX0_entryAt_8 ?_
  refine lv_l2i hx hb dX0_entryAt_9 rfl ?_
  refine st_i (y := iI ((ent x i : Nat) : Int)) (ent_raw x h) ?_
  exact W.iret hx hb hr (fun t ht _ => ⟨rfl, ht⟩) (fun _ h => nomatch h) dX0_entryAt_10

set_option maxHeartbeats 4000000 in
set_option maxRecDepth 100000 in
theorem mX0_withEntry (l : Launch) (x : Int64) (i t : Nat) (h : i < 16) : rd l yX0_withEntry wsX0_withEntry { frames := 0, cells := 0, slots := 0, locals := 0 } [.long x, .int (iI ((i : Nat) : Int)), .int (iI ((t : Nat) : Int))] tt_ (some (.long (we x i t))) := by
  refine Met.ofW (cc := cX0_withEntry) (maxL := 5) (ret := (some .long)) (by decide) rfl ?_
  intro P0 e s m args below meth c s₁ B hml hv
  obtain ⟨rfl, -⟩ := hv
  have hx := B.exec
  have hb := B.bytes
  have hr := B.returns
  have hts := atoms_spec (ws := wsX0_withEntry) B.pre
  have hown : s.vm.findClass RX0 = some m.cls := findClass_of_methodNamed B.named
  have hlocks := B.notSynchronized
  have hl := lv_entry ([.long x, .int (iI ((i : Nat) : Int)), .int (iI ((t : Nat) : Int))]) (n := 5) (Nat.le_of_ble_eq_true rfl)
  rw [lg_entry_eq]
  generalize (lg_sl ([.long x, .int (iI ((i : Nat) : Int)), .int (iI ((t : Nat) : Int))]) ++ List.replicate (5 - (lg_sl ([.long x, .int (iI ((i : Nat) : Int)), .int (iI ((t : Nat) : Int))])).length) Slot.unset).toArray = ls at hl ⊢
  have hl : lv_has ls 5 [(0, .long x), (2, .int (iI ((i : Nat) : Int))), (3, .int (iI ((t : Nat) : Int)))] := hl
  refine ib_const hx hb dX0_withEntry_0 ?_
  refine lv_iload_n hx hb dX0_withEntry_1 rfl (lv_at hl 1 rfl) ?_
  refine ib_mul (z := ((4 * i : Nat) : Int)) hx hb dX0_withEntry_2 (by first | omega | rfl | (push_cast; rfl)) ?_
  refine lv_istore (lv' := [(4, .int (iI ((4 * i : Nat) : Int))), (0, .long x), (2, .int (iI ((i : Nat) : Int))), (3, .int (iI ((t : Nat) : Int)))]) hx hb dX0_withEntry_3 hl (by decide) rfl (fun ls hl => ?_)
  refine lv_lload_n hx hb dX0_withEntry_5 rfl (lv_at hl 1 rfl) ?_
  refine lv_ldc2 (v := 15) hx hb hown (hts (.constantLong RX0 143 (15)) (by decide +kernel)) dX0_withEntry_6 ?_
  refine lv_iload hx hb dX0_withEntry_9 (lv_at hl 0 rfl) ?_
  refine lv_lshl hx hb dX0_withEntry_11 rfl ?_
  refine lv_ldc2 (v := -1) hx hb hown (hts (.constantLong RX0 145 (-1)) (by decide +kernel)) dX0_withEntry_12 ?_
  refine lv_lxor hx hb dX0_withEntry_15 ?_
  refine lv_land hx hb dX0_withEntry_16 ?_
  refine lv_iload_n hx hb dX0_withEntry_17 rfl (lv_at hl 3 rfl) ?_
  refine lv_i2l hx hb dX0_withEntry_18 rfl ?_
  refine lv_iload hx hb dX0_withEntry_19 (lv_at hl 0 rfl) ?_
  refine lv_lshl hx hb dX0_withEntry_21 rfl ?_
  refine lv_lor hx hb dX0_withEntry_22 ?_
  refine st_l (y := we x i t) (rfl) ?_
  exact W.lret hx hb hr (fun t ht _ => ⟨rfl, ht⟩) (fun _ h => nomatch h) dX0_withEntry_23

set_option maxHeartbeats 4000000 in
set_option maxRecDepth 100000 in
theorem mX0_wrap (l : Launch) (v : Int) (h : inI v) : rd l yX0_wrap wsX0_wrap { frames := 1, cells := 0, slots := 0, locals := 22 } [.int (iI v)] tt_ (some (.int (iI ((md v : Nat) : Int)))) := by
  refine Met.ofW (cc := cX0_wrap) (maxL := 1) (ret := (some .int)) (by decide) rfl ?_
  intro P0 e s m args below meth c s₁ B hml hv
  obtain ⟨rfl, -⟩ := hv
  have hx := B.exec
  have hb := B.bytes
  have hr := B.returns
  have hts := atoms_spec (ws := wsX0_wrap) B.pre
  have hown : s.vm.findClass RX0 = some m.cls := findClass_of_methodNamed B.named
  have hlocks := B.notSynchronized
  have hl := lv_entry ([.int (iI v)]) (n := 1) (Nat.le_of_ble_eq_true rfl)
  rw [lg_entry_eq]
  generalize (lg_sl ([.int (iI v)]) ++ List.replicate (1 - (lg_sl ([.int (iI v)])).length) Slot.unset).toArray = ls at hl ⊢
  have hl : lv_has ls 1 [(0, .int (iI v))] := hl
  have h1 := h.1
  have h2 := h.2
  refine lv_iload_n hx hb dX0_wrap_0 rfl (lv_at hl 0 rfl) ?_
  refine ib_bi hx hb dX0_wrap_1 (by decide) ?_
  refine rd_call (va_runS (As := [.int (iI v), .int (iI 12)]) (rest := []) ⟨hx, hb, hml, hown, hts⟩ (mJ9_floorMod_7cf53 l v ⟨by omega, by omega⟩) (va_cwS 2 hts gX0_wrap_J9_floorMod_7cf53 rfl rfl rfl hdJ9_floorMod_7cf53 ⟨Nat.le_of_ble_eq_true rfl, Nat.le_of_ble_eq_true rfl⟩) tt_pre rfl rfl hl.1 rfl (lv_room (Nat.le_of_ble_eq_true rfl)) dX0_wrap_3 ⟨Nat.le_of_ble_eq_true rfl, Nat.le_of_ble_eq_true rfl⟩) ?_
  have hm_3 := md_lt v
  exact W.iret hx hb hr (fun t ht _ => ⟨rfl, ht⟩) (fun _ h => nomatch h) dX0_wrap_6

set_option maxHeartbeats 4000000 in
set_option maxRecDepth 100000 in
theorem mX0_codeOf (l : Launch) (k n : Nat) : rd l yX0_codeOf wsX0_codeOf { frames := 0, cells := 0, slots := 0, locals := 0 } [.int (iI ((k : Nat) : Int)), .int (iI ((n : Nat) : Int))] tt_ (some (.int (iI ((12 * k + n : Nat) : Int)))) := by
  refine Met.ofW (cc := cX0_codeOf) (maxL := 2) (ret := (some .int)) (by decide) rfl ?_
  intro P0 e s m args below meth c s₁ B hml hv
  obtain ⟨rfl, -⟩ := hv
  have hx := B.exec
  have hb := B.bytes
  have hr := B.returns
  have hts := atoms_spec (ws := wsX0_codeOf) B.pre
  have hown : s.vm.findClass RX0 = some m.cls := findClass_of_methodNamed B.named
  have hlocks := B.notSynchronized
  have hl := lv_entry ([.int (iI ((k : Nat) : Int)), .int (iI ((n : Nat) : Int))]) (n := 2) (Nat.le_of_ble_eq_true rfl)
  rw [lg_entry_eq]
  generalize (lg_sl ([.int (iI ((k : Nat) : Int)), .int (iI ((n : Nat) : Int))]) ++ List.replicate (2 - (lg_sl ([.int (iI ((k : Nat) : Int)), .int (iI ((n : Nat) : Int))])).length) Slot.unset).toArray = ls at hl ⊢
  have hl : lv_has ls 2 [(0, .int (iI ((k : Nat) : Int))), (1, .int (iI ((n : Nat) : Int)))] := hl
  refine ib_bi hx hb dX0_codeOf_0 (by decide) ?_
  refine lv_iload_n hx hb dX0_codeOf_2 rfl (lv_at hl 0 rfl) ?_
  refine ib_mul (z := ((12 * k : Nat) : Int)) hx hb dX0_codeOf_3 (by first | omega | rfl | (push_cast; rfl)) ?_
  refine lv_iload_n hx hb dX0_codeOf_4 rfl (lv_at hl 1 rfl) ?_
  refine ib_add (z := (((12 * k) + n : Nat) : Int)) hx hb dX0_codeOf_5 (by omega) ?_
  refine st_i (y := iI ((12 * k + n : Nat) : Int)) (congrArg iI (by omega)) ?_
  exact W.iret hx hb hr (fun t ht _ => ⟨rfl, ht⟩) (fun _ h => nomatch h) dX0_codeOf_6

set_option maxHeartbeats 4000000 in
set_option maxRecDepth 100000 in
theorem mX0_intervalAt (l : Launch) (x : Int64) (i : Nat) (h : i < 15) : rd l yX0_intervalAt wsX0_intervalAt { frames := 2, cells := 0, slots := 0, locals := 42 } [.long x, .int (iI ((i : Nat) : Int))] tt_ (some (.int (iI ((md (((ent x (i + 1) : Nat) : Int) - ((ent x i : Nat) : Int)) : Nat) : Int)))) := by
  refine Met.ofW (cc := cX0_intervalAt) (maxL := 3) (ret := (some .int)) (by decide) rfl ?_
  intro P0 e s m args below meth c s₁ B hml hv
  obtain ⟨rfl, -⟩ := hv
  have hx := B.exec
  have hb := B.bytes
  have hr := B.returns
  have hts := atoms_spec (ws := wsX0_intervalAt) B.pre
  have hown : s.vm.findClass RX0 = some m.cls := findClass_of_methodNamed B.named
  have hlocks := B.notSynchronized
  have hl := lv_entry ([.long x, .int (iI ((i : Nat) : Int))]) (n := 3) (Nat.le_of_ble_eq_true rfl)
  rw [lg_entry_eq]
  generalize (lg_sl ([.long x, .int (iI ((i : Nat) : Int))]) ++ List.replicate (3 - (lg_sl ([.long x, .int (iI ((i : Nat) : Int))])).length) Slot.unset).toArray = ls at hl ⊢
  have hl : lv_has ls 3 [(0, .long x), (2, .int (iI ((i : Nat) : Int)))] := hl
  refine lv_lload_n hx hb dX0_intervalAt_0 rfl (lv_at hl 0 rfl) ?_
  refine lv_iload_n hx hb dX0_intervalAt_1 rfl (lv_at hl 1 rfl) ?_
  refine ib_const hx hb dX0_intervalAt_2 ?_
  refine ib_add (z := ((i + 1 : Nat) : Int)) hx hb dX0_intervalAt_3 (by omega) ?_
  refine rd_call (va_runS (As := [.long x, .int (iI ((i + 1 : Nat) : Int))]) (rest := []) ⟨hx, hb, hml, hown, hts⟩ (mX0_entryAt l x (i + 1) (by omega)) (va_cwS 2 hts gX0_intervalAt_X0_entryAt rfl rfl rfl hdX0_entryAt ⟨Nat.le_of_ble_eq_true rfl, Nat.le_of_ble_eq_true rfl⟩) tt_pre rfl rfl hl.1 rfl (lv_room (Nat.le_of_ble_eq_true rfl)) dX0_intervalAt_4 ⟨Nat.le_of_ble_eq_true rfl, Nat.le_of_ble_eq_true rfl⟩) ?_
  have he_4 := ent_lt x (i + 1)
  refine lv_lload_n hx hb dX0_intervalAt_7 rfl (lv_at hl 0 rfl) ?_
  refine lv_iload_n hx hb dX0_intervalAt_8 rfl (lv_at hl 1 rfl) ?_
  refine rd_call (va_runS (As := [.long x, .int (iI ((i : Nat) : Int))]) (rest := [.int (iI ((ent x (i + 1) : Nat) : Int))]) ⟨hx, hb, hml, hown, hts⟩ (mX0_entryAt l x i (by omega)) (va_cwS 2 hts gX0_intervalAt_X0_entryAt rfl rfl rfl hdX0_entryAt ⟨Nat.le_of_ble_eq_true rfl, Nat.le_of_ble_eq_true rfl⟩) tt_pre rfl rfl hl.1 rfl (lv_room (Nat.le_of_ble_eq_true rfl)) dX0_intervalAt_9 ⟨Nat.le_of_ble_eq_true rfl, Nat.le_of_ble_eq_true rfl⟩) ?_
  have he_9 := ent_lt x i
  refine ib_sub (z := ((ent x (i + 1) : Nat) : Int) - ((ent x i : Nat) : Int)) hx hb dX0_intervalAt_12 (by omega) ?_
  refine rd_call (va_runS (As := [.int (iI (((ent x (i + 1) : Nat) : Int) - ((ent x i : Nat) : Int)))]) (rest := []) ⟨hx, hb, hml, hown, hts⟩ (mX0_wrap l (((ent x (i + 1) : Nat) : Int) - ((ent x i : Nat) : Int)) ⟨by omega, by omega⟩) (va_cwS 1 hts gX0_intervalAt_X0_wrap rfl rfl rfl hdX0_wrap ⟨Nat.le_of_ble_eq_true rfl, Nat.le_of_ble_eq_true rfl⟩) tt_pre rfl rfl hl.1 rfl (lv_room (Nat.le_of_ble_eq_true rfl)) dX0_intervalAt_13 ⟨Nat.le_of_ble_eq_true rfl, Nat.le_of_ble_eq_true rfl⟩) ?_
  have hm_13 := md_lt (((ent x (i + 1) : Nat) : Int) - ((ent x i : Nat) : Int))
  exact W.iret hx hb hr (fun t ht _ => ⟨rfl, ht⟩) (fun _ h => nomatch h) dX0_intervalAt_16

set_option maxHeartbeats 4000000 in
set_option maxRecDepth 100000 in
theorem mX0_placeIn (l : Launch) (x : Int64) (t : Nat) (h : t < 16) : rd l yX0_placeIn wsX0_placeIn { frames := 1, cells := 0, slots := 0, locals := 22 } [.long x, .int (iI ((t : Nat) : Int))] tt_ (some (.int (iI (pin x t)))) := by
  refine Met.ofW (cc := cX0_placeIn) (maxL := 4) (ret := (some .int)) (by decide) rfl ?_
  intro P0 e s m args below meth c s₁ B hml hv
  obtain ⟨rfl, -⟩ := hv
  have hx := B.exec
  have hb := B.bytes
  have hr := B.returns
  have hts := atoms_spec (ws := wsX0_placeIn) B.pre
  have hown : s.vm.findClass RX0 = some m.cls := findClass_of_methodNamed B.named
  have hlocks := B.notSynchronized
  have hl := lv_entry ([.long x, .int (iI ((t : Nat) : Int))]) (n := 4) (Nat.le_of_ble_eq_true rfl)
  rw [lg_entry_eq]
  generalize (lg_sl ([.long x, .int (iI ((t : Nat) : Int))]) ++ List.replicate (4 - (lg_sl ([.long x, .int (iI ((t : Nat) : Int))])).length) Slot.unset).toArray = ls at hl ⊢
  have hl : lv_has ls 4 [(0, .long x), (2, .int (iI ((t : Nat) : Int)))] := hl
  refine ib_const hx hb dX0_placeIn_0 ?_
  refine lv_istore_n (lv' := [(3, .int (iI 0)), (0, .long x), (2, .int (iI ((t : Nat) : Int)))]) hx hb dX0_placeIn_1 rfl hl (by decide) rfl (fun ls hl => ?_)
  have lp_2_1 : ∀ (j n : Nat), n + j = 12 → pin x t = ff (fun i => decide (ent x i = t)) j n → ∀ ls : Array Slot, lv_has ls 4 [(0, .long x), (2, .int (iI ((t : Nat) : Int))), (3, .int (iI ((n : Nat) : Int)))] → W P0 l e (headSpec wsX0_placeIn { frames := 1, cells := 0, slots := 0, locals := 22 }).room s m ([.long x, .int (iI ((t : Nat) : Int))] : List Value).toArray below meth c s.heap [] 0 0 (MQ below (rdQ (some (.int (iI (pin x t))))) ([.long x, .int (iI ((t : Nat) : Int))] : List Value).toArray s 0 0 (fun _ => False)) (F0 m 2 ls []) := by
    intro j
    induction j with
    | zero =>
      intro n hn_2 hq ls hl
      refine lv_iload_n hx hb dX0_placeIn_2 rfl (lv_at hl 2 rfl) ?_
      refine ib_bi hx hb dX0_placeIn_3 (by decide) ?_
      refine ib_icmp_ge (tgt := 25) hx hb dX0_placeIn_5 (by decide) ⟨by omega, by omega⟩ ⟨by omega, by omega⟩ (fun c_5 => ?_) (fun c_5 => absurd c_5 (by omega))
      refine ib_const hx hb dX0_placeIn_25 ?_
      refine st_i (y := iI (pin x t)) (congrArg iI (by rw [hq]; rfl)) ?_
      exact W.iret hx hb hr (fun t ht _ => ⟨rfl, ht⟩) (fun _ h => nomatch h) dX0_placeIn_26
    | succ j ih_2_1 =>
      intro n hn_2 hq ls hl
      refine lv_iload_n hx hb dX0_placeIn_2 rfl (lv_at hl 2 rfl) ?_
      refine ib_bi hx hb dX0_placeIn_3 (by decide) ?_
      refine ib_icmp_ge (tgt := 25) hx hb dX0_placeIn_5 (by decide) ⟨by omega, by omega⟩ ⟨by omega, by omega⟩ (fun c_5 => absurd c_5 (by omega)) (fun c_5 => ?_)
      refine lv_lload_n hx hb dX0_placeIn_8 rfl (lv_at hl 0 rfl) ?_
      refine lv_iload_n hx hb dX0_placeIn_9 rfl (lv_at hl 2 rfl) ?_
      refine rd_call (va_runS (As := [.long x, .int (iI ((n : Nat) : Int))]) (rest := []) ⟨hx, hb, hml, hown, hts⟩ (mX0_entryAt l x n (by omega)) (va_cwS 2 hts gX0_placeIn_X0_entryAt rfl rfl rfl hdX0_entryAt ⟨Nat.le_of_ble_eq_true rfl, Nat.le_of_ble_eq_true rfl⟩) tt_pre rfl rfl hl.1 rfl (lv_room (Nat.le_of_ble_eq_true rfl)) dX0_placeIn_10 ⟨Nat.le_of_ble_eq_true rfl, Nat.le_of_ble_eq_true rfl⟩) ?_
      have he_10 := ent_lt x n
      refine lv_iload_n hx hb dX0_placeIn_13 rfl (lv_at hl 1 rfl) ?_
      refine ib_icmp_ne (tgt := 19) hx hb dX0_placeIn_14 (by decide) ⟨by omega, by omega⟩ ⟨by omega, by omega⟩ (fun c_14 => ?_) (fun c_14 => ?_)
      · skip
        refine lv_iinc (v := iI ((n + 1 : Nat) : Int)) (lv' := [(3, .int (iI ((n + 1 : Nat) : Int))), (0, .long x), (2, .int (iI ((t : Nat) : Int)))]) hx hb dX0_placeIn_19 hl (k := 2) rfl (iI_inc (by omega)) (by decide) rfl (fun ls hl => ?_)
        refine lv_goto (tgt := 2) hx hb dX0_placeIn_22 (by decide) ?_
        exact ih_2_1 (n + 1) (by omega) (hq.trans (ff_f (decide_eq_false (fun q => c_14 (congrArg Int.ofNat q))))) _ (lv_sub hl [1, 2, 0] rfl)
      · skip
        refine lv_iload_n hx hb dX0_placeIn_17 rfl (lv_at hl 2 rfl) ?_
        refine st_i (y := iI (pin x t)) (congrArg iI (by rw [hq, ff_t (decide_eq_true (by omega))])) ?_
        exact W.iret hx hb hr (fun t ht _ => ⟨rfl, ht⟩) (fun _ h => nomatch h) dX0_placeIn_18
  exact lp_2_1 12 0 (by omega) (rfl) _ (lv_sub hl [1, 2, 0] rfl)

set_option maxHeartbeats 4000000 in
set_option maxRecDepth 100000 in
theorem mX0_formWith (l : Launch) (x : Int64) (code : Nat) (h : code < 48) : rd l yX0_formWith wsX0_formWith { frames := 2, cells := 0, slots := 0, locals := 42 } [.long x, .int (iI ((code : Nat) : Int))] tt_ (some (.long (fw x code))) := by
  refine Met.ofW (cc := cX0_formWith) (maxL := 13) (ret := (some .long)) (by decide) rfl ?_
  intro P0 e s m args below meth c s₁ B hml hv
  obtain ⟨rfl, -⟩ := hv
  have hx := B.exec
  have hb := B.bytes
  have hr := B.returns
  have hts := atoms_spec (ws := wsX0_formWith) B.pre
  have hown : s.vm.findClass RX0 = some m.cls := findClass_of_methodNamed B.named
  have hlocks := B.notSynchronized
  have hl := lv_entry ([.long x, .int (iI ((code : Nat) : Int))]) (n := 13) (Nat.le_of_ble_eq_true rfl)
  rw [lg_entry_eq]
  generalize (lg_sl ([.long x, .int (iI ((code : Nat) : Int))]) ++ List.replicate (13 - (lg_sl ([.long x, .int (iI ((code : Nat) : Int))])).length) Slot.unset).toArray = ls at hl ⊢
  have hl : lv_has ls 13 [(0, .long x), (2, .int (iI ((code : Nat) : Int)))] := hl
  have hk : code / 12 = 0 ∨ code / 12 = 1 ∨ code / 12 = 2 ∨ code / 12 = 3 := by omega
  rcases hk with hk | hk | hk | hk
  · skip
    refine lv_iload_n hx hb dX0_formWith_0 rfl (lv_at hl 1 rfl) ?_
    refine ib_bi hx hb dX0_formWith_1 (by decide) ?_
    refine ib_div (z := ((code / 12 : Nat) : Int)) hx hb dX0_formWith_3 (by omega) (by omega) (by omega) (by omega) (by first | omega | rfl) ?_
    refine lv_istore_n (lv' := [(3, .int (iI ((code / 12 : Nat) : Int))), (0, .long x), (2, .int (iI ((code : Nat) : Int)))]) hx hb dX0_formWith_4 rfl hl (by decide) rfl (fun ls hl => ?_)
    refine lv_iload_n hx hb dX0_formWith_5 rfl (lv_at hl 2 rfl) ?_
    refine ib_bi hx hb dX0_formWith_6 (by decide) ?_
    refine ib_rem (z := ((code % 12 : Nat) : Int)) hx hb dX0_formWith_8 (by omega) (by omega) (by omega) (by omega) (by first | omega | rfl) ?_
    refine lv_istore (lv' := [(4, .int (iI ((code % 12 : Nat) : Int))), (3, .int (iI ((code / 12 : Nat) : Int))), (0, .long x), (2, .int (iI ((code : Nat) : Int)))]) hx hb dX0_formWith_9 hl (by decide) rfl (fun ls hl => ?_)
    refine lv_iload_n hx hb dX0_formWith_11 rfl (lv_at hl 1 rfl) ?_
    refine ib_const hx hb dX0_formWith_12 ?_
    refine ib_icmp_eq (tgt := 21) hx hb dX0_formWith_13 (by decide) ⟨by omega, by omega⟩ ⟨by omega, by omega⟩ (fun c_13 => absurd c_13 (by omega)) (fun c_13 => ?_)
    refine lv_iload_n hx hb dX0_formWith_16 rfl (lv_at hl 1 rfl) ?_
    refine ib_const hx hb dX0_formWith_17 ?_
    refine ib_icmp_ne (tgt := 25) hx hb dX0_formWith_18 (by decide) ⟨by omega, by omega⟩ ⟨by omega, by omega⟩ (fun c_18 => ?_) (fun c_18 => absurd c_18 (by omega))
    refine ib_const hx hb dX0_formWith_25 ?_
    refine lv_istore (lv' := [(5, .int (iI 0)), (4, .int (iI ((code % 12 : Nat) : Int))), (3, .int (iI ((code / 12 : Nat) : Int))), (0, .long x), (2, .int (iI ((code : Nat) : Int)))]) hx hb dX0_formWith_26 hl (by decide) rfl (fun ls hl => ?_)
    refine lv_iload_n hx hb dX0_formWith_28 rfl (lv_at hl 2 rfl) ?_
    refine ib_const hx hb dX0_formWith_29 ?_
    refine ib_icmp_eq (tgt := 38) hx hb dX0_formWith_30 (by decide) ⟨by omega, by omega⟩ ⟨by omega, by omega⟩ (fun c_30 => absurd c_30 (by omega)) (fun c_30 => ?_)
    refine lv_iload_n hx hb dX0_formWith_33 rfl (lv_at hl 2 rfl) ?_
    refine ib_const hx hb dX0_formWith_34 ?_
    refine ib_icmp_ne (tgt := 42) hx hb dX0_formWith_35 (by decide) ⟨by omega, by omega⟩ ⟨by omega, by omega⟩ (fun c_35 => ?_) (fun c_35 => absurd c_35 (by omega))
    refine ib_const hx hb dX0_formWith_42 ?_
    refine lv_istore (lv' := [(6, .int (iI 0)), (5, .int (iI 0)), (4, .int (iI ((code % 12 : Nat) : Int))), (3, .int (iI ((code / 12 : Nat) : Int))), (0, .long x), (2, .int (iI ((code : Nat) : Int)))]) hx hb dX0_formWith_43 hl (by decide) rfl (fun ls hl => ?_)
    refine lv_lload_n hx hb dX0_formWith_45 rfl (lv_at hl 4 rfl) ?_
    refine ib_const hx hb dX0_formWith_46 ?_
    refine rd_call (va_runS (As := [.long x, .int (iI 0)]) (rest := []) ⟨hx, hb, hml, hown, hts⟩ (mX0_entryAt l x 0 (by omega)) (va_cwS 2 hts gX0_formWith_X0_entryAt rfl rfl rfl hdX0_entryAt ⟨Nat.le_of_ble_eq_true rfl, Nat.le_of_ble_eq_true rfl⟩) tt_pre rfl rfl hl.1 rfl (lv_room (Nat.le_of_ble_eq_true rfl)) dX0_formWith_47 ⟨Nat.le_of_ble_eq_true rfl, Nat.le_of_ble_eq_true rfl⟩) ?_
    have he_47 := ent_lt x 0
    refine lv_istore (lv' := [(7, .int (iI ((ent x 0 : Nat) : Int))), (6, .int (iI 0)), (5, .int (iI 0)), (4, .int (iI ((code % 12 : Nat) : Int))), (3, .int (iI ((code / 12 : Nat) : Int))), (0, .long x), (2, .int (iI ((code : Nat) : Int)))]) hx hb dX0_formWith_50 hl (by decide) rfl (fun ls hl => ?_)
    refine lv_lconst (v := 0) hx hb dX0_formWith_52 (by decide) ?_
    refine lv_lstore (lv' := [(8, .long (0 : Int64)), (7, .int (iI ((ent x 0 : Nat) : Int))), (6, .int (iI 0)), (5, .int (iI 0)), (4, .int (iI ((code % 12 : Nat) : Int))), (3, .int (iI ((code / 12 : Nat) : Int))), (0, .long x), (2, .int (iI ((code : Nat) : Int)))]) hx hb dX0_formWith_53 hl (by decide) rfl (fun ls hl => ?_)
    refine ib_const hx hb dX0_formWith_55 ?_
    refine lv_istore (lv' := [(10, .int (iI 0)), (8, .long (0 : Int64)), (7, .int (iI ((ent x 0 : Nat) : Int))), (6, .int (iI 0)), (5, .int (iI 0)), (4, .int (iI ((code % 12 : Nat) : Int))), (3, .int (iI ((code / 12 : Nat) : Int))), (0, .long x), (2, .int (iI ((code : Nat) : Int)))]) hx hb dX0_formWith_56 hl (by decide) rfl (fun ls hl => ?_)
    have lp_58_1 : ∀ (j n : Nat), n + j = 12 → ∀ ls : Array Slot, lv_has ls 13 [(0, .long x), (4, .int (iI ((code % 12 : Nat) : Int))), (5, .int (iI 0)), (6, .int (iI 0)), (7, .int (iI ((ent x 0 : Nat) : Int))), (8, .long (fwl x code n)), (10, .int (iI ((n : Nat) : Int)))] → W P0 l e (headSpec wsX0_formWith { frames := 2, cells := 0, slots := 0, locals := 42 }).room s m ([.long x, .int (iI ((code : Nat) : Int))] : List Value).toArray below meth c s.heap [] 0 0 (MQ below (rdQ (some (.long (fw x code)))) ([.long x, .int (iI ((code : Nat) : Int))] : List Value).toArray s 0 0 (fun _ => False)) (F0 m 58 ls []) := by
      intro j
      induction j with
      | zero =>
        intro n hn_58  ls hl
        have he0 := ent_lt x 0
        refine lv_iload hx hb dX0_formWith_58 (lv_at hl 6 rfl) ?_
        refine ib_bi hx hb dX0_formWith_60 (by decide) ?_
        refine ib_icmp_ge (tgt := 129) hx hb dX0_formWith_62 (by decide) ⟨by omega, by omega⟩ ⟨by omega, by omega⟩ (fun c_62 => ?_) (fun c_62 => absurd c_62 (by omega))
        refine lv_lload hx hb dX0_formWith_129 (lv_at hl 5 rfl) ?_
        refine st_l (y := fw x code) (congrArg (fwl x code) (show n = 12 by omega)) ?_
        exact W.lret hx hb hr (fun t ht _ => ⟨rfl, ht⟩) (fun _ h => nomatch h) dX0_formWith_131
      | succ j ih_58_1 =>
        intro n hn_58  ls hl
        have he0 := ent_lt x 0
        refine lv_iload hx hb dX0_formWith_58 (lv_at hl 6 rfl) ?_
        refine ib_bi hx hb dX0_formWith_60 (by decide) ?_
        refine ib_icmp_ge (tgt := 129) hx hb dX0_formWith_62 (by decide) ⟨by omega, by omega⟩ ⟨by omega, by omega⟩ (fun c_62 => absurd c_62 (by omega)) (fun c_62 => ?_)
        refine lv_lload_n hx hb dX0_formWith_65 rfl (lv_at hl 0 rfl) ?_
        refine lv_iload hx hb dX0_formWith_66 (lv_at hl 6 rfl) ?_
        refine rd_call (va_runS (As := [.long x, .int (iI ((n : Nat) : Int))]) (rest := []) ⟨hx, hb, hml, hown, hts⟩ (mX0_entryAt l x n (by omega)) (va_cwS 2 hts gX0_formWith_X0_entryAt rfl rfl rfl hdX0_entryAt ⟨Nat.le_of_ble_eq_true rfl, Nat.le_of_ble_eq_true rfl⟩) tt_pre rfl rfl hl.1 rfl (lv_room (Nat.le_of_ble_eq_true rfl)) dX0_formWith_68 ⟨Nat.le_of_ble_eq_true rfl, Nat.le_of_ble_eq_true rfl⟩) ?_
        have he_68 := ent_lt x n
        refine lv_iload hx hb dX0_formWith_71 (lv_at hl 4 rfl) ?_
        refine ib_sub (z := ((ent x n : Nat) : Int) - ((ent x 0 : Nat) : Int)) hx hb dX0_formWith_73 (by omega) ?_
        refine lv_istore (lv' := [(11, .int (iI (((ent x n : Nat) : Int) - ((ent x 0 : Nat) : Int)))), (0, .long x), (4, .int (iI ((code % 12 : Nat) : Int))), (5, .int (iI 0)), (6, .int (iI 0)), (7, .int (iI ((ent x 0 : Nat) : Int))), (8, .long (fwl x code n)), (10, .int (iI ((n : Nat) : Int)))]) hx hb dX0_formWith_74 hl (by decide) rfl (fun ls hl => ?_)
        refine lv_iload hx hb dX0_formWith_76 (lv_at hl 3 rfl) ?_
        refine ib_if_eq (tgt := 89) hx hb dX0_formWith_78 (by decide) ⟨by omega, by omega⟩ (fun c_78 => ?_) (fun c_78 => absurd c_78 (by decide))
        refine lv_iload hx hb dX0_formWith_89 (lv_at hl 2 rfl) ?_
        refine lv_iload hx hb dX0_formWith_91 (lv_at hl 0 rfl) ?_
        refine ib_add (z := ((code % 12 : Nat) : Int) + (((ent x n : Nat) : Int) - ((ent x 0 : Nat) : Int))) hx hb dX0_formWith_93 (by omega) ?_
        refine rd_call (va_runS (As := [.int (iI (((code % 12 : Nat) : Int) + (((ent x n : Nat) : Int) - ((ent x 0 : Nat) : Int))))]) (rest := []) ⟨hx, hb, hml, hown, hts⟩ (mX0_wrap l (((code % 12 : Nat) : Int) + (((ent x n : Nat) : Int) - ((ent x 0 : Nat) : Int))) ⟨by omega, by omega⟩) (va_cwS 1 hts gX0_formWith_X0_wrap rfl rfl rfl hdX0_wrap ⟨Nat.le_of_ble_eq_true rfl, Nat.le_of_ble_eq_true rfl⟩) tt_pre rfl rfl hl.1 rfl (lv_room (Nat.le_of_ble_eq_true rfl)) dX0_formWith_94 ⟨Nat.le_of_ble_eq_true rfl, Nat.le_of_ble_eq_true rfl⟩) ?_
        have hm_94 := md_lt (((code % 12 : Nat) : Int) + (((ent x n : Nat) : Int) - ((ent x 0 : Nat) : Int)))
        refine lv_istore (lv' := [(12, .int (iI ((md (((code % 12 : Nat) : Int) + (((ent x n : Nat) : Int) - ((ent x 0 : Nat) : Int))) : Nat) : Int))), (11, .int (iI (((ent x n : Nat) : Int) - ((ent x 0 : Nat) : Int)))), (0, .long x), (4, .int (iI ((code % 12 : Nat) : Int))), (5, .int (iI 0)), (6, .int (iI 0)), (7, .int (iI ((ent x 0 : Nat) : Int))), (8, .long (fwl x code n)), (10, .int (iI ((n : Nat) : Int)))]) hx hb dX0_formWith_97 hl (by decide) rfl (fun ls hl => ?_)
        refine lv_lload hx hb dX0_formWith_99 (lv_at hl 7 rfl) ?_
        refine lv_iload hx hb dX0_formWith_101 (lv_at hl 5 rfl) ?_
        refine ib_if_eq (tgt := 114) hx hb dX0_formWith_103 (by decide) ⟨by omega, by omega⟩ (fun c_103 => ?_) (fun c_103 => absurd c_103 (by decide))
        refine lv_iload hx hb dX0_formWith_114 (lv_at hl 8 rfl) ?_
        refine lv_iload hx hb dX0_formWith_116 (lv_at hl 0 rfl) ?_
        refine rd_call (va_runS (As := [.long (fwl x code n), .int (iI ((n : Nat) : Int)), .int (iI ((md (((code % 12 : Nat) : Int) + (((ent x n : Nat) : Int) - ((ent x 0 : Nat) : Int))) : Nat) : Int))]) (rest := []) ⟨hx, hb, hml, hown, hts⟩ (mX0_withEntry l (fwl x code n) n (md (((code % 12 : Nat) : Int) + (((ent x n : Nat) : Int) - ((ent x 0 : Nat) : Int)))) (by omega)) (va_cwS 3 hts gX0_formWith_X0_withEntry rfl rfl rfl hdX0_withEntry ⟨Nat.le_of_ble_eq_true rfl, Nat.le_of_ble_eq_true rfl⟩) tt_pre rfl rfl hl.1 rfl (lv_room (Nat.le_of_ble_eq_true rfl)) dX0_formWith_118 ⟨Nat.le_of_ble_eq_true rfl, Nat.le_of_ble_eq_true rfl⟩) ?_
        refine st_l (y := fwl x code (n + 1)) (by simp [fwl, fwp, fwt, hk]) ?_
        refine lv_lstore (lv' := [(8, .long (fwl x code (n + 1))), (12, .int (iI ((md (((code % 12 : Nat) : Int) + (((ent x n : Nat) : Int) - ((ent x 0 : Nat) : Int))) : Nat) : Int))), (11, .int (iI (((ent x n : Nat) : Int) - ((ent x 0 : Nat) : Int)))), (0, .long x), (4, .int (iI ((code % 12 : Nat) : Int))), (5, .int (iI 0)), (6, .int (iI 0)), (7, .int (iI ((ent x 0 : Nat) : Int))), (10, .int (iI ((n : Nat) : Int)))]) hx hb dX0_formWith_121 hl (by decide) rfl (fun ls hl => ?_)
        refine lv_iinc (v := iI ((n + 1 : Nat) : Int)) (lv' := [(10, .int (iI ((n + 1 : Nat) : Int))), (8, .long (fwl x code (n + 1))), (12, .int (iI ((md (((code % 12 : Nat) : Int) + (((ent x n : Nat) : Int) - ((ent x 0 : Nat) : Int))) : Nat) : Int))), (11, .int (iI (((ent x n : Nat) : Int) - ((ent x 0 : Nat) : Int)))), (0, .long x), (4, .int (iI ((code % 12 : Nat) : Int))), (5, .int (iI 0)), (6, .int (iI 0)), (7, .int (iI ((ent x 0 : Nat) : Int)))]) hx hb dX0_formWith_123 hl (k := 8) rfl (iI_inc (by omega)) (by decide) rfl (fun ls hl => ?_)
        refine lv_goto (tgt := 58) hx hb dX0_formWith_126 (by decide) ?_
        exact ih_58_1 (n + 1) (by omega)  _ (lv_sub hl [4, 5, 6, 7, 8, 1, 0] rfl)
    exact lp_58_1 12 0 (by omega)  _ (lv_sub hl [7, 5, 4, 3, 2, 1, 0] rfl)
  · skip
    refine lv_iload_n hx hb dX0_formWith_0 rfl (lv_at hl 1 rfl) ?_
    refine ib_bi hx hb dX0_formWith_1 (by decide) ?_
    refine ib_div (z := ((code / 12 : Nat) : Int)) hx hb dX0_formWith_3 (by omega) (by omega) (by omega) (by omega) (by first | omega | rfl) ?_
    refine lv_istore_n (lv' := [(3, .int (iI ((code / 12 : Nat) : Int))), (0, .long x), (2, .int (iI ((code : Nat) : Int)))]) hx hb dX0_formWith_4 rfl hl (by decide) rfl (fun ls hl => ?_)
    refine lv_iload_n hx hb dX0_formWith_5 rfl (lv_at hl 2 rfl) ?_
    refine ib_bi hx hb dX0_formWith_6 (by decide) ?_
    refine ib_rem (z := ((code % 12 : Nat) : Int)) hx hb dX0_formWith_8 (by omega) (by omega) (by omega) (by omega) (by first | omega | rfl) ?_
    refine lv_istore (lv' := [(4, .int (iI ((code % 12 : Nat) : Int))), (3, .int (iI ((code / 12 : Nat) : Int))), (0, .long x), (2, .int (iI ((code : Nat) : Int)))]) hx hb dX0_formWith_9 hl (by decide) rfl (fun ls hl => ?_)
    refine lv_iload_n hx hb dX0_formWith_11 rfl (lv_at hl 1 rfl) ?_
    refine ib_const hx hb dX0_formWith_12 ?_
    refine ib_icmp_eq (tgt := 21) hx hb dX0_formWith_13 (by decide) ⟨by omega, by omega⟩ ⟨by omega, by omega⟩ (fun c_13 => ?_) (fun c_13 => absurd c_13 (by omega))
    refine ib_const hx hb dX0_formWith_21 ?_
    refine lv_goto (tgt := 26) hx hb dX0_formWith_22 (by decide) ?_
    refine lv_istore (lv' := [(5, .int (iI 1)), (4, .int (iI ((code % 12 : Nat) : Int))), (3, .int (iI ((code / 12 : Nat) : Int))), (0, .long x), (2, .int (iI ((code : Nat) : Int)))]) hx hb dX0_formWith_26 hl (by decide) rfl (fun ls hl => ?_)
    refine lv_iload_n hx hb dX0_formWith_28 rfl (lv_at hl 2 rfl) ?_
    refine ib_const hx hb dX0_formWith_29 ?_
    refine ib_icmp_eq (tgt := 38) hx hb dX0_formWith_30 (by decide) ⟨by omega, by omega⟩ ⟨by omega, by omega⟩ (fun c_30 => absurd c_30 (by omega)) (fun c_30 => ?_)
    refine lv_iload_n hx hb dX0_formWith_33 rfl (lv_at hl 2 rfl) ?_
    refine ib_const hx hb dX0_formWith_34 ?_
    refine ib_icmp_ne (tgt := 42) hx hb dX0_formWith_35 (by decide) ⟨by omega, by omega⟩ ⟨by omega, by omega⟩ (fun c_35 => ?_) (fun c_35 => absurd c_35 (by omega))
    refine ib_const hx hb dX0_formWith_42 ?_
    refine lv_istore (lv' := [(6, .int (iI 0)), (5, .int (iI 1)), (4, .int (iI ((code % 12 : Nat) : Int))), (3, .int (iI ((code / 12 : Nat) : Int))), (0, .long x), (2, .int (iI ((code : Nat) : Int)))]) hx hb dX0_formWith_43 hl (by decide) rfl (fun ls hl => ?_)
    refine lv_lload_n hx hb dX0_formWith_45 rfl (lv_at hl 4 rfl) ?_
    refine ib_const hx hb dX0_formWith_46 ?_
    refine rd_call (va_runS (As := [.long x, .int (iI 0)]) (rest := []) ⟨hx, hb, hml, hown, hts⟩ (mX0_entryAt l x 0 (by omega)) (va_cwS 2 hts gX0_formWith_X0_entryAt rfl rfl rfl hdX0_entryAt ⟨Nat.le_of_ble_eq_true rfl, Nat.le_of_ble_eq_true rfl⟩) tt_pre rfl rfl hl.1 rfl (lv_room (Nat.le_of_ble_eq_true rfl)) dX0_formWith_47 ⟨Nat.le_of_ble_eq_true rfl, Nat.le_of_ble_eq_true rfl⟩) ?_
    have he_47 := ent_lt x 0
    refine lv_istore (lv' := [(7, .int (iI ((ent x 0 : Nat) : Int))), (6, .int (iI 0)), (5, .int (iI 1)), (4, .int (iI ((code % 12 : Nat) : Int))), (3, .int (iI ((code / 12 : Nat) : Int))), (0, .long x), (2, .int (iI ((code : Nat) : Int)))]) hx hb dX0_formWith_50 hl (by decide) rfl (fun ls hl => ?_)
    refine lv_lconst (v := 0) hx hb dX0_formWith_52 (by decide) ?_
    refine lv_lstore (lv' := [(8, .long (0 : Int64)), (7, .int (iI ((ent x 0 : Nat) : Int))), (6, .int (iI 0)), (5, .int (iI 1)), (4, .int (iI ((code % 12 : Nat) : Int))), (3, .int (iI ((code / 12 : Nat) : Int))), (0, .long x), (2, .int (iI ((code : Nat) : Int)))]) hx hb dX0_formWith_53 hl (by decide) rfl (fun ls hl => ?_)
    refine ib_const hx hb dX0_formWith_55 ?_
    refine lv_istore (lv' := [(10, .int (iI 0)), (8, .long (0 : Int64)), (7, .int (iI ((ent x 0 : Nat) : Int))), (6, .int (iI 0)), (5, .int (iI 1)), (4, .int (iI ((code % 12 : Nat) : Int))), (3, .int (iI ((code / 12 : Nat) : Int))), (0, .long x), (2, .int (iI ((code : Nat) : Int)))]) hx hb dX0_formWith_56 hl (by decide) rfl (fun ls hl => ?_)
    have lp_58_2 : ∀ (j n : Nat), n + j = 12 → ∀ ls : Array Slot, lv_has ls 13 [(0, .long x), (4, .int (iI ((code % 12 : Nat) : Int))), (5, .int (iI 1)), (6, .int (iI 0)), (7, .int (iI ((ent x 0 : Nat) : Int))), (8, .long (fwl x code n)), (10, .int (iI ((n : Nat) : Int)))] → W P0 l e (headSpec wsX0_formWith { frames := 2, cells := 0, slots := 0, locals := 42 }).room s m ([.long x, .int (iI ((code : Nat) : Int))] : List Value).toArray below meth c s.heap [] 0 0 (MQ below (rdQ (some (.long (fw x code)))) ([.long x, .int (iI ((code : Nat) : Int))] : List Value).toArray s 0 0 (fun _ => False)) (F0 m 58 ls []) := by
      intro j
      induction j with
      | zero =>
        intro n hn_58  ls hl
        have he0 := ent_lt x 0
        refine lv_iload hx hb dX0_formWith_58 (lv_at hl 6 rfl) ?_
        refine ib_bi hx hb dX0_formWith_60 (by decide) ?_
        refine ib_icmp_ge (tgt := 129) hx hb dX0_formWith_62 (by decide) ⟨by omega, by omega⟩ ⟨by omega, by omega⟩ (fun c_62 => ?_) (fun c_62 => absurd c_62 (by omega))
        refine lv_lload hx hb dX0_formWith_129 (lv_at hl 5 rfl) ?_
        refine st_l (y := fw x code) (congrArg (fwl x code) (show n = 12 by omega)) ?_
        exact W.lret hx hb hr (fun t ht _ => ⟨rfl, ht⟩) (fun _ h => nomatch h) dX0_formWith_131
      | succ j ih_58_2 =>
        intro n hn_58  ls hl
        have he0 := ent_lt x 0
        refine lv_iload hx hb dX0_formWith_58 (lv_at hl 6 rfl) ?_
        refine ib_bi hx hb dX0_formWith_60 (by decide) ?_
        refine ib_icmp_ge (tgt := 129) hx hb dX0_formWith_62 (by decide) ⟨by omega, by omega⟩ ⟨by omega, by omega⟩ (fun c_62 => absurd c_62 (by omega)) (fun c_62 => ?_)
        refine lv_lload_n hx hb dX0_formWith_65 rfl (lv_at hl 0 rfl) ?_
        refine lv_iload hx hb dX0_formWith_66 (lv_at hl 6 rfl) ?_
        refine rd_call (va_runS (As := [.long x, .int (iI ((n : Nat) : Int))]) (rest := []) ⟨hx, hb, hml, hown, hts⟩ (mX0_entryAt l x n (by omega)) (va_cwS 2 hts gX0_formWith_X0_entryAt rfl rfl rfl hdX0_entryAt ⟨Nat.le_of_ble_eq_true rfl, Nat.le_of_ble_eq_true rfl⟩) tt_pre rfl rfl hl.1 rfl (lv_room (Nat.le_of_ble_eq_true rfl)) dX0_formWith_68 ⟨Nat.le_of_ble_eq_true rfl, Nat.le_of_ble_eq_true rfl⟩) ?_
        have he_68 := ent_lt x n
        refine lv_iload hx hb dX0_formWith_71 (lv_at hl 4 rfl) ?_
        refine ib_sub (z := ((ent x n : Nat) : Int) - ((ent x 0 : Nat) : Int)) hx hb dX0_formWith_73 (by omega) ?_
        refine lv_istore (lv' := [(11, .int (iI (((ent x n : Nat) : Int) - ((ent x 0 : Nat) : Int)))), (0, .long x), (4, .int (iI ((code % 12 : Nat) : Int))), (5, .int (iI 1)), (6, .int (iI 0)), (7, .int (iI ((ent x 0 : Nat) : Int))), (8, .long (fwl x code n)), (10, .int (iI ((n : Nat) : Int)))]) hx hb dX0_formWith_74 hl (by decide) rfl (fun ls hl => ?_)
        refine lv_iload hx hb dX0_formWith_76 (lv_at hl 3 rfl) ?_
        refine ib_if_eq (tgt := 89) hx hb dX0_formWith_78 (by decide) ⟨by omega, by omega⟩ (fun c_78 => absurd c_78 (by decide)) (fun c_78 => ?_)
        refine lv_iload hx hb dX0_formWith_81 (lv_at hl 2 rfl) ?_
        refine lv_iload hx hb dX0_formWith_83 (lv_at hl 0 rfl) ?_
        refine ib_sub (z := ((code % 12 : Nat) : Int) - (((ent x n : Nat) : Int) - ((ent x 0 : Nat) : Int))) hx hb dX0_formWith_85 (by omega) ?_
        refine lv_goto (tgt := 94) hx hb dX0_formWith_86 (by decide) ?_
        refine rd_call (va_runS (As := [.int (iI (((code % 12 : Nat) : Int) - (((ent x n : Nat) : Int) - ((ent x 0 : Nat) : Int))))]) (rest := []) ⟨hx, hb, hml, hown, hts⟩ (mX0_wrap l (((code % 12 : Nat) : Int) - (((ent x n : Nat) : Int) - ((ent x 0 : Nat) : Int))) ⟨by omega, by omega⟩) (va_cwS 1 hts gX0_formWith_X0_wrap rfl rfl rfl hdX0_wrap ⟨Nat.le_of_ble_eq_true rfl, Nat.le_of_ble_eq_true rfl⟩) tt_pre rfl rfl hl.1 rfl (lv_room (Nat.le_of_ble_eq_true rfl)) dX0_formWith_94 ⟨Nat.le_of_ble_eq_true rfl, Nat.le_of_ble_eq_true rfl⟩) ?_
        have hm_94 := md_lt (((code % 12 : Nat) : Int) - (((ent x n : Nat) : Int) - ((ent x 0 : Nat) : Int)))
        refine lv_istore (lv' := [(12, .int (iI ((md (((code % 12 : Nat) : Int) - (((ent x n : Nat) : Int) - ((ent x 0 : Nat) : Int))) : Nat) : Int))), (11, .int (iI (((ent x n : Nat) : Int) - ((ent x 0 : Nat) : Int)))), (0, .long x), (4, .int (iI ((code % 12 : Nat) : Int))), (5, .int (iI 1)), (6, .int (iI 0)), (7, .int (iI ((ent x 0 : Nat) : Int))), (8, .long (fwl x code n)), (10, .int (iI ((n : Nat) : Int)))]) hx hb dX0_formWith_97 hl (by decide) rfl (fun ls hl => ?_)
        refine lv_lload hx hb dX0_formWith_99 (lv_at hl 7 rfl) ?_
        refine lv_iload hx hb dX0_formWith_101 (lv_at hl 5 rfl) ?_
        refine ib_if_eq (tgt := 114) hx hb dX0_formWith_103 (by decide) ⟨by omega, by omega⟩ (fun c_103 => ?_) (fun c_103 => absurd c_103 (by decide))
        refine lv_iload hx hb dX0_formWith_114 (lv_at hl 8 rfl) ?_
        refine lv_iload hx hb dX0_formWith_116 (lv_at hl 0 rfl) ?_
        refine rd_call (va_runS (As := [.long (fwl x code n), .int (iI ((n : Nat) : Int)), .int (iI ((md (((code % 12 : Nat) : Int) - (((ent x n : Nat) : Int) - ((ent x 0 : Nat) : Int))) : Nat) : Int))]) (rest := []) ⟨hx, hb, hml, hown, hts⟩ (mX0_withEntry l (fwl x code n) n (md (((code % 12 : Nat) : Int) - (((ent x n : Nat) : Int) - ((ent x 0 : Nat) : Int)))) (by omega)) (va_cwS 3 hts gX0_formWith_X0_withEntry rfl rfl rfl hdX0_withEntry ⟨Nat.le_of_ble_eq_true rfl, Nat.le_of_ble_eq_true rfl⟩) tt_pre rfl rfl hl.1 rfl (lv_room (Nat.le_of_ble_eq_true rfl)) dX0_formWith_118 ⟨Nat.le_of_ble_eq_true rfl, Nat.le_of_ble_eq_true rfl⟩) ?_
        refine st_l (y := fwl x code (n + 1)) (by simp [fwl, fwp, fwt, hk]) ?_
        refine lv_lstore (lv' := [(8, .long (fwl x code (n + 1))), (12, .int (iI ((md (((code % 12 : Nat) : Int) - (((ent x n : Nat) : Int) - ((ent x 0 : Nat) : Int))) : Nat) : Int))), (11, .int (iI (((ent x n : Nat) : Int) - ((ent x 0 : Nat) : Int)))), (0, .long x), (4, .int (iI ((code % 12 : Nat) : Int))), (5, .int (iI 1)), (6, .int (iI 0)), (7, .int (iI ((ent x 0 : Nat) : Int))), (10, .int (iI ((n : Nat) : Int)))]) hx hb dX0_formWith_121 hl (by decide) rfl (fun ls hl => ?_)
        refine lv_iinc (v := iI ((n + 1 : Nat) : Int)) (lv' := [(10, .int (iI ((n + 1 : Nat) : Int))), (8, .long (fwl x code (n + 1))), (12, .int (iI ((md (((code % 12 : Nat) : Int) - (((ent x n : Nat) : Int) - ((ent x 0 : Nat) : Int))) : Nat) : Int))), (11, .int (iI (((ent x n : Nat) : Int) - ((ent x 0 : Nat) : Int)))), (0, .long x), (4, .int (iI ((code % 12 : Nat) : Int))), (5, .int (iI 1)), (6, .int (iI 0)), (7, .int (iI ((ent x 0 : Nat) : Int)))]) hx hb dX0_formWith_123 hl (k := 8) rfl (iI_inc (by omega)) (by decide) rfl (fun ls hl => ?_)
        refine lv_goto (tgt := 58) hx hb dX0_formWith_126 (by decide) ?_
        exact ih_58_2 (n + 1) (by omega)  _ (lv_sub hl [4, 5, 6, 7, 8, 1, 0] rfl)
    exact lp_58_2 12 0 (by omega)  _ (lv_sub hl [7, 5, 4, 3, 2, 1, 0] rfl)
  · skip
    refine lv_iload_n hx hb dX0_formWith_0 rfl (lv_at hl 1 rfl) ?_
    refine ib_bi hx hb dX0_formWith_1 (by decide) ?_
    refine ib_div (z := ((code / 12 : Nat) : Int)) hx hb dX0_formWith_3 (by omega) (by omega) (by omega) (by omega) (by first | omega | rfl) ?_
    refine lv_istore_n (lv' := [(3, .int (iI ((code / 12 : Nat) : Int))), (0, .long x), (2, .int (iI ((code : Nat) : Int)))]) hx hb dX0_formWith_4 rfl hl (by decide) rfl (fun ls hl => ?_)
    refine lv_iload_n hx hb dX0_formWith_5 rfl (lv_at hl 2 rfl) ?_
    refine ib_bi hx hb dX0_formWith_6 (by decide) ?_
    refine ib_rem (z := ((code % 12 : Nat) : Int)) hx hb dX0_formWith_8 (by omega) (by omega) (by omega) (by omega) (by first | omega | rfl) ?_
    refine lv_istore (lv' := [(4, .int (iI ((code % 12 : Nat) : Int))), (3, .int (iI ((code / 12 : Nat) : Int))), (0, .long x), (2, .int (iI ((code : Nat) : Int)))]) hx hb dX0_formWith_9 hl (by decide) rfl (fun ls hl => ?_)
    refine lv_iload_n hx hb dX0_formWith_11 rfl (lv_at hl 1 rfl) ?_
    refine ib_const hx hb dX0_formWith_12 ?_
    refine ib_icmp_eq (tgt := 21) hx hb dX0_formWith_13 (by decide) ⟨by omega, by omega⟩ ⟨by omega, by omega⟩ (fun c_13 => absurd c_13 (by omega)) (fun c_13 => ?_)
    refine lv_iload_n hx hb dX0_formWith_16 rfl (lv_at hl 1 rfl) ?_
    refine ib_const hx hb dX0_formWith_17 ?_
    refine ib_icmp_ne (tgt := 25) hx hb dX0_formWith_18 (by decide) ⟨by omega, by omega⟩ ⟨by omega, by omega⟩ (fun c_18 => ?_) (fun c_18 => absurd c_18 (by omega))
    refine ib_const hx hb dX0_formWith_25 ?_
    refine lv_istore (lv' := [(5, .int (iI 0)), (4, .int (iI ((code % 12 : Nat) : Int))), (3, .int (iI ((code / 12 : Nat) : Int))), (0, .long x), (2, .int (iI ((code : Nat) : Int)))]) hx hb dX0_formWith_26 hl (by decide) rfl (fun ls hl => ?_)
    refine lv_iload_n hx hb dX0_formWith_28 rfl (lv_at hl 2 rfl) ?_
    refine ib_const hx hb dX0_formWith_29 ?_
    refine ib_icmp_eq (tgt := 38) hx hb dX0_formWith_30 (by decide) ⟨by omega, by omega⟩ ⟨by omega, by omega⟩ (fun c_30 => ?_) (fun c_30 => absurd c_30 (by omega))
    refine ib_const hx hb dX0_formWith_38 ?_
    refine lv_goto (tgt := 43) hx hb dX0_formWith_39 (by decide) ?_
    refine lv_istore (lv' := [(6, .int (iI 1)), (5, .int (iI 0)), (4, .int (iI ((code % 12 : Nat) : Int))), (3, .int (iI ((code / 12 : Nat) : Int))), (0, .long x), (2, .int (iI ((code : Nat) : Int)))]) hx hb dX0_formWith_43 hl (by decide) rfl (fun ls hl => ?_)
    refine lv_lload_n hx hb dX0_formWith_45 rfl (lv_at hl 4 rfl) ?_
    refine ib_const hx hb dX0_formWith_46 ?_
    refine rd_call (va_runS (As := [.long x, .int (iI 0)]) (rest := []) ⟨hx, hb, hml, hown, hts⟩ (mX0_entryAt l x 0 (by omega)) (va_cwS 2 hts gX0_formWith_X0_entryAt rfl rfl rfl hdX0_entryAt ⟨Nat.le_of_ble_eq_true rfl, Nat.le_of_ble_eq_true rfl⟩) tt_pre rfl rfl hl.1 rfl (lv_room (Nat.le_of_ble_eq_true rfl)) dX0_formWith_47 ⟨Nat.le_of_ble_eq_true rfl, Nat.le_of_ble_eq_true rfl⟩) ?_
    have he_47 := ent_lt x 0
    refine lv_istore (lv' := [(7, .int (iI ((ent x 0 : Nat) : Int))), (6, .int (iI 1)), (5, .int (iI 0)), (4, .int (iI ((code % 12 : Nat) : Int))), (3, .int (iI ((code / 12 : Nat) : Int))), (0, .long x), (2, .int (iI ((code : Nat) : Int)))]) hx hb dX0_formWith_50 hl (by decide) rfl (fun ls hl => ?_)
    refine lv_lconst (v := 0) hx hb dX0_formWith_52 (by decide) ?_
    refine lv_lstore (lv' := [(8, .long (0 : Int64)), (7, .int (iI ((ent x 0 : Nat) : Int))), (6, .int (iI 1)), (5, .int (iI 0)), (4, .int (iI ((code % 12 : Nat) : Int))), (3, .int (iI ((code / 12 : Nat) : Int))), (0, .long x), (2, .int (iI ((code : Nat) : Int)))]) hx hb dX0_formWith_53 hl (by decide) rfl (fun ls hl => ?_)
    refine ib_const hx hb dX0_formWith_55 ?_
    refine lv_istore (lv' := [(10, .int (iI 0)), (8, .long (0 : Int64)), (7, .int (iI ((ent x 0 : Nat) : Int))), (6, .int (iI 1)), (5, .int (iI 0)), (4, .int (iI ((code % 12 : Nat) : Int))), (3, .int (iI ((code / 12 : Nat) : Int))), (0, .long x), (2, .int (iI ((code : Nat) : Int)))]) hx hb dX0_formWith_56 hl (by decide) rfl (fun ls hl => ?_)
    have lp_58_3 : ∀ (j n : Nat), n + j = 12 → ∀ ls : Array Slot, lv_has ls 13 [(0, .long x), (4, .int (iI ((code % 12 : Nat) : Int))), (5, .int (iI 0)), (6, .int (iI 1)), (7, .int (iI ((ent x 0 : Nat) : Int))), (8, .long (fwl x code n)), (10, .int (iI ((n : Nat) : Int)))] → W P0 l e (headSpec wsX0_formWith { frames := 2, cells := 0, slots := 0, locals := 42 }).room s m ([.long x, .int (iI ((code : Nat) : Int))] : List Value).toArray below meth c s.heap [] 0 0 (MQ below (rdQ (some (.long (fw x code)))) ([.long x, .int (iI ((code : Nat) : Int))] : List Value).toArray s 0 0 (fun _ => False)) (F0 m 58 ls []) := by
      intro j
      induction j with
      | zero =>
        intro n hn_58  ls hl
        have he0 := ent_lt x 0
        refine lv_iload hx hb dX0_formWith_58 (lv_at hl 6 rfl) ?_
        refine ib_bi hx hb dX0_formWith_60 (by decide) ?_
        refine ib_icmp_ge (tgt := 129) hx hb dX0_formWith_62 (by decide) ⟨by omega, by omega⟩ ⟨by omega, by omega⟩ (fun c_62 => ?_) (fun c_62 => absurd c_62 (by omega))
        refine lv_lload hx hb dX0_formWith_129 (lv_at hl 5 rfl) ?_
        refine st_l (y := fw x code) (congrArg (fwl x code) (show n = 12 by omega)) ?_
        exact W.lret hx hb hr (fun t ht _ => ⟨rfl, ht⟩) (fun _ h => nomatch h) dX0_formWith_131
      | succ j ih_58_3 =>
        intro n hn_58  ls hl
        have he0 := ent_lt x 0
        refine lv_iload hx hb dX0_formWith_58 (lv_at hl 6 rfl) ?_
        refine ib_bi hx hb dX0_formWith_60 (by decide) ?_
        refine ib_icmp_ge (tgt := 129) hx hb dX0_formWith_62 (by decide) ⟨by omega, by omega⟩ ⟨by omega, by omega⟩ (fun c_62 => absurd c_62 (by omega)) (fun c_62 => ?_)
        refine lv_lload_n hx hb dX0_formWith_65 rfl (lv_at hl 0 rfl) ?_
        refine lv_iload hx hb dX0_formWith_66 (lv_at hl 6 rfl) ?_
        refine rd_call (va_runS (As := [.long x, .int (iI ((n : Nat) : Int))]) (rest := []) ⟨hx, hb, hml, hown, hts⟩ (mX0_entryAt l x n (by omega)) (va_cwS 2 hts gX0_formWith_X0_entryAt rfl rfl rfl hdX0_entryAt ⟨Nat.le_of_ble_eq_true rfl, Nat.le_of_ble_eq_true rfl⟩) tt_pre rfl rfl hl.1 rfl (lv_room (Nat.le_of_ble_eq_true rfl)) dX0_formWith_68 ⟨Nat.le_of_ble_eq_true rfl, Nat.le_of_ble_eq_true rfl⟩) ?_
        have he_68 := ent_lt x n
        refine lv_iload hx hb dX0_formWith_71 (lv_at hl 4 rfl) ?_
        refine ib_sub (z := ((ent x n : Nat) : Int) - ((ent x 0 : Nat) : Int)) hx hb dX0_formWith_73 (by omega) ?_
        refine lv_istore (lv' := [(11, .int (iI (((ent x n : Nat) : Int) - ((ent x 0 : Nat) : Int)))), (0, .long x), (4, .int (iI ((code % 12 : Nat) : Int))), (5, .int (iI 0)), (6, .int (iI 1)), (7, .int (iI ((ent x 0 : Nat) : Int))), (8, .long (fwl x code n)), (10, .int (iI ((n : Nat) : Int)))]) hx hb dX0_formWith_74 hl (by decide) rfl (fun ls hl => ?_)
        refine lv_iload hx hb dX0_formWith_76 (lv_at hl 3 rfl) ?_
        refine ib_if_eq (tgt := 89) hx hb dX0_formWith_78 (by decide) ⟨by omega, by omega⟩ (fun c_78 => ?_) (fun c_78 => absurd c_78 (by decide))
        refine lv_iload hx hb dX0_formWith_89 (lv_at hl 2 rfl) ?_
        refine lv_iload hx hb dX0_formWith_91 (lv_at hl 0 rfl) ?_
        refine ib_add (z := ((code % 12 : Nat) : Int) + (((ent x n : Nat) : Int) - ((ent x 0 : Nat) : Int))) hx hb dX0_formWith_93 (by omega) ?_
        refine rd_call (va_runS (As := [.int (iI (((code % 12 : Nat) : Int) + (((ent x n : Nat) : Int) - ((ent x 0 : Nat) : Int))))]) (rest := []) ⟨hx, hb, hml, hown, hts⟩ (mX0_wrap l (((code % 12 : Nat) : Int) + (((ent x n : Nat) : Int) - ((ent x 0 : Nat) : Int))) ⟨by omega, by omega⟩) (va_cwS 1 hts gX0_formWith_X0_wrap rfl rfl rfl hdX0_wrap ⟨Nat.le_of_ble_eq_true rfl, Nat.le_of_ble_eq_true rfl⟩) tt_pre rfl rfl hl.1 rfl (lv_room (Nat.le_of_ble_eq_true rfl)) dX0_formWith_94 ⟨Nat.le_of_ble_eq_true rfl, Nat.le_of_ble_eq_true rfl⟩) ?_
        have hm_94 := md_lt (((code % 12 : Nat) : Int) + (((ent x n : Nat) : Int) - ((ent x 0 : Nat) : Int)))
        refine lv_istore (lv' := [(12, .int (iI ((md (((code % 12 : Nat) : Int) + (((ent x n : Nat) : Int) - ((ent x 0 : Nat) : Int))) : Nat) : Int))), (11, .int (iI (((ent x n : Nat) : Int) - ((ent x 0 : Nat) : Int)))), (0, .long x), (4, .int (iI ((code % 12 : Nat) : Int))), (5, .int (iI 0)), (6, .int (iI 1)), (7, .int (iI ((ent x 0 : Nat) : Int))), (8, .long (fwl x code n)), (10, .int (iI ((n : Nat) : Int)))]) hx hb dX0_formWith_97 hl (by decide) rfl (fun ls hl => ?_)
        refine lv_lload hx hb dX0_formWith_99 (lv_at hl 7 rfl) ?_
        refine lv_iload hx hb dX0_formWith_101 (lv_at hl 5 rfl) ?_
        refine ib_if_eq (tgt := 114) hx hb dX0_formWith_103 (by decide) ⟨by omega, by omega⟩ (fun c_103 => absurd c_103 (by decide)) (fun c_103 => ?_)
        refine ib_bi hx hb dX0_formWith_106 (by decide) ?_
        refine lv_iload hx hb dX0_formWith_108 (lv_at hl 8 rfl) ?_
        refine ib_sub (z := ((11 - n : Nat) : Int)) hx hb dX0_formWith_110 (by omega) ?_
        refine lv_goto (tgt := 116) hx hb dX0_formWith_111 (by decide) ?_
        refine lv_iload hx hb dX0_formWith_116 (lv_at hl 0 rfl) ?_
        refine rd_call (va_runS (As := [.long (fwl x code n), .int (iI ((11 - n : Nat) : Int)), .int (iI ((md (((code % 12 : Nat) : Int) + (((ent x n : Nat) : Int) - ((ent x 0 : Nat) : Int))) : Nat) : Int))]) (rest := []) ⟨hx, hb, hml, hown, hts⟩ (mX0_withEntry l (fwl x code n) (11 - n) (md (((code % 12 : Nat) : Int) + (((ent x n : Nat) : Int) - ((ent x 0 : Nat) : Int)))) (by omega)) (va_cwS 3 hts gX0_formWith_X0_withEntry rfl rfl rfl hdX0_withEntry ⟨Nat.le_of_ble_eq_true rfl, Nat.le_of_ble_eq_true rfl⟩) tt_pre rfl rfl hl.1 rfl (lv_room (Nat.le_of_ble_eq_true rfl)) dX0_formWith_118 ⟨Nat.le_of_ble_eq_true rfl, Nat.le_of_ble_eq_true rfl⟩) ?_
        refine st_l (y := fwl x code (n + 1)) (by simp [fwl, fwp, fwt, hk]) ?_
        refine lv_lstore (lv' := [(8, .long (fwl x code (n + 1))), (12, .int (iI ((md (((code % 12 : Nat) : Int) + (((ent x n : Nat) : Int) - ((ent x 0 : Nat) : Int))) : Nat) : Int))), (11, .int (iI (((ent x n : Nat) : Int) - ((ent x 0 : Nat) : Int)))), (0, .long x), (4, .int (iI ((code % 12 : Nat) : Int))), (5, .int (iI 0)), (6, .int (iI 1)), (7, .int (iI ((ent x 0 : Nat) : Int))), (10, .int (iI ((n : Nat) : Int)))]) hx hb dX0_formWith_121 hl (by decide) rfl (fun ls hl => ?_)
        refine lv_iinc (v := iI ((n + 1 : Nat) : Int)) (lv' := [(10, .int (iI ((n + 1 : Nat) : Int))), (8, .long (fwl x code (n + 1))), (12, .int (iI ((md (((code % 12 : Nat) : Int) + (((ent x n : Nat) : Int) - ((ent x 0 : Nat) : Int))) : Nat) : Int))), (11, .int (iI (((ent x n : Nat) : Int) - ((ent x 0 : Nat) : Int)))), (0, .long x), (4, .int (iI ((code % 12 : Nat) : Int))), (5, .int (iI 0)), (6, .int (iI 1)), (7, .int (iI ((ent x 0 : Nat) : Int)))]) hx hb dX0_formWith_123 hl (k := 8) rfl (iI_inc (by omega)) (by decide) rfl (fun ls hl => ?_)
        refine lv_goto (tgt := 58) hx hb dX0_formWith_126 (by decide) ?_
        exact ih_58_3 (n + 1) (by omega)  _ (lv_sub hl [4, 5, 6, 7, 8, 1, 0] rfl)
    exact lp_58_3 12 0 (by omega)  _ (lv_sub hl [7, 5, 4, 3, 2, 1, 0] rfl)
  · skip
    refine lv_iload_n hx hb dX0_formWith_0 rfl (lv_at hl 1 rfl) ?_
    refine ib_bi hx hb dX0_formWith_1 (by decide) ?_
    refine ib_div (z := ((code / 12 : Nat) : Int)) hx hb dX0_formWith_3 (by omega) (by omega) (by omega) (by omega) (by first | omega | rfl) ?_
    refine lv_istore_n (lv' := [(3, .int (iI ((code / 12 : Nat) : Int))), (0, .long x), (2, .int (iI ((code : Nat) : Int)))]) hx hb dX0_formWith_4 rfl hl (by decide) rfl (fun ls hl => ?_)
    refine lv_iload_n hx hb dX0_formWith_5 rfl (lv_at hl 2 rfl) ?_
    refine ib_bi hx hb dX0_formWith_6 (by decide) ?_
    refine ib_rem (z := ((code % 12 : Nat) : Int)) hx hb dX0_formWith_8 (by omega) (by omega) (by omega) (by omega) (by first | omega | rfl) ?_
    refine lv_istore (lv' := [(4, .int (iI ((code % 12 : Nat) : Int))), (3, .int (iI ((code / 12 : Nat) : Int))), (0, .long x), (2, .int (iI ((code : Nat) : Int)))]) hx hb dX0_formWith_9 hl (by decide) rfl (fun ls hl => ?_)
    refine lv_iload_n hx hb dX0_formWith_11 rfl (lv_at hl 1 rfl) ?_
    refine ib_const hx hb dX0_formWith_12 ?_
    refine ib_icmp_eq (tgt := 21) hx hb dX0_formWith_13 (by decide) ⟨by omega, by omega⟩ ⟨by omega, by omega⟩ (fun c_13 => absurd c_13 (by omega)) (fun c_13 => ?_)
    refine lv_iload_n hx hb dX0_formWith_16 rfl (lv_at hl 1 rfl) ?_
    refine ib_const hx hb dX0_formWith_17 ?_
    refine ib_icmp_ne (tgt := 25) hx hb dX0_formWith_18 (by decide) ⟨by omega, by omega⟩ ⟨by omega, by omega⟩ (fun c_18 => absurd c_18 (by omega)) (fun c_18 => ?_)
    refine ib_const hx hb dX0_formWith_21 ?_
    refine lv_goto (tgt := 26) hx hb dX0_formWith_22 (by decide) ?_
    refine lv_istore (lv' := [(5, .int (iI 1)), (4, .int (iI ((code % 12 : Nat) : Int))), (3, .int (iI ((code / 12 : Nat) : Int))), (0, .long x), (2, .int (iI ((code : Nat) : Int)))]) hx hb dX0_formWith_26 hl (by decide) rfl (fun ls hl => ?_)
    refine lv_iload_n hx hb dX0_formWith_28 rfl (lv_at hl 2 rfl) ?_
    refine ib_const hx hb dX0_formWith_29 ?_
    refine ib_icmp_eq (tgt := 38) hx hb dX0_formWith_30 (by decide) ⟨by omega, by omega⟩ ⟨by omega, by omega⟩ (fun c_30 => absurd c_30 (by omega)) (fun c_30 => ?_)
    refine lv_iload_n hx hb dX0_formWith_33 rfl (lv_at hl 2 rfl) ?_
    refine ib_const hx hb dX0_formWith_34 ?_
    refine ib_icmp_ne (tgt := 42) hx hb dX0_formWith_35 (by decide) ⟨by omega, by omega⟩ ⟨by omega, by omega⟩ (fun c_35 => absurd c_35 (by omega)) (fun c_35 => ?_)
    refine ib_const hx hb dX0_formWith_38 ?_
    refine lv_goto (tgt := 43) hx hb dX0_formWith_39 (by decide) ?_
    refine lv_istore (lv' := [(6, .int (iI 1)), (5, .int (iI 1)), (4, .int (iI ((code % 12 : Nat) : Int))), (3, .int (iI ((code / 12 : Nat) : Int))), (0, .long x), (2, .int (iI ((code : Nat) : Int)))]) hx hb dX0_formWith_43 hl (by decide) rfl (fun ls hl => ?_)
    refine lv_lload_n hx hb dX0_formWith_45 rfl (lv_at hl 4 rfl) ?_
    refine ib_const hx hb dX0_formWith_46 ?_
    refine rd_call (va_runS (As := [.long x, .int (iI 0)]) (rest := []) ⟨hx, hb, hml, hown, hts⟩ (mX0_entryAt l x 0 (by omega)) (va_cwS 2 hts gX0_formWith_X0_entryAt rfl rfl rfl hdX0_entryAt ⟨Nat.le_of_ble_eq_true rfl, Nat.le_of_ble_eq_true rfl⟩) tt_pre rfl rfl hl.1 rfl (lv_room (Nat.le_of_ble_eq_true rfl)) dX0_formWith_47 ⟨Nat.le_of_ble_eq_true rfl, Nat.le_of_ble_eq_true rfl⟩) ?_
    have he_47 := ent_lt x 0
    refine lv_istore (lv' := [(7, .int (iI ((ent x 0 : Nat) : Int))), (6, .int (iI 1)), (5, .int (iI 1)), (4, .int (iI ((code % 12 : Nat) : Int))), (3, .int (iI ((code / 12 : Nat) : Int))), (0, .long x), (2, .int (iI ((code : Nat) : Int)))]) hx hb dX0_formWith_50 hl (by decide) rfl (fun ls hl => ?_)
    refine lv_lconst (v := 0) hx hb dX0_formWith_52 (by decide) ?_
    refine lv_lstore (lv' := [(8, .long (0 : Int64)), (7, .int (iI ((ent x 0 : Nat) : Int))), (6, .int (iI 1)), (5, .int (iI 1)), (4, .int (iI ((code % 12 : Nat) : Int))), (3, .int (iI ((code / 12 : Nat) : Int))), (0, .long x), (2, .int (iI ((code : Nat) : Int)))]) hx hb dX0_formWith_53 hl (by decide) rfl (fun ls hl => ?_)
    refine ib_const hx hb dX0_formWith_55 ?_
    refine lv_istore (lv' := [(10, .int (iI 0)), (8, .long (0 : Int64)), (7, .int (iI ((ent x 0 : Nat) : Int))), (6, .int (iI 1)), (5, .int (iI 1)), (4, .int (iI ((code % 12 : Nat) : Int))), (3, .int (iI ((code / 12 : Nat) : Int))), (0, .long x), (2, .int (iI ((code : Nat) : Int)))]) hx hb dX0_formWith_56 hl (by decide) rfl (fun ls hl => ?_)
    have lp_58_4 : ∀ (j n : Nat), n + j = 12 → ∀ ls : Array Slot, lv_has ls 13 [(0, .long x), (4, .int (iI ((code % 12 : Nat) : Int))), (5, .int (iI 1)), (6, .int (iI 1)), (7, .int (iI ((ent x 0 : Nat) : Int))), (8, .long (fwl x code n)), (10, .int (iI ((n : Nat) : Int)))] → W P0 l e (headSpec wsX0_formWith { frames := 2, cells := 0, slots := 0, locals := 42 }).room s m ([.long x, .int (iI ((code : Nat) : Int))] : List Value).toArray below meth c s.heap [] 0 0 (MQ below (rdQ (some (.long (fw x code)))) ([.long x, .int (iI ((code : Nat) : Int))] : List Value).toArray s 0 0 (fun _ => False)) (F0 m 58 ls []) := by
      intro j
      induction j with
      | zero =>
        intro n hn_58  ls hl
        have he0 := ent_lt x 0
        refine lv_iload hx hb dX0_formWith_58 (lv_at hl 6 rfl) ?_
        refine ib_bi hx hb dX0_formWith_60 (by decide) ?_
        refine ib_icmp_ge (tgt := 129) hx hb dX0_formWith_62 (by decide) ⟨by omega, by omega⟩ ⟨by omega, by omega⟩ (fun c_62 => ?_) (fun c_62 => absurd c_62 (by omega))
        refine lv_lload hx hb dX0_formWith_129 (lv_at hl 5 rfl) ?_
        refine st_l (y := fw x code) (congrArg (fwl x code) (show n = 12 by omega)) ?_
        exact W.lret hx hb hr (fun t ht _ => ⟨rfl, ht⟩) (fun _ h => nomatch h) dX0_formWith_131
      | succ j ih_58_4 =>
        intro n hn_58  ls hl
        have he0 := ent_lt x 0
        refine lv_iload hx hb dX0_formWith_58 (lv_at hl 6 rfl) ?_
        refine ib_bi hx hb dX0_formWith_60 (by decide) ?_
        refine ib_icmp_ge (tgt := 129) hx hb dX0_formWith_62 (by decide) ⟨by omega, by omega⟩ ⟨by omega, by omega⟩ (fun c_62 => absurd c_62 (by omega)) (fun c_62 => ?_)
        refine lv_lload_n hx hb dX0_formWith_65 rfl (lv_at hl 0 rfl) ?_
        refine lv_iload hx hb dX0_formWith_66 (lv_at hl 6 rfl) ?_
        refine rd_call (va_runS (As := [.long x, .int (iI ((n : Nat) : Int))]) (rest := []) ⟨hx, hb, hml, hown, hts⟩ (mX0_entryAt l x n (by omega)) (va_cwS 2 hts gX0_formWith_X0_entryAt rfl rfl rfl hdX0_entryAt ⟨Nat.le_of_ble_eq_true rfl, Nat.le_of_ble_eq_true rfl⟩) tt_pre rfl rfl hl.1 rfl (lv_room (Nat.le_of_ble_eq_true rfl)) dX0_formWith_68 ⟨Nat.le_of_ble_eq_true rfl, Nat.le_of_ble_eq_true rfl⟩) ?_
        have he_68 := ent_lt x n
        refine lv_iload hx hb dX0_formWith_71 (lv_at hl 4 rfl) ?_
        refine ib_sub (z := ((ent x n : Nat) : Int) - ((ent x 0 : Nat) : Int)) hx hb dX0_formWith_73 (by omega) ?_
        refine lv_istore (lv' := [(11, .int (iI (((ent x n : Nat) : Int) - ((ent x 0 : Nat) : Int)))), (0, .long x), (4, .int (iI ((code % 12 : Nat) : Int))), (5, .int (iI 1)), (6, .int (iI 1)), (7, .int (iI ((ent x 0 : Nat) : Int))), (8, .long (fwl x code n)), (10, .int (iI ((n : Nat) : Int)))]) hx hb dX0_formWith_74 hl (by decide) rfl (fun ls hl => ?_)
        refine lv_iload hx hb dX0_formWith_76 (lv_at hl 3 rfl) ?_
        refine ib_if_eq (tgt := 89) hx hb dX0_formWith_78 (by decide) ⟨by omega, by omega⟩ (fun c_78 => absurd c_78 (by decide)) (fun c_78 => ?_)
        refine lv_iload hx hb dX0_formWith_81 (lv_at hl 2 rfl) ?_
        refine lv_iload hx hb dX0_formWith_83 (lv_at hl 0 rfl) ?_
        refine ib_sub (z := ((code % 12 : Nat) : Int) - (((ent x n : Nat) : Int) - ((ent x 0 : Nat) : Int))) hx hb dX0_formWith_85 (by omega) ?_
        refine lv_goto (tgt := 94) hx hb dX0_formWith_86 (by decide) ?_
        refine rd_call (va_runS (As := [.int (iI (((code % 12 : Nat) : Int) - (((ent x n : Nat) : Int) - ((ent x 0 : Nat) : Int))))]) (rest := []) ⟨hx, hb, hml, hown, hts⟩ (mX0_wrap l (((code % 12 : Nat) : Int) - (((ent x n : Nat) : Int) - ((ent x 0 : Nat) : Int))) ⟨by omega, by omega⟩) (va_cwS 1 hts gX0_formWith_X0_wrap rfl rfl rfl hdX0_wrap ⟨Nat.le_of_ble_eq_true rfl, Nat.le_of_ble_eq_true rfl⟩) tt_pre rfl rfl hl.1 rfl (lv_room (Nat.le_of_ble_eq_true rfl)) dX0_formWith_94 ⟨Nat.le_of_ble_eq_true rfl, Nat.le_of_ble_eq_true rfl⟩) ?_
        have hm_94 := md_lt (((code % 12 : Nat) : Int) - (((ent x n : Nat) : Int) - ((ent x 0 : Nat) : Int)))
        refine lv_istore (lv' := [(12, .int (iI ((md (((code % 12 : Nat) : Int) - (((ent x n : Nat) : Int) - ((ent x 0 : Nat) : Int))) : Nat) : Int))), (11, .int (iI (((ent x n : Nat) : Int) - ((ent x 0 : Nat) : Int)))), (0, .long x), (4, .int (iI ((code % 12 : Nat) : Int))), (5, .int (iI 1)), (6, .int (iI 1)), (7, .int (iI ((ent x 0 : Nat) : Int))), (8, .long (fwl x code n)), (10, .int (iI ((n : Nat) : Int)))]) hx hb dX0_formWith_97 hl (by decide) rfl (fun ls hl => ?_)
        refine lv_lload hx hb dX0_formWith_99 (lv_at hl 7 rfl) ?_
        refine lv_iload hx hb dX0_formWith_101 (lv_at hl 5 rfl) ?_
        refine ib_if_eq (tgt := 114) hx hb dX0_formWith_103 (by decide) ⟨by omega, by omega⟩ (fun c_103 => absurd c_103 (by decide)) (fun c_103 => ?_)
        refine ib_bi hx hb dX0_formWith_106 (by decide) ?_
        refine lv_iload hx hb dX0_formWith_108 (lv_at hl 8 rfl) ?_
        refine ib_sub (z := ((11 - n : Nat) : Int)) hx hb dX0_formWith_110 (by omega) ?_
        refine lv_goto (tgt := 116) hx hb dX0_formWith_111 (by decide) ?_
        refine lv_iload hx hb dX0_formWith_116 (lv_at hl 0 rfl) ?_
        refine rd_call (va_runS (As := [.long (fwl x code n), .int (iI ((11 - n : Nat) : Int)), .int (iI ((md (((code % 12 : Nat) : Int) - (((ent x n : Nat) : Int) - ((ent x 0 : Nat) : Int))) : Nat) : Int))]) (rest := []) ⟨hx, hb, hml, hown, hts⟩ (mX0_withEntry l (fwl x code n) (11 - n) (md (((code % 12 : Nat) : Int) - (((ent x n : Nat) : Int) - ((ent x 0 : Nat) : Int)))) (by omega)) (va_cwS 3 hts gX0_formWith_X0_withEntry rfl rfl rfl hdX0_withEntry ⟨Nat.le_of_ble_eq_true rfl, Nat.le_of_ble_eq_true rfl⟩) tt_pre rfl rfl hl.1 rfl (lv_room (Nat.le_of_ble_eq_true rfl)) dX0_formWith_118 ⟨Nat.le_of_ble_eq_true rfl, Nat.le_of_ble_eq_true rfl⟩) ?_
        refine st_l (y := fwl x code (n + 1)) (by simp [fwl, fwp, fwt, hk]) ?_
        refine lv_lstore (lv' := [(8, .long (fwl x code (n + 1))), (12, .int (iI ((md (((code % 12 : Nat) : Int) - (((ent x n : Nat) : Int) - ((ent x 0 : Nat) : Int))) : Nat) : Int))), (11, .int (iI (((ent x n : Nat) : Int) - ((ent x 0 : Nat) : Int)))), (0, .long x), (4, .int (iI ((code % 12 : Nat) : Int))), (5, .int (iI 1)), (6, .int (iI 1)), (7, .int (iI ((ent x 0 : Nat) : Int))), (10, .int (iI ((n : Nat) : Int)))]) hx hb dX0_formWith_121 hl (by decide) rfl (fun ls hl => ?_)
        refine lv_iinc (v := iI ((n + 1 : Nat) : Int)) (lv' := [(10, .int (iI ((n + 1 : Nat) : Int))), (8, .long (fwl x code (n + 1))), (12, .int (iI ((md (((code % 12 : Nat) : Int) - (((ent x n : Nat) : Int) - ((ent x 0 : Nat) : Int))) : Nat) : Int))), (11, .int (iI (((ent x n : Nat) : Int) - ((ent x 0 : Nat) : Int)))), (0, .long x), (4, .int (iI ((code % 12 : Nat) : Int))), (5, .int (iI 1)), (6, .int (iI 1)), (7, .int (iI ((ent x 0 : Nat) : Int)))]) hx hb dX0_formWith_123 hl (k := 8) rfl (iI_inc (by omega)) (by decide) rfl (fun ls hl => ?_)
        refine lv_goto (tgt := 58) hx hb dX0_formWith_126 (by decide) ?_
        exact ih_58_4 (n + 1) (by omega)  _ (lv_sub hl [4, 5, 6, 7, 8, 1, 0] rfl)
    exact lp_58_4 12 0 (by omega)  _ (lv_sub hl [7, 5, 4, 3, 2, 1, 0] rfl)

set_option maxHeartbeats 4000000 in
set_option maxRecDepth 100000 in
theorem mX0_setOf (l : Launch) (x : Int64) (p k : Nat) (h : p + k ≤ 16) : rd l yX0_setOf wsX0_setOf { frames := 1, cells := 0, slots := 0, locals := 22 } [.long x, .int (iI ((p : Nat) : Int)), .int (iI ((k : Nat) : Int))] tt_ (some (.int (iI ((setN x p k : Nat) : Int)))) := by
  refine Met.ofW (cc := cX0_setOf) (maxL := 6) (ret := (some .int)) (by decide) rfl ?_
  intro P0 e s m args below meth c s₁ B hml hv
  obtain ⟨rfl, -⟩ := hv
  have hx := B.exec
  have hb := B.bytes
  have hr := B.returns
  have hts := atoms_spec (ws := wsX0_setOf) B.pre
  have hown : s.vm.findClass RX0 = some m.cls := findClass_of_methodNamed B.named
  have hlocks := B.notSynchronized
  have hl := lv_entry ([.long x, .int (iI ((p : Nat) : Int)), .int (iI ((k : Nat) : Int))]) (n := 6) (Nat.le_of_ble_eq_true rfl)
  rw [lg_entry_eq]
  generalize (lg_sl ([.long x, .int (iI ((p : Nat) : Int)), .int (iI ((k : Nat) : Int))]) ++ List.replicate (6 - (lg_sl ([.long x, .int (iI ((p : Nat) : Int)), .int (iI ((k : Nat) : Int))])).length) Slot.unset).toArray = ls at hl ⊢
  have hl : lv_has ls 6 [(0, .long x), (2, .int (iI ((p : Nat) : Int))), (3, .int (iI ((k : Nat) : Int)))] := hl
  refine ib_const hx hb dX0_setOf_0 ?_
  refine lv_istore (lv' := [(4, .int (iI 0)), (0, .long x), (2, .int (iI ((p : Nat) : Int))), (3, .int (iI ((k : Nat) : Int)))]) hx hb dX0_setOf_1 hl (by decide) rfl (fun ls hl => ?_)
  refine ib_const hx hb dX0_setOf_3 ?_
  refine lv_istore (lv' := [(5, .int (iI 0)), (4, .int (iI 0)), (0, .long x), (2, .int (iI ((p : Nat) : Int))), (3, .int (iI ((k : Nat) : Int)))]) hx hb dX0_setOf_4 hl (by decide) rfl (fun ls hl => ?_)
  have lp_6_1 : ∀ (j n : Nat), n + j = k → ∀ ls : Array Slot, lv_has ls 6 [(0, .long x), (2, .int (iI ((p : Nat) : Int))), (3, .int (iI ((k : Nat) : Int))), (4, .int (iI ((setN x p n : Nat) : Int))), (5, .int (iI ((n : Nat) : Int)))] → W P0 l e (headSpec wsX0_setOf { frames := 1, cells := 0, slots := 0, locals := 22 }).room s m ([.long x, .int (iI ((p : Nat) : Int)), .int (iI ((k : Nat) : Int))] : List Value).toArray below meth c s.heap [] 0 0 (MQ below (rdQ (some (.int (iI ((setN x p k : Nat) : Int))))) ([.long x, .int (iI ((p : Nat) : Int)), .int (iI ((k : Nat) : Int))] : List Value).toArray s 0 0 (fun _ => False)) (F0 m 6 ls []) := by
    intro j
    induction j with
    | zero =>
      intro n hn_6  ls hl
      have hs := setN_lt x p n
      refine lv_iload hx hb dX0_setOf_6 (lv_at hl 4 rfl) ?_
      refine lv_iload_n hx hb dX0_setOf_8 rfl (lv_at hl 2 rfl) ?_
      refine ib_icmp_ge (tgt := 33) hx hb dX0_setOf_9 (by decide) ⟨by omega, by omega⟩ ⟨by omega, by omega⟩ (fun c_9 => ?_) (fun c_9 => absurd c_9 (by omega))
      refine lv_iload hx hb dX0_setOf_33 (lv_at hl 3 rfl) ?_
      refine st_i (y := iI ((setN x p k : Nat) : Int)) (congrArg (fun z : Nat => iI ((setN x p z : Nat) : Int)) (show n = k by omega)) ?_
      exact W.iret hx hb hr (fun t ht _ => ⟨rfl, ht⟩) (fun _ h => nomatch h) dX0_setOf_35
    | succ j ih_6_1 =>
      intro n hn_6  ls hl
      have hs := setN_lt x p n
      refine lv_iload hx hb dX0_setOf_6 (lv_at hl 4 rfl) ?_
      refine lv_iload_n hx hb dX0_setOf_8 rfl (lv_at hl 2 rfl) ?_
      refine ib_icmp_ge (tgt := 33) hx hb dX0_setOf_9 (by decide) ⟨by omega, by omega⟩ ⟨by omega, by omega⟩ (fun c_9 => absurd c_9 (by omega)) (fun c_9 => ?_)
      refine lv_iload hx hb dX0_setOf_12 (lv_at hl 3 rfl) ?_
      refine ib_const hx hb dX0_setOf_14 ?_
      refine lv_lload_n hx hb dX0_setOf_15 rfl (lv_at hl 0 rfl) ?_
      refine lv_iload_n hx hb dX0_setOf_16 rfl (lv_at hl 1 rfl) ?_
      refine lv_iload hx hb dX0_setOf_17 (lv_at hl 4 rfl) ?_
      refine ib_add (z := ((p + n : Nat) : Int)) hx hb dX0_setOf_19 (by omega) ?_
      refine rd_call (va_runS (As := [.long x, .int (iI ((p + n : Nat) : Int))]) (rest := [.int (iI 1), .int (iI ((setN x p n : Nat) : Int))]) ⟨hx, hb, hml, hown, hts⟩ (mX0_entryAt l x (p + n) (by omega)) (va_cwS 2 hts gX0_setOf_X0_entryAt rfl rfl rfl hdX0_entryAt ⟨Nat.le_of_ble_eq_true rfl, Nat.le_of_ble_eq_true rfl⟩) tt_pre rfl rfl hl.1 rfl (lv_room (Nat.le_of_ble_eq_true rfl)) dX0_setOf_20 ⟨Nat.le_of_ble_eq_true rfl, Nat.le_of_ble_eq_true rfl⟩) ?_
      have he_20 := ent_lt x (p + n)
      refine lv_ishl hx hb dX0_setOf_23 ?_
      refine st_i (y := iI ((2 ^ ent x (p + n) : Nat) : Int)) (ir_shl1 (by omega)) ?_
      refine lv_ior hx hb dX0_setOf_24 ?_
      refine st_i (y := iI ((setN x p (n + 1) : Nat) : Int)) (ir_or _ _) ?_
      refine lv_istore (lv' := [(4, .int (iI ((setN x p (n + 1) : Nat) : Int))), (0, .long x), (2, .int (iI ((p : Nat) : Int))), (3, .int (iI ((k : Nat) : Int))), (5, .int (iI ((n : Nat) : Int)))]) hx hb dX0_setOf_25 hl (by decide) rfl (fun ls hl => ?_)
      refine lv_iinc (v := iI ((n + 1 : Nat) : Int)) (lv' := [(5, .int (iI ((n + 1 : Nat) : Int))), (4, .int (iI ((setN x p (n + 1) : Nat) : Int))), (0, .long x), (2, .int (iI ((p : Nat) : Int))), (3, .int (iI ((k : Nat) : Int)))]) hx hb dX0_setOf_27 hl (k := 4) rfl (iI_inc (by omega)) (by decide) rfl (fun ls hl => ?_)
      refine lv_goto (tgt := 6) hx hb dX0_setOf_30 (by decide) ?_
      exact ih_6_1 (n + 1) (by omega)  _ (lv_sub hl [2, 3, 4, 1, 0] rfl)
  exact lp_6_1 k 0 (by omega)  _ (lv_sub hl [2, 3, 4, 1, 0] rfl)

set_option maxHeartbeats 4000000 in
set_option maxRecDepth 100000 in
theorem mX0_transposed (l : Launch) (sv b : Nat) (h : sv < 4096) (hb9 : b ≤ 12) : rd l yX0_transposed wsX0_transposed { frames := 0, cells := 0, slots := 0, locals := 0 } [.int (iI ((sv : Nat) : Int)), .int (iI ((b : Nat) : Int))] tt_ (some (.int (iI ((trN sv b : Nat) : Int)))) := by
  refine Met.ofW (cc := cX0_transposed) (maxL := 2) (ret := (some .int)) (by decide) rfl ?_
  intro P0 e s m args below meth c s₁ B hml hv
  obtain ⟨rfl, -⟩ := hv
  have hx := B.exec
  have hb := B.bytes
  have hr := B.returns
  have hts := atoms_spec (ws := wsX0_transposed) B.pre
  have hown : s.vm.findClass RX0 = some m.cls := findClass_of_methodNamed B.named
  have hlocks := B.notSynchronized
  have hl := lv_entry ([.int (iI ((sv : Nat) : Int)), .int (iI ((b : Nat) : Int))]) (n := 2) (Nat.le_of_ble_eq_true rfl)
  rw [lg_entry_eq]
  generalize (lg_sl ([.int (iI ((sv : Nat) : Int)), .int (iI ((b : Nat) : Int))]) ++ List.replicate (2 - (lg_sl ([.int (iI ((sv : Nat) : Int)), .int (iI ((b : Nat) : Int))])).length) Slot.unset).toArray = ls at hl ⊢
  have hl : lv_has ls 2 [(0, .int (iI ((sv : Nat) : Int))), (1, .int (iI ((b : Nat) : Int)))] := hl
  refine lv_iload_n hx hb dX0_transposed_0 rfl (lv_at hl 0 rfl) ?_
  refine lv_iload_n hx hb dX0_transposed_1 rfl (lv_at hl 1 rfl) ?_
  refine lv_ishl hx hb dX0_transposed_2 ?_
  refine st_i (y := iI ((sv * 2 ^ b : Nat) : Int)) (ir_shl (by omega) (tr_b h hb9)) ?_
  refine lv_iload_n hx hb dX0_transposed_3 rfl (lv_at hl 0 rfl) ?_
  refine ib_bi hx hb dX0_transposed_4 (by decide) ?_
  refine lv_iload_n hx hb dX0_transposed_6 rfl (lv_at hl 1 rfl) ?_
  refine ib_sub (z := ((12 - b : Nat) : Int)) hx hb dX0_transposed_7 (by omega) ?_
  refine lv_iushr hx hb dX0_transposed_8 rfl ?_
  refine st_i (y := iI ((sv / 2 ^ (12 - b) : Nat) : Int)) (ir_ushr (by omega) (by omega)) ?_
  refine lv_ior hx hb dX0_transposed_9 ?_
  refine st_i (y := iI ((sv * 2 ^ b ||| sv / 2 ^ (12 - b) : Nat) : Int)) (ir_or _ _) ?_
  refine ib_si hx hb dX0_transposed_10 (by decide) ?_
  refine lv_iand hx hb dX0_transposed_13 ?_
  refine st_i (y := iI ((trN sv b : Nat) : Int)) (ir_and _ 4095) ?_
  exact W.iret hx hb hr (fun t ht _ => ⟨rfl, ht⟩) (fun _ h => nomatch h) dX0_transposed_14

set_option maxHeartbeats 4000000 in
set_option maxRecDepth 100000 in
theorem mX0_inverted (l : Launch) (sv : Nat) (h : sv < 4096) : rd l yX0_inverted wsX0_inverted { frames := 2, cells := 0, slots := 0, locals := 42 } [.int (iI ((sv : Nat) : Int))] tt_ (some (.int (iI ((ivN sv 12 : Nat) : Int)))) := by
  refine Met.ofW (cc := cX0_inverted) (maxL := 3) (ret := (some .int)) (by decide) rfl ?_
  intro P0 e s m args below meth c s₁ B hml hv
  obtain ⟨rfl, -⟩ := hv
  have hx := B.exec
  have hb := B.bytes
  have hr := B.returns
  have hts := atoms_spec (ws := wsX0_inverted) B.pre
  have hown : s.vm.findClass RX0 = some m.cls := findClass_of_methodNamed B.named
  have hlocks := B.notSynchronized
  have hl := lv_entry ([.int (iI ((sv : Nat) : Int))]) (n := 3) (Nat.le_of_ble_eq_true rfl)
  rw [lg_entry_eq]
  generalize (lg_sl ([.int (iI ((sv : Nat) : Int))]) ++ List.replicate (3 - (lg_sl ([.int (iI ((sv : Nat) : Int))])).length) Slot.unset).toArray = ls at hl ⊢
  have hl : lv_has ls 3 [(0, .int (iI ((sv : Nat) : Int)))] := hl
  refine ib_const hx hb dX0_inverted_0 ?_
  refine lv_istore_n (lv' := [(1, .int (iI 0)), (0, .int (iI ((sv : Nat) : Int)))]) hx hb dX0_inverted_1 rfl hl (by decide) rfl (fun ls hl => ?_)
  refine ib_const hx hb dX0_inverted_2 ?_
  refine lv_istore_n (lv' := [(2, .int (iI 0)), (1, .int (iI 0)), (0, .int (iI ((sv : Nat) : Int)))]) hx hb dX0_inverted_3 rfl hl (by decide) rfl (fun ls hl => ?_)
  have lp_4_1 : ∀ (j n : Nat), n + j = 12 → ∀ ls : Array Slot, lv_has ls 3 [(0, .int (iI ((sv : Nat) : Int))), (1, .int (iI ((ivN sv n : Nat) : Int))), (2, .int (iI ((n : Nat) : Int)))] → W P0 l e (headSpec wsX0_inverted { frames := 2, cells := 0, slots := 0, locals := 42 }).room s m ([.int (iI ((sv : Nat) : Int))] : List Value).toArray below meth c s.heap [] 0 0 (MQ below (rdQ (some (.int (iI ((ivN sv 12 : Nat) : Int))))) ([.int (iI ((sv : Nat) : Int))] : List Value).toArray s 0 0 (fun _ => False)) (F0 m 4 ls []) := by
    intro j
    induction j with
    | zero =>
      intro n hn_4  ls hl
      refine lv_iload_n hx hb dX0_inverted_4 rfl (lv_at hl 2 rfl) ?_
      refine ib_bi hx hb dX0_inverted_5 (by decide) ?_
      refine ib_icmp_ge (tgt := 30) hx hb dX0_inverted_7 (by decide) ⟨by omega, by omega⟩ ⟨by omega, by omega⟩ (fun c_7 => ?_) (fun c_7 => absurd c_7 (by omega))
      refine lv_iload_n hx hb dX0_inverted_30 rfl (lv_at hl 1 rfl) ?_
      refine st_i (y := iI ((ivN sv 12 : Nat) : Int)) (congrArg (fun z : Nat => iI ((ivN sv z : Nat) : Int)) (show n = 12 by omega)) ?_
      exact W.iret hx hb hr (fun t ht _ => ⟨rfl, ht⟩) (fun _ h => nomatch h) dX0_inverted_31
    | succ j ih_4_1 =>
      intro n hn_4  ls hl
      refine lv_iload_n hx hb dX0_inverted_4 rfl (lv_at hl 2 rfl) ?_
      refine ib_bi hx hb dX0_inverted_5 (by decide) ?_
      refine ib_icmp_ge (tgt := 30) hx hb dX0_inverted_7 (by decide) ⟨by omega, by omega⟩ ⟨by omega, by omega⟩ (fun c_7 => absurd c_7 (by omega)) (fun c_7 => ?_)
      refine lv_iload_n hx hb dX0_inverted_10 rfl (lv_at hl 1 rfl) ?_
      refine lv_iload_n hx hb dX0_inverted_11 rfl (lv_at hl 0 rfl) ?_
      refine lv_iload_n hx hb dX0_inverted_12 rfl (lv_at hl 2 rfl) ?_
      refine lv_ishr hx hb dX0_inverted_13 ?_
      refine st_i (y := iI ((sv / 2 ^ n : Nat) : Int)) (ir_shr (by omega) (by omega)) ?_
      refine ib_const hx hb dX0_inverted_14 ?_
      refine lv_iand hx hb dX0_inverted_15 ?_
      refine st_i (y := iI ((sv / 2 ^ n &&& 1 : Nat) : Int)) (ir_and _ 1) ?_
      refine lv_iload_n hx hb dX0_inverted_16 rfl (lv_at hl 2 rfl) ?_
      refine ib_neg (z := -((n : Nat) : Int)) hx hb dX0_inverted_17 rfl ?_
      refine rd_call (va_runS (As := [.int (iI (-((n : Nat) : Int)))]) (rest := [.int (iI ((sv / 2 ^ n &&& 1 : Nat) : Int)), .int (iI ((ivN sv n : Nat) : Int))]) ⟨hx, hb, hml, hown, hts⟩ (mX0_wrap l (-((n : Nat) : Int)) ⟨by omega, by omega⟩) (va_cwS 1 hts gX0_inverted_X0_wrap rfl rfl rfl hdX0_wrap ⟨Nat.le_of_ble_eq_true rfl, Nat.le_of_ble_eq_true rfl⟩) tt_pre rfl rfl hl.1 rfl (lv_room (Nat.le_of_ble_eq_true rfl)) dX0_inverted_18 ⟨Nat.le_of_ble_eq_true rfl, Nat.le_of_ble_eq_true rfl⟩) ?_
      have hm_18 := md_lt (-((n : Nat) : Int))
      refine lv_ishl hx hb dX0_inverted_21 ?_
      refine st_i (y := iI (((sv / 2 ^ n &&& 1) * 2 ^ md (-((n : Nat) : Int)) : Nat) : Int)) (ir_shl (by omega) (iv_b _ _)) ?_
      refine lv_ior hx hb dX0_inverted_22 ?_
      refine st_i (y := iI ((ivN sv (n + 1) : Nat) : Int)) (ir_or _ _) ?_
      refine lv_istore_n (lv' := [(1, .int (iI ((ivN sv (n + 1) : Nat) : Int))), (0, .int (iI ((sv : Nat) : Int))), (2, .int (iI ((n : Nat) : Int)))]) hx hb dX0_inverted_23 rfl hl (by decide) rfl (fun ls hl => ?_)
      refine lv_iinc (v := iI ((n + 1 : Nat) : Int)) (lv' := [(2, .int (iI ((n + 1 : Nat) : Int))), (1, .int (iI ((ivN sv (n + 1) : Nat) : Int))), (0, .int (iI ((sv : Nat) : Int)))]) hx hb dX0_inverted_24 hl (k := 2) rfl (iI_inc (by omega)) (by decide) rfl (fun ls hl => ?_)
      refine lv_goto (tgt := 4) hx hb dX0_inverted_27 (by decide) ?_
      exact ih_4_1 (n + 1) (by omega)  _ (lv_sub hl [2, 1, 0] rfl)
  exact lp_4_1 12 0 (by omega)  _ (lv_sub hl [2, 1, 0] rfl)

set_option maxHeartbeats 4000000 in
set_option maxRecDepth 100000 in
theorem mX0_leastLike (l : Launch) (sv : Nat) (h : sv < 4096) : rd l yX0_leastLike wsX0_leastLike { frames := 3, cells := 0, slots := 0, locals := 64 } [.int (iI ((sv : Nat) : Int))] tt_ (some (.int (iI ((llN sv 12 : Nat) : Int)))) := by
  refine Met.ofW (cc := cX0_leastLike) (maxL := 4) (ret := (some .int)) (by decide) rfl ?_
  intro P0 e s m args below meth c s₁ B hml hv
  obtain ⟨rfl, -⟩ := hv
  have hx := B.exec
  have hb := B.bytes
  have hr := B.returns
  have hts := atoms_spec (ws := wsX0_leastLike) B.pre
  have hown : s.vm.findClass RX0 = some m.cls := findClass_of_methodNamed B.named
  have hlocks := B.notSynchronized
  have hl := lv_entry ([.int (iI ((sv : Nat) : Int))]) (n := 4) (Nat.le_of_ble_eq_true rfl)
  rw [lg_entry_eq]
  generalize (lg_sl ([.int (iI ((sv : Nat) : Int))]) ++ List.replicate (4 - (lg_sl ([.int (iI ((sv : Nat) : Int))])).length) Slot.unset).toArray = ls at hl ⊢
  have hl : lv_has ls 4 [(0, .int (iI ((sv : Nat) : Int)))] := hl
  refine lv_iload_n hx hb dX0_leastLike_0 rfl (lv_at hl 0 rfl) ?_
  refine rd_call (va_runS (As := [.int (iI ((sv : Nat) : Int))]) (rest := []) ⟨hx, hb, hml, hown, hts⟩ (mX0_inverted l sv (by omega)) (va_cwS 1 hts gX0_leastLike_X0_inverted rfl rfl rfl hdX0_inverted ⟨Nat.le_of_ble_eq_true rfl, Nat.le_of_ble_eq_true rfl⟩) tt_pre rfl rfl hl.1 rfl (lv_room (Nat.le_of_ble_eq_true rfl)) dX0_leastLike_1 ⟨Nat.le_of_ble_eq_true rfl, Nat.le_of_ble_eq_true rfl⟩) ?_
  have hv_1 := ivN_lt sv 12
  refine lv_istore_n (lv' := [(1, .int (iI ((ivN sv 12 : Nat) : Int))), (0, .int (iI ((sv : Nat) : Int)))]) hx hb dX0_leastLike_4 rfl hl (by decide) rfl (fun ls hl => ?_)
  refine lv_iload_n hx hb dX0_leastLike_5 rfl (lv_at hl 1 rfl) ?_
  refine lv_istore_n (lv' := [(2, .int (iI ((sv : Nat) : Int))), (1, .int (iI ((ivN sv 12 : Nat) : Int))), (0, .int (iI ((sv : Nat) : Int)))]) hx hb dX0_leastLike_6 rfl hl (by decide) rfl (fun ls hl => ?_)
  refine ib_const hx hb dX0_leastLike_7 ?_
  refine lv_istore_n (lv' := [(3, .int (iI 0)), (2, .int (iI ((sv : Nat) : Int))), (1, .int (iI ((ivN sv 12 : Nat) : Int))), (0, .int (iI ((sv : Nat) : Int)))]) hx hb dX0_leastLike_8 rfl hl (by decide) rfl (fun ls hl => ?_)
  have lp_9_1 : ∀ (j n : Nat), n + j = 12 → ∀ ls : Array Slot, lv_has ls 4 [(0, .int (iI ((sv : Nat) : Int))), (1, .int (iI ((ivN sv 12 : Nat) : Int))), (2, .int (iI ((llN sv n : Nat) : Int))), (3, .int (iI ((n : Nat) : Int)))] → W P0 l e (headSpec wsX0_leastLike { frames := 3, cells := 0, slots := 0, locals := 64 }).room s m ([.int (iI ((sv : Nat) : Int))] : List Value).toArray below meth c s.heap [] 0 0 (MQ below (rdQ (some (.int (iI ((llN sv 12 : Nat) : Int))))) ([.int (iI ((sv : Nat) : Int))] : List Value).toArray s 0 0 (fun _ => False)) (F0 m 9 ls []) := by
    intro j
    induction j with
    | zero =>
      intro n hn_9  ls hl
      have hl9 := llN_le sv n
      refine lv_iload_n hx hb dX0_leastLike_9 rfl (lv_at hl 3 rfl) ?_
      refine ib_bi hx hb dX0_leastLike_10 (by decide) ?_
      refine ib_icmp_ge (tgt := 39) hx hb dX0_leastLike_12 (by decide) ⟨by omega, by omega⟩ ⟨by omega, by omega⟩ (fun c_12 => ?_) (fun c_12 => absurd c_12 (by omega))
      refine lv_iload_n hx hb dX0_leastLike_39 rfl (lv_at hl 2 rfl) ?_
      refine st_i (y := iI ((llN sv 12 : Nat) : Int)) (congrArg (fun z : Nat => iI ((llN sv z : Nat) : Int)) (show n = 12 by omega)) ?_
      exact W.iret hx hb hr (fun t ht _ => ⟨rfl, ht⟩) (fun _ h => nomatch h) dX0_leastLike_40
    | succ j ih_9_1 =>
      intro n hn_9  ls hl
      have hl9 := llN_le sv n
      refine lv_iload_n hx hb dX0_leastLike_9 rfl (lv_at hl 3 rfl) ?_
      refine ib_bi hx hb dX0_leastLike_10 (by decide) ?_
      refine ib_icmp_ge (tgt := 39) hx hb dX0_leastLike_12 (by decide) ⟨by omega, by omega⟩ ⟨by omega, by omega⟩ (fun c_12 => absurd c_12 (by omega)) (fun c_12 => ?_)
      refine lv_iload_n hx hb dX0_leastLike_15 rfl (lv_at hl 2 rfl) ?_
      refine lv_iload_n hx hb dX0_leastLike_16 rfl (lv_at hl 0 rfl) ?_
      refine lv_iload_n hx hb dX0_leastLike_17 rfl (lv_at hl 3 rfl) ?_
      refine rd_call (va_runS (As := [.int (iI ((sv : Nat) : Int)), .int (iI ((n : Nat) : Int))]) (rest := [.int (iI ((llN sv n : Nat) : Int))]) ⟨hx, hb, hml, hown, hts⟩ (mX0_transposed l sv n (by omega) (by omega)) (va_cwS 2 hts gX0_leastLike_X0_transposed rfl rfl rfl hdX0_transposed ⟨Nat.le_of_ble_eq_true rfl, Nat.le_of_ble_eq_true rfl⟩) tt_pre rfl rfl hl.1 rfl (lv_room (Nat.le_of_ble_eq_true rfl)) dX0_leastLike_18 ⟨Nat.le_of_ble_eq_true rfl, Nat.le_of_ble_eq_true rfl⟩) ?_
      have ht_18 := trN_lt sv n
      refine lv_iload_n hx hb dX0_leastLike_21 rfl (lv_at hl 1 rfl) ?_
      refine lv_iload_n hx hb dX0_leastLike_22 rfl (lv_at hl 3 rfl) ?_
      refine rd_call (va_runS (As := [.int (iI ((ivN sv 12 : Nat) : Int)), .int (iI ((n : Nat) : Int))]) (rest := [.int (iI ((trN sv n : Nat) : Int)), .int (iI ((llN sv n : Nat) : Int))]) ⟨hx, hb, hml, hown, hts⟩ (mX0_transposed l (ivN sv 12) n (by omega) (by omega)) (va_cwS 2 hts gX0_leastLike_X0_transposed rfl rfl rfl hdX0_transposed ⟨Nat.le_of_ble_eq_true rfl, Nat.le_of_ble_eq_true rfl⟩) tt_pre rfl rfl hl.1 rfl (lv_room (Nat.le_of_ble_eq_true rfl)) dX0_leastLike_23 ⟨Nat.le_of_ble_eq_true rfl, Nat.le_of_ble_eq_true rfl⟩) ?_
      have ht_23 := trN_lt (ivN sv 12) n
      refine va_mmin hx hb (hml.trans hl.1.symm) hown (hts (.methodLink RX0 153 Lib.Math.min.name) (by decide +kernel)) (hts (.static Lib.Math.min.name) (by decide +kernel)) (hts (.initialized "java/lang/Math") (by decide +kernel)) (hts (.code Lib.Math.min.name Lib.Math.min.code 2 (some .int)) (by decide +kernel)) (Nat.le_of_ble_eq_true rfl) (Nat.le_of_ble_eq_true rfl) (Nat.le_of_ble_eq_true rfl) (Nat.le_of_ble_eq_true rfl) dX0_leastLike_26 ?_
      refine st_i (y := iI ((min (trN sv n) (trN (ivN sv 12) n) : Nat) : Int)) ((iI_min ⟨by omega, by omega⟩ ⟨by omega, by omega⟩).trans (congrArg iI (by omega))) ?_
      refine va_mmin hx hb (hml.trans hl.1.symm) hown (hts (.methodLink RX0 153 Lib.Math.min.name) (by decide +kernel)) (hts (.static Lib.Math.min.name) (by decide +kernel)) (hts (.initialized "java/lang/Math") (by decide +kernel)) (hts (.code Lib.Math.min.name Lib.Math.min.code 2 (some .int)) (by decide +kernel)) (Nat.le_of_ble_eq_true rfl) (Nat.le_of_ble_eq_true rfl) (Nat.le_of_ble_eq_true rfl) (Nat.le_of_ble_eq_true rfl) dX0_leastLike_29 ?_
      refine st_i (y := iI ((min (llN sv n) (min (trN sv n) (trN (ivN sv 12) n)) : Nat) : Int)) ((iI_min ⟨by omega, by omega⟩ ⟨by omega, by omega⟩).trans (congrArg iI (by omega))) ?_
      refine st_i (y := iI ((llN sv (n + 1) : Nat) : Int)) (rfl) ?_
      refine lv_istore_n (lv' := [(2, .int (iI ((llN sv (n + 1) : Nat) : Int))), (0, .int (iI ((sv : Nat) : Int))), (1, .int (iI ((ivN sv 12 : Nat) : Int))), (3, .int (iI ((n : Nat) : Int)))]) hx hb dX0_leastLike_32 rfl hl (by decide) rfl (fun ls hl => ?_)
      refine lv_iinc (v := iI ((n + 1 : Nat) : Int)) (lv' := [(3, .int (iI ((n + 1 : Nat) : Int))), (2, .int (iI ((llN sv (n + 1) : Nat) : Int))), (0, .int (iI ((sv : Nat) : Int))), (1, .int (iI ((ivN sv 12 : Nat) : Int)))]) hx hb dX0_leastLike_33 hl (k := 3) rfl (iI_inc (by omega)) (by decide) rfl (fun ls hl => ?_)
      refine lv_goto (tgt := 9) hx hb dX0_leastLike_36 (by decide) ?_
      exact ih_9_1 (n + 1) (by omega)  _ (lv_sub hl [2, 3, 1, 0] rfl)
  exact lp_9_1 12 0 (by omega)  _ (lv_sub hl [3, 2, 1, 0] rfl)

set_option maxHeartbeats 4000000 in
set_option maxRecDepth 100000 in
theorem mX0_placesOf (l : Launch) (x y : Int64) (h : hasAll x y) : rd l yX0_placesOf wsX0_placesOf { frames := 2, cells := 0, slots := 0, locals := 45 } [.long x, .long y] tt_ (some (.long (plcN x y 12))) := by
  refine Met.ofW (cc := cX0_placesOf) (maxL := 7) (ret := (some .long)) (by decide) rfl ?_
  intro P0 e s m args below meth c s₁ B hml hv
  obtain ⟨rfl, -⟩ := hv
  have hx := B.exec
  have hb := B.bytes
  have hr := B.returns
  have hts := atoms_spec (ws := wsX0_placesOf) B.pre
  have hown : s.vm.findClass RX0 = some m.cls := findClass_of_methodNamed B.named
  have hlocks := B.notSynchronized
  have hl := lv_entry ([.long x, .long y]) (n := 7) (Nat.le_of_ble_eq_true rfl)
  rw [lg_entry_eq]
  generalize (lg_sl ([.long x, .long y]) ++ List.replicate (7 - (lg_sl ([.long x, .long y])).length) Slot.unset).toArray = ls at hl ⊢
  have hl : lv_has ls 7 [(0, .long x), (2, .long y)] := hl
  refine lv_lconst (v := 0) hx hb dX0_placesOf_0 (by decide) ?_
  refine lv_lstore (lv' := [(4, .long (0 : Int64)), (0, .long x), (2, .long y)]) hx hb dX0_placesOf_1 hl (by decide) rfl (fun ls hl => ?_)
  refine ib_const hx hb dX0_placesOf_3 ?_
  refine lv_istore (lv' := [(6, .int (iI 0)), (4, .long (0 : Int64)), (0, .long x), (2, .long y)]) hx hb dX0_placesOf_4 hl (by decide) rfl (fun ls hl => ?_)
  have lp_6_1 : ∀ (j n : Nat), n + j = 12 → ∀ ls : Array Slot, lv_has ls 7 [(0, .long x), (2, .long y), (4, .long (plcN x y n)), (6, .int (iI ((n : Nat) : Int)))] → W P0 l e (headSpec wsX0_placesOf { frames := 2, cells := 0, slots := 0, locals := 45 }).room s m ([.long x, .long y] : List Value).toArray below meth c s.heap [] 0 0 (MQ below (rdQ (some (.long (plcN x y 12)))) ([.long x, .long y] : List Value).toArray s 0 0 (fun _ => False)) (F0 m 6 ls []) := by
    intro j
    induction j with
    | zero =>
      intro n hn_6  ls hl
      refine lv_iload hx hb dX0_placesOf_6 (lv_at hl 3 rfl) ?_
      refine ib_bi hx hb dX0_placesOf_8 (by decide) ?_
      refine ib_icmp_ge (tgt := 38) hx hb dX0_placesOf_10 (by decide) ⟨by omega, by omega⟩ ⟨by omega, by omega⟩ (fun c_10 => ?_) (fun c_10 => absurd c_10 (by omega))
      refine lv_lload hx hb dX0_placesOf_38 (lv_at hl 2 rfl) ?_
      refine st_l (y := plcN x y 12) (congrArg (plcN x y) (show n = 12 by omega)) ?_
      exact W.lret hx hb hr (fun t ht _ => ⟨rfl, ht⟩) (fun _ h => nomatch h) dX0_placesOf_40
    | succ j ih_6_1 =>
      intro n hn_6  ls hl
      refine lv_iload hx hb dX0_placesOf_6 (lv_at hl 3 rfl) ?_
      refine ib_bi hx hb dX0_placesOf_8 (by decide) ?_
      refine ib_icmp_ge (tgt := 38) hx hb dX0_placesOf_10 (by decide) ⟨by omega, by omega⟩ ⟨by omega, by omega⟩ (fun c_10 => absurd c_10 (by omega)) (fun c_10 => ?_)
      refine lv_lload hx hb dX0_placesOf_13 (lv_at hl 2 rfl) ?_
      refine lv_iload hx hb dX0_placesOf_15 (lv_at hl 3 rfl) ?_
      refine lv_lload_n hx hb dX0_placesOf_17 rfl (lv_at hl 1 rfl) ?_
      refine lv_lload_n hx hb dX0_placesOf_18 rfl (lv_at hl 0 rfl) ?_
      refine lv_iload hx hb dX0_placesOf_19 (lv_at hl 3 rfl) ?_
      refine rd_call (va_runS (As := [.long x, .int (iI ((n : Nat) : Int))]) (rest := [.long y, .int (iI ((n : Nat) : Int)), .long (plcN x y n)]) ⟨hx, hb, hml, hown, hts⟩ (mX0_entryAt l x n (by omega)) (va_cwS 2 hts gX0_placesOf_X0_entryAt rfl rfl rfl hdX0_entryAt ⟨Nat.le_of_ble_eq_true rfl, Nat.le_of_ble_eq_true rfl⟩) tt_pre rfl rfl hl.1 rfl (lv_room (Nat.le_of_ble_eq_true rfl)) dX0_placesOf_21 ⟨Nat.le_of_ble_eq_true rfl, Nat.le_of_ble_eq_true rfl⟩) ?_
      have he_21 := ent_lt x n
      refine rd_call (va_runS (As := [.long y, .int (iI ((ent x n : Nat) : Int))]) (rest := [.int (iI ((n : Nat) : Int)), .long (plcN x y n)]) ⟨hx, hb, hml, hown, hts⟩ (mX0_placeIn l y (ent x n) (by omega)) (va_cwS 2 hts gX0_placesOf_X0_placeIn rfl rfl rfl hdX0_placeIn ⟨Nat.le_of_ble_eq_true rfl, Nat.le_of_ble_eq_true rfl⟩) tt_pre rfl rfl hl.1 rfl (lv_room (Nat.le_of_ble_eq_true rfl)) dX0_placesOf_24 ⟨Nat.le_of_ble_eq_true rfl, Nat.le_of_ble_eq_true rfl⟩) ?_
      have hi_24 := pin_in y (ent x n)
      refine st_i (y := iI ((pn y (ent x n) : Nat) : Int)) (congrArg iI (pn_eq (h n (by omega)))) ?_
      refine rd_call (va_runS (As := [.long (plcN x y n), .int (iI ((n : Nat) : Int)), .int (iI ((pn y (ent x n) : Nat) : Int))]) (rest := []) ⟨hx, hb, hml, hown, hts⟩ (mX0_withEntry l (plcN x y n) n (pn y (ent x n)) (by omega)) (va_cwS 3 hts gX0_placesOf_X0_withEntry rfl rfl rfl hdX0_withEntry ⟨Nat.le_of_ble_eq_true rfl, Nat.le_of_ble_eq_true rfl⟩) tt_pre rfl rfl hl.1 rfl (lv_room (Nat.le_of_ble_eq_true rfl)) dX0_placesOf_27 ⟨Nat.le_of_ble_eq_true rfl, Nat.le_of_ble_eq_true rfl⟩) ?_
      refine st_l (y := plcN x y (n + 1)) (rfl) ?_
      refine lv_lstore (lv' := [(4, .long (plcN x y (n + 1))), (0, .long x), (2, .long y), (6, .int (iI ((n : Nat) : Int)))]) hx hb dX0_placesOf_30 hl (by decide) rfl (fun ls hl => ?_)
      refine lv_iinc (v := iI ((n + 1 : Nat) : Int)) (lv' := [(6, .int (iI ((n + 1 : Nat) : Int))), (4, .long (plcN x y (n + 1))), (0, .long x), (2, .long y)]) hx hb dX0_placesOf_32 hl (k := 3) rfl (iI_inc (by omega)) (by decide) rfl (fun ls hl => ?_)
      refine lv_goto (tgt := 6) hx hb dX0_placesOf_35 (by decide) ?_
      exact ih_6_1 (n + 1) (by omega)  _ (lv_sub hl [2, 3, 1, 0] rfl)
  exact lp_6_1 12 0 (by omega)  _ (lv_sub hl [2, 3, 1, 0] rfl)

set_option maxHeartbeats 4000000 in
set_option maxRecDepth 100000 in
theorem mX0_areNeighbours (l : Launch) (x : Int64) (p k : Nat) (h : p + k ≤ 16) : rd l yX0_areNeighbours wsX0_areNeighbours { frames := 1, cells := 0, slots := 0, locals := 22 } [.long x, .int (iI ((p : Nat) : Int)), .int (iI ((k : Nat) : Int))] tt_ (some (.int (iI (bI (nbr x p k))))) := by
  refine Met.ofW (cc := cX0_areNeighbours) (maxL := 7) (ret := (some .boolean)) (by decide) rfl ?_
  intro P0 e s m args below meth c s₁ B hml hv
  obtain ⟨rfl, -⟩ := hv
  have hx := B.exec
  have hb := B.bytes
  have hr := B.returns
  have hts := atoms_spec (ws := wsX0_areNeighbours) B.pre
  have hown : s.vm.findClass RX0 = some m.cls := findClass_of_methodNamed B.named
  have hlocks := B.notSynchronized
  have hl := lv_entry ([.long x, .int (iI ((p : Nat) : Int)), .int (iI ((k : Nat) : Int))]) (n := 7) (Nat.le_of_ble_eq_true rfl)
  rw [lg_entry_eq]
  generalize (lg_sl ([.long x, .int (iI ((p : Nat) : Int)), .int (iI ((k : Nat) : Int))]) ++ List.replicate (7 - (lg_sl ([.long x, .int (iI ((p : Nat) : Int)), .int (iI ((k : Nat) : Int))])).length) Slot.unset).toArray = ls at hl ⊢
  have hl : lv_has ls 7 [(0, .long x), (2, .int (iI ((p : Nat) : Int))), (3, .int (iI ((k : Nat) : Int)))] := hl
  refine ib_bi hx hb dX0_areNeighbours_0 (by decide) ?_
  refine lv_istore (lv' := [(4, .int (iI 12)), (0, .long x), (2, .int (iI ((p : Nat) : Int))), (3, .int (iI ((k : Nat) : Int)))]) hx hb dX0_areNeighbours_2 hl (by decide) rfl (fun ls hl => ?_)
  refine ib_const hx hb dX0_areNeighbours_4 ?_
  refine lv_istore (lv' := [(5, .int (iI (-1))), (4, .int (iI 12)), (0, .long x), (2, .int (iI ((p : Nat) : Int))), (3, .int (iI ((k : Nat) : Int)))]) hx hb dX0_areNeighbours_5 hl (by decide) rfl (fun ls hl => ?_)
  refine lv_iload_n hx hb dX0_areNeighbours_7 rfl (lv_at hl 3 rfl) ?_
  refine lv_istore (lv' := [(6, .int (iI ((p : Nat) : Int))), (5, .int (iI (-1))), (4, .int (iI 12)), (0, .long x), (2, .int (iI ((p : Nat) : Int))), (3, .int (iI ((k : Nat) : Int)))]) hx hb dX0_areNeighbours_8 hl (by decide) rfl (fun ls hl => ?_)
  have lp_10_1 : ∀ (j n : Nat), n + j = k → ∀ ls : Array Slot, lv_has ls 7 [(0, .long x), (2, .int (iI ((p : Nat) : Int))), (3, .int (iI ((k : Nat) : Int))), (4, .int (iI ((loN x p n : Nat) : Int))), (5, .int (iI (hiN x p n))), (6, .int (iI ((p + n : Nat) : Int)))] → W P0 l e (headSpec wsX0_areNeighbours { frames := 1, cells := 0, slots := 0, locals := 22 }).room s m ([.long x, .int (iI ((p : Nat) : Int)), .int (iI ((k : Nat) : Int))] : List Value).toArray below meth c s.heap [] 0 0 (MQ below (rdQ (some (.int (iI (bI (nbr x p k)))))) ([.long x, .int (iI ((p : Nat) : Int)), .int (iI ((k : Nat) : Int))] : List Value).toArray s 0 0 (fun _ => False)) (F0 m 10 ls []) := by
    intro j
    induction j with
    | zero =>
      intro n hn_10  ls hl
      have hlo := loN_in x p n
      have hhi := hiN_in x p n
      refine lv_iload hx hb dX0_areNeighbours_10 (lv_at hl 5 rfl) ?_
      refine lv_iload_n hx hb dX0_areNeighbours_12 rfl (lv_at hl 1 rfl) ?_
      refine lv_iload_n hx hb dX0_areNeighbours_13 rfl (lv_at hl 2 rfl) ?_
      refine ib_add (z := ((p + k : Nat) : Int)) hx hb dX0_areNeighbours_14 (by omega) ?_
      refine ib_icmp_ge (tgt := 50) hx hb dX0_areNeighbours_15 (by decide) ⟨by omega, by omega⟩ ⟨by omega, by omega⟩ (fun c_15 => ?_) (fun c_15 => absurd c_15 (by omega))
      refine lv_iload hx hb dX0_areNeighbours_50 (lv_at hl 4 rfl) ?_
      refine lv_iload hx hb dX0_areNeighbours_52 (lv_at hl 3 rfl) ?_
      refine ib_sub (z := (hiN x p n) - ((loN x p n : Nat) : Int)) hx hb dX0_areNeighbours_54 (by omega) ?_
      refine lv_iload_n hx hb dX0_areNeighbours_55 rfl (lv_at hl 2 rfl) ?_
      refine ib_const hx hb dX0_areNeighbours_56 ?_
      refine ib_sub (z := ((k : Nat) : Int) - 1) hx hb dX0_areNeighbours_57 (by omega) ?_
      refine ib_icmp_ne (tgt := 65) hx hb dX0_areNeighbours_58 (by decide) ⟨by omega, by omega⟩ ⟨by omega, by omega⟩ (fun c_58 => ?_) (fun c_58 => ?_)
      · skip
        refine ib_const hx hb dX0_areNeighbours_65 ?_
        refine st_i (y := iI (bI (nbr x p k))) (congrArg iI (nbr_f (show n = k by omega) c_58).symm) ?_
        exact W.zret hx hb hr (bI_nar _) (fun t ht _ => ⟨rfl, ht⟩) (fun _ h => nomatch h) dX0_areNeighbours_66
      · skip
        refine ib_const hx hb dX0_areNeighbours_61 ?_
        refine lv_goto (tgt := 66) hx hb dX0_areNeighbours_62 (by decide) ?_
        refine st_i (y := iI (bI (nbr x p k))) (congrArg iI (nbr_t (show n = k by omega) c_58).symm) ?_
        exact W.zret hx hb hr (bI_nar _) (fun t ht _ => ⟨rfl, ht⟩) (fun _ h => nomatch h) dX0_areNeighbours_66
    | succ j ih_10_1 =>
      intro n hn_10  ls hl
      have hlo := loN_in x p n
      have hhi := hiN_in x p n
      refine lv_iload hx hb dX0_areNeighbours_10 (lv_at hl 5 rfl) ?_
      refine lv_iload_n hx hb dX0_areNeighbours_12 rfl (lv_at hl 1 rfl) ?_
      refine lv_iload_n hx hb dX0_areNeighbours_13 rfl (lv_at hl 2 rfl) ?_
      refine ib_add (z := ((p + k : Nat) : Int)) hx hb dX0_areNeighbours_14 (by omega) ?_
      refine ib_icmp_ge (tgt := 50) hx hb dX0_areNeighbours_15 (by decide) ⟨by omega, by omega⟩ ⟨by omega, by omega⟩ (fun c_15 => absurd c_15 (by omega)) (fun c_15 => ?_)
      refine lv_iload hx hb dX0_areNeighbours_18 (lv_at hl 3 rfl) ?_
      refine lv_lload_n hx hb dX0_areNeighbours_20 rfl (lv_at hl 0 rfl) ?_
      refine lv_iload hx hb dX0_areNeighbours_21 (lv_at hl 5 rfl) ?_
      refine rd_call (va_runS (As := [.long x, .int (iI ((p + n : Nat) : Int))]) (rest := [.int (iI ((loN x p n : Nat) : Int))]) ⟨hx, hb, hml, hown, hts⟩ (mX0_entryAt l x (p + n) (by omega)) (va_cwS 2 hts gX0_areNeighbours_X0_entryAt rfl rfl rfl hdX0_entryAt ⟨Nat.le_of_ble_eq_true rfl, Nat.le_of_ble_eq_true rfl⟩) tt_pre rfl rfl hl.1 rfl (lv_room (Nat.le_of_ble_eq_true rfl)) dX0_areNeighbours_23 ⟨Nat.le_of_ble_eq_true rfl, Nat.le_of_ble_eq_true rfl⟩) ?_
      have he_23 := ent_lt x (p + n)
      refine va_mmin hx hb (hml.trans hl.1.symm) hown (hts (.methodLink RX0 153 Lib.Math.min.name) (by decide +kernel)) (hts (.static Lib.Math.min.name) (by decide +kernel)) (hts (.initialized "java/lang/Math") (by decide +kernel)) (hts (.code Lib.Math.min.name Lib.Math.min.code 2 (some .int)) (by decide +kernel)) (Nat.le_of_ble_eq_true rfl) (Nat.le_of_ble_eq_true rfl) (Nat.le_of_ble_eq_true rfl) (Nat.le_of_ble_eq_true rfl) dX0_areNeighbours_26 ?_
      refine st_i (y := iI ((min (loN x p n) (ent x (p + n)) : Nat) : Int)) ((iI_min ⟨by omega, by omega⟩ ⟨by omega, by omega⟩).trans (congrArg iI (by omega))) ?_
      refine st_i (y := iI ((loN x p (n + 1) : Nat) : Int)) (rfl) ?_
      refine lv_istore (lv' := [(4, .int (iI ((loN x p (n + 1) : Nat) : Int))), (0, .long x), (2, .int (iI ((p : Nat) : Int))), (3, .int (iI ((k : Nat) : Int))), (5, .int (iI (hiN x p n))), (6, .int (iI ((p + n : Nat) : Int)))]) hx hb dX0_areNeighbours_29 hl (by decide) rfl (fun ls hl => ?_)
      refine lv_iload hx hb dX0_areNeighbours_31 (lv_at hl 4 rfl) ?_
      refine lv_lload_n hx hb dX0_areNeighbours_33 rfl (lv_at hl 1 rfl) ?_
      refine lv_iload hx hb dX0_areNeighbours_34 (lv_at hl 5 rfl) ?_
      refine rd_call (va_runS (As := [.long x, .int (iI ((p + n : Nat) : Int))]) (rest := [.int (iI (hiN x p n))]) ⟨hx, hb, hml, hown, hts⟩ (mX0_entryAt l x (p + n) (by omega)) (va_cwS 2 hts gX0_areNeighbours_X0_entryAt rfl rfl rfl hdX0_entryAt ⟨Nat.le_of_ble_eq_true rfl, Nat.le_of_ble_eq_true rfl⟩) tt_pre rfl rfl hl.1 rfl (lv_room (Nat.le_of_ble_eq_true rfl)) dX0_areNeighbours_36 ⟨Nat.le_of_ble_eq_true rfl, Nat.le_of_ble_eq_true rfl⟩) ?_
      have he_36 := ent_lt x (p + n)
      refine va_mmax hx hb (hml.trans hl.1.symm) hown (hts (.methodLink RX0 98 Lib.Math.max.name) (by decide +kernel)) (hts (.static Lib.Math.max.name) (by decide +kernel)) (hts (.initialized "java/lang/Math") (by decide +kernel)) (hts (.code Lib.Math.max.name Lib.Math.max.code 2 (some .int)) (by decide +kernel)) (Nat.le_of_ble_eq_true rfl) (Nat.le_of_ble_eq_true rfl) (Nat.le_of_ble_eq_true rfl) (Nat.le_of_ble_eq_true rfl) dX0_areNeighbours_39 ?_
      refine st_i (y := iI (max (hiN x p n) ((ent x (p + n) : Nat) : Int))) ((iI_max ⟨by omega, by omega⟩ ⟨by omega, by omega⟩).trans (congrArg iI (by omega))) ?_
      refine st_i (y := iI (hiN x p (n + 1))) (rfl) ?_
      refine lv_istore (lv' := [(5, .int (iI (hiN x p (n + 1)))), (4, .int (iI ((loN x p (n + 1) : Nat) : Int))), (0, .long x), (2, .int (iI ((p : Nat) : Int))), (3, .int (iI ((k : Nat) : Int))), (6, .int (iI ((p + n : Nat) : Int)))]) hx hb dX0_areNeighbours_42 hl (by decide) rfl (fun ls hl => ?_)
      refine lv_iinc (v := iI (((p + n) + 1 : Nat) : Int)) (lv' := [(6, .int (iI (((p + n) + 1 : Nat) : Int))), (5, .int (iI (hiN x p (n + 1)))), (4, .int (iI ((loN x p (n + 1) : Nat) : Int))), (0, .long x), (2, .int (iI ((p : Nat) : Int))), (3, .int (iI ((k : Nat) : Int)))]) hx hb dX0_areNeighbours_44 hl (k := 5) rfl (iI_inc (by omega)) (by decide) rfl (fun ls hl => ?_)
      refine lv_goto (tgt := 10) hx hb dX0_areNeighbours_47 (by decide) ?_
      exact ih_10_1 (n + 1) (by omega)  _ (lv_sub hl [3, 4, 5, 2, 1, 0] rfl)
  exact lp_10_1 k 0 (by omega)  _ (lv_sub hl [3, 4, 5, 2, 1, 0] rfl)

set_option maxHeartbeats 4000000 in
set_option maxRecDepth 100000 in
theorem mX0_countKept (l : Launch) (x y : Int64) (k : Nat) (hall : hasAll x y) (h1 : 1 ≤ k) (h : k ≤ 12) : rd l yX0_countKept wsX0_countKept { frames := 3, cells := 0, slots := 0, locals := 71 } [.long x, .long y, .int (iI ((k : Nat) : Int))] tt_ (some (.int (iI ((ckN (plcN x y 12) k (13 - k) : Nat) : Int)))) := by
  refine Met.ofW (cc := cX0_countKept) (maxL := 9) (ret := (some .int)) (by decide) rfl ?_
  intro P0 e s m args below meth c s₁ B hml hv
  obtain ⟨rfl, -⟩ := hv
  have hx := B.exec
  have hb := B.bytes
  have hr := B.returns
  have hts := atoms_spec (ws := wsX0_countKept) B.pre
  have hown : s.vm.findClass RX0 = some m.cls := findClass_of_methodNamed B.named
  have hlocks := B.notSynchronized
  have hl := lv_entry ([.long x, .long y, .int (iI ((k : Nat) : Int))]) (n := 9) (Nat.le_of_ble_eq_true rfl)
  rw [lg_entry_eq]
  generalize (lg_sl ([.long x, .long y, .int (iI ((k : Nat) : Int))]) ++ List.replicate (9 - (lg_sl ([.long x, .long y, .int (iI ((k : Nat) : Int))])).length) Slot.unset).toArray = ls at hl ⊢
  have hl : lv_has ls 9 [(0, .long x), (2, .long y), (4, .int (iI ((k : Nat) : Int)))] := hl
  refine lv_lload_n hx hb dX0_countKept_0 rfl (lv_at hl 0 rfl) ?_
  refine lv_lload_n hx hb dX0_countKept_1 rfl (lv_at hl 1 rfl) ?_
  refine rd_call (va_runS (As := [.long x, .long y]) (rest := []) ⟨hx, hb, hml, hown, hts⟩ (mX0_placesOf l x y hall) (va_cwS 2 hts gX0_countKept_X0_placesOf rfl rfl rfl hdX0_placesOf ⟨Nat.le_of_ble_eq_true rfl, Nat.le_of_ble_eq_true rfl⟩) tt_pre rfl rfl hl.1 rfl (lv_room (Nat.le_of_ble_eq_true rfl)) dX0_countKept_2 ⟨Nat.le_of_ble_eq_true rfl, Nat.le_of_ble_eq_true rfl⟩) ?_
  refine lv_lstore (lv' := [(5, .long (plcN x y 12)), (0, .long x), (2, .long y), (4, .int (iI ((k : Nat) : Int)))]) hx hb dX0_countKept_5 hl (by decide) rfl (fun ls hl => ?_)
  refine ib_const hx hb dX0_countKept_7 ?_
  refine lv_istore (lv' := [(7, .int (iI 0)), (5, .long (plcN x y 12)), (0, .long x), (2, .long y), (4, .int (iI ((k : Nat) : Int)))]) hx hb dX0_countKept_8 hl (by decide) rfl (fun ls hl => ?_)
  refine ib_const hx hb dX0_countKept_10 ?_
  refine lv_istore (lv' := [(8, .int (iI 0)), (7, .int (iI 0)), (5, .long (plcN x y 12)), (0, .long x), (2, .long y), (4, .int (iI ((k : Nat) : Int)))]) hx hb dX0_countKept_11 hl (by decide) rfl (fun ls hl => ?_)
  have lp_13_1 : ∀ (j n : Nat), n + j = 13 - k → ∀ ls : Array Slot, lv_has ls 9 [(4, .int (iI ((k : Nat) : Int))), (5, .long (plcN x y 12)), (7, .int (iI ((ckN (plcN x y 12) k n : Nat) : Int))), (8, .int (iI ((n : Nat) : Int)))] → W P0 l e (headSpec wsX0_countKept { frames := 3, cells := 0, slots := 0, locals := 71 }).room s m ([.long x, .long y, .int (iI ((k : Nat) : Int))] : List Value).toArray below meth c s.heap [] 0 0 (MQ below (rdQ (some (.int (iI ((ckN (plcN x y 12) k (13 - k) : Nat) : Int))))) ([.long x, .long y, .int (iI ((k : Nat) : Int))] : List Value).toArray s 0 0 (fun _ => False)) (F0 m 13 ls []) := by
    intro j
    induction j with
    | zero =>
      intro n hn_13  ls hl
      have hc := ckN_le (plcN x y 12) k n
      refine lv_iload hx hb dX0_countKept_13 (lv_at hl 3 rfl) ?_
      refine lv_iload hx hb dX0_countKept_15 (lv_at hl 0 rfl) ?_
      refine ib_add (z := ((n + k : Nat) : Int)) hx hb dX0_countKept_17 (by omega) ?_
      refine ib_bi hx hb dX0_countKept_18 (by decide) ?_
      refine ib_icmp_gt (tgt := 44) hx hb dX0_countKept_20 (by decide) ⟨by omega, by omega⟩ ⟨by omega, by omega⟩ (fun c_20 => ?_) (fun c_20 => absurd c_20 (by omega))
      refine lv_iload hx hb dX0_countKept_44 (lv_at hl 2 rfl) ?_
      refine st_i (y := iI ((ckN (plcN x y 12) k (13 - k) : Nat) : Int)) (congrArg (fun z : Nat => iI ((ckN (plcN x y 12) k z : Nat) : Int)) (show n = 13 - k by omega)) ?_
      exact W.iret hx hb hr (fun t ht _ => ⟨rfl, ht⟩) (fun _ h => nomatch h) dX0_countKept_46
    | succ j ih_13_1 =>
      intro n hn_13  ls hl
      have hc := ckN_le (plcN x y 12) k n
      refine lv_iload hx hb dX0_countKept_13 (lv_at hl 3 rfl) ?_
      refine lv_iload hx hb dX0_countKept_15 (lv_at hl 0 rfl) ?_
      refine ib_add (z := ((n + k : Nat) : Int)) hx hb dX0_countKept_17 (by omega) ?_
      refine ib_bi hx hb dX0_countKept_18 (by decide) ?_
      refine ib_icmp_gt (tgt := 44) hx hb dX0_countKept_20 (by decide) ⟨by omega, by omega⟩ ⟨by omega, by omega⟩ (fun c_20 => absurd c_20 (by omega)) (fun c_20 => ?_)
      refine lv_lload hx hb dX0_countKept_23 (lv_at hl 1 rfl) ?_
      refine lv_iload hx hb dX0_countKept_25 (lv_at hl 3 rfl) ?_
      refine lv_iload hx hb dX0_countKept_27 (lv_at hl 0 rfl) ?_
      refine rd_call (va_runS (As := [.long (plcN x y 12), .int (iI ((n : Nat) : Int)), .int (iI ((k : Nat) : Int))]) (rest := []) ⟨hx, hb, hml, hown, hts⟩ (mX0_areNeighbours l (plcN x y 12) n k (by omega)) (va_cwS 3 hts gX0_countKept_X0_areNeighbours rfl rfl rfl hdX0_areNeighbours ⟨Nat.le_of_ble_eq_true rfl, Nat.le_of_ble_eq_true rfl⟩) tt_pre rfl rfl hl.1 rfl (lv_room (Nat.le_of_ble_eq_true rfl)) dX0_countKept_29 ⟨Nat.le_of_ble_eq_true rfl, Nat.le_of_ble_eq_true rfl⟩) ?_
      refine bb_eq (tgt := 38) hx hb dX0_countKept_32 (by decide) (fun c_32 => ?_) (fun c_32 => ?_)
      · skip
        refine lv_iinc (v := iI ((n + 1 : Nat) : Int)) (lv' := [(8, .int (iI ((n + 1 : Nat) : Int))), (4, .int (iI ((k : Nat) : Int))), (5, .long (plcN x y 12)), (7, .int (iI ((ckN (plcN x y 12) k n : Nat) : Int)))]) hx hb dX0_countKept_38 hl (k := 3) rfl (iI_inc (by omega)) (by decide) rfl (fun ls hl => ?_)
        refine lv_goto (tgt := 13) hx hb dX0_countKept_41 (by decide) ?_
        have hl : lv_has ls 9 [(8, .int (iI ((n + 1 : Nat) : Int))), (4, .int (iI ((k : Nat) : Int))), (5, .long (plcN x y 12)), (7, .int (iI ((ckN (plcN x y 12) k (n + 1) : Nat) : Int)))] := by
          have e9 : iI ((ckN (plcN x y 12) k n : Nat) : Int) = iI ((ckN (plcN x y 12) k (n + 1) : Nat) : Int) := congrArg (fun z : Nat => iI ((z : Nat) : Int)) (if_neg c_32).symm
          rw [← e9]; exact hl
        exact ih_13_1 (n + 1) (by omega)  _ (lv_sub hl [1, 2, 3, 0] rfl)
      · skip
        refine lv_iinc (v := iI (((ckN (plcN x y 12) k n) + 1 : Nat) : Int)) (lv' := [(7, .int (iI (((ckN (plcN x y 12) k n) + 1 : Nat) : Int))), (4, .int (iI ((k : Nat) : Int))), (5, .long (plcN x y 12)), (8, .int (iI ((n : Nat) : Int)))]) hx hb dX0_countKept_35 hl (k := 2) rfl (iI_inc (by omega)) (by decide) rfl (fun ls hl => ?_)
        refine lv_iinc (v := iI ((n + 1 : Nat) : Int)) (lv' := [(8, .int (iI ((n + 1 : Nat) : Int))), (7, .int (iI (((ckN (plcN x y 12) k n) + 1 : Nat) : Int))), (4, .int (iI ((k : Nat) : Int))), (5, .long (plcN x y 12))]) hx hb dX0_countKept_38 hl (k := 3) rfl (iI_inc (by omega)) (by decide) rfl (fun ls hl => ?_)
        refine lv_goto (tgt := 13) hx hb dX0_countKept_41 (by decide) ?_
        have hl : lv_has ls 9 [(8, .int (iI ((n + 1 : Nat) : Int))), (7, .int (iI ((ckN (plcN x y 12) k (n + 1) : Nat) : Int))), (4, .int (iI ((k : Nat) : Int))), (5, .long (plcN x y 12))] := by
          have e9 : iI (((ckN (plcN x y 12) k n) + 1 : Nat) : Int) = iI ((ckN (plcN x y 12) k (n + 1) : Nat) : Int) := congrArg (fun z : Nat => iI ((z : Nat) : Int)) (if_pos c_32).symm
          rw [← e9]; exact hl
        exact ih_13_1 (n + 1) (by omega)  _ (lv_sub hl [2, 3, 1, 0] rfl)
  exact lp_13_1 (13 - k) 0 (by omega)  _ (lv_sub hl [5, 2, 1, 0] rfl)

set_option maxHeartbeats 4000000 in
set_option maxRecDepth 100000 in
theorem mX0_requireRow (l : Launch) (z : Int) (hz : inI z) (h : z = 0 ∨ z = 1) : rd l yX0_requireRow wsX0_requireRow { frames := 0, cells := 0, slots := 0, locals := 0 } [.int (iI z)] tt_ (none) := by
  refine Met.ofW (cc := cX0_requireRow) (maxL := 1) (ret := none) (by decide) rfl ?_
  intro P0 e s m args below meth c s₁ B hml hv
  obtain ⟨rfl, -⟩ := hv
  have hx := B.exec
  have hb := B.bytes
  have hr := B.returns
  have hts := atoms_spec (ws := wsX0_requireRow) B.pre
  have hown : s.vm.findClass RX0 = some m.cls := findClass_of_methodNamed B.named
  have hlocks := B.notSynchronized
  have hl := lv_entry ([.int (iI z)]) (n := 1) (Nat.le_of_ble_eq_true rfl)
  rw [lg_entry_eq]
  generalize (lg_sl ([.int (iI z)]) ++ List.replicate (1 - (lg_sl ([.int (iI z)])).length) Slot.unset).toArray = ls at hl ⊢
  have hl : lv_has ls 1 [(0, .int (iI z))] := hl
  have hz1 := hz.1
  have hz2 := hz.2
  refine lv_iload_n hx hb dX0_requireRow_0 rfl (lv_at hl 0 rfl) ?_
  refine ib_if_eq (tgt := 19) hx hb dX0_requireRow_1 (by decide) ⟨by omega, by omega⟩ (fun c_1 => ?_) (fun c_1 => ?_)
  · skip
    exact W.vret hx hb hr (fun t ht _ => ⟨rfl, ht⟩) (fun _ h => nomatch h) dX0_requireRow_19
  · skip
    refine lv_iload_n hx hb dX0_requireRow_4 rfl (lv_at hl 0 rfl) ?_
    refine ib_const hx hb dX0_requireRow_5 ?_
    refine ib_icmp_eq (tgt := 19) hx hb dX0_requireRow_6 (by decide) ⟨by omega, by omega⟩ ⟨by omega, by omega⟩ (fun c_6 => ?_) (fun c_6 => absurd c_6 (by omega))
    exact W.vret hx hb hr (fun t ht _ => ⟨rfl, ht⟩) (fun _ h => nomatch h) dX0_requireRow_19

set_option maxHeartbeats 4000000 in
set_option maxRecDepth 100000 in
theorem mX0_requirePlace (l : Launch) (z w : Int) (hz : inI z) (hw : inI w) (h : 0 ≤ z ∧ z ≤ w) : rd l yX0_requirePlace wsX0_requirePlace { frames := 0, cells := 0, slots := 0, locals := 0 } [.int (iI z), .int (iI w)] tt_ (none) := by
  refine Met.ofW (cc := cX0_requirePlace) (maxL := 2) (ret := none) (by decide) rfl ?_
  intro P0 e s m args below meth c s₁ B hml hv
  obtain ⟨rfl, -⟩ := hv
  have hx := B.exec
  have hb := B.bytes
  have hr := B.returns
  have hts := atoms_spec (ws := wsX0_requirePlace) B.pre
  have hown : s.vm.findClass RX0 = some m.cls := findClass_of_methodNamed B.named
  have hlocks := B.notSynchronized
  have hl := lv_entry ([.int (iI z), .int (iI w)]) (n := 2) (Nat.le_of_ble_eq_true rfl)
  rw [lg_entry_eq]
  generalize (lg_sl ([.int (iI z), .int (iI w)]) ++ List.replicate (2 - (lg_sl ([.int (iI z), .int (iI w)])).length) Slot.unset).toArray = ls at hl ⊢
  have hl : lv_has ls 2 [(0, .int (iI z)), (1, .int (iI w))] := hl
  have hz1 := hz.1
  have hz2 := hz.2
  have hw1 := hw.1
  have hw2 := hw.2
  refine lv_iload_n hx hb dX0_requirePlace_0 rfl (lv_at hl 0 rfl) ?_
  refine ib_if_lt (tgt := 9) hx hb dX0_requirePlace_1 (by decide) ⟨by omega, by omega⟩ (fun c_1 => absurd c_1 (by omega)) (fun c_1 => ?_)
  refine lv_iload_n hx hb dX0_requirePlace_4 rfl (lv_at hl 0 rfl) ?_
  refine lv_iload_n hx hb dX0_requirePlace_5 rfl (lv_at hl 1 rfl) ?_
  refine ib_icmp_le (tgt := 19) hx hb dX0_requirePlace_6 (by decide) ⟨by omega, by omega⟩ ⟨by omega, by omega⟩ (fun c_6 => ?_) (fun c_6 => absurd c_6 (by omega))
  exact W.vret hx hb hr (fun t ht _ => ⟨rfl, ht⟩) (fun _ h => nomatch h) dX0_requirePlace_19

set_option maxHeartbeats 4000000 in
set_option maxRecDepth 100000 in
theorem mX0_requireRange (l : Launch) (z v w : Int) (hz : inI z) (hv9 : inI v) (hw : inI w) (h : v ≤ z ∧ z ≤ w) : rd l yX0_requireRange wsX0_requireRange { frames := 0, cells := 0, slots := 0, locals := 0 } [.int (iI z), .int (iI v), .int (iI w)] tt_ (none) := by
  refine Met.ofW (cc := cX0_requireRange) (maxL := 3) (ret := none) (by decide) rfl ?_
  intro P0 e s m args below meth c s₁ B hml hv
  obtain ⟨rfl, -⟩ := hv
  have hx := B.exec
  have hb := B.bytes
  have hr := B.returns
  have hts := atoms_spec (ws := wsX0_requireRange) B.pre
  have hown : s.vm.findClass RX0 = some m.cls := findClass_of_methodNamed B.named
  have hlocks := B.notSynchronized
  have hl := lv_entry ([.int (iI z), .int (iI v), .int (iI w)]) (n := 3) (Nat.le_of_ble_eq_true rfl)
  rw [lg_entry_eq]
  generalize (lg_sl ([.int (iI z), .int (iI v), .int (iI w)]) ++ List.replicate (3 - (lg_sl ([.int (iI z), .int (iI v), .int (iI w)])).length) Slot.unset).toArray = ls at hl ⊢
  have hl : lv_has ls 3 [(0, .int (iI z)), (1, .int (iI v)), (2, .int (iI w))] := hl
  have hz1 := hz.1
  have hz2 := hz.2
  have hw1 := hw.1
  have hw2 := hw.2
  have hv1 := hv9.1
  have hv2 := hv9.2
  refine lv_iload_n hx hb dX0_requireRange_0 rfl (lv_at hl 0 rfl) ?_
  refine lv_iload_n hx hb dX0_requireRange_1 rfl (lv_at hl 1 rfl) ?_
  refine ib_icmp_lt (tgt := 10) hx hb dX0_requireRange_2 (by decide) ⟨by omega, by omega⟩ ⟨by omega, by omega⟩ (fun c_2 => absurd c_2 (by omega)) (fun c_2 => ?_)
  refine lv_iload_n hx hb dX0_requireRange_5 rfl (lv_at hl 0 rfl) ?_
  refine lv_iload_n hx hb dX0_requireRange_6 rfl (lv_at hl 2 rfl) ?_
  refine ib_icmp_le (tgt := 20) hx hb dX0_requireRange_7 (by decide) ⟨by omega, by omega⟩ ⟨by omega, by omega⟩ (fun c_7 => ?_) (fun c_7 => absurd c_7 (by omega))
  exact W.vret hx hb hr (fun t ht _ => ⟨rfl, ht⟩) (fun _ h => nomatch h) dX0_requireRange_20

set_option maxHeartbeats 4000000 in
set_option maxRecDepth 100000 in
theorem mX0_requireForm (l : Launch) (z w : Int) (hz : inI z) (hw : inI w) (h : 0 ≤ z ∧ z ≤ 3 ∧ 0 ≤ w ∧ w ≤ 11) : rd l yX0_requireForm wsX0_requireForm { frames := 1, cells := 0, slots := 0, locals := 22 } [.int (iI z), .int (iI w)] tt_ (none) := by
  refine Met.ofW (cc := cX0_requireForm) (maxL := 2) (ret := none) (by decide) rfl ?_
  intro P0 e s m args below meth c s₁ B hml hv
  obtain ⟨rfl, -⟩ := hv
  have hx := B.exec
  have hb := B.bytes
  have hr := B.returns
  have hts := atoms_spec (ws := wsX0_requireForm) B.pre
  have hown : s.vm.findClass RX0 = some m.cls := findClass_of_methodNamed B.named
  have hlocks := B.notSynchronized
  have hl := lv_entry ([.int (iI z), .int (iI w)]) (n := 2) (Nat.le_of_ble_eq_true rfl)
  rw [lg_entry_eq]
  generalize (lg_sl ([.int (iI z), .int (iI w)]) ++ List.replicate (2 - (lg_sl ([.int (iI z), .int (iI w)])).length) Slot.unset).toArray = ls at hl ⊢
  have hl : lv_has ls 2 [(0, .int (iI z)), (1, .int (iI w))] := hl
  have hz1 := hz.1
  have hz2 := hz.2
  have hw1 := hw.1
  have hw2 := hw.2
  refine lv_iload_n hx hb dX0_requireForm_0 rfl (lv_at hl 0 rfl) ?_
  refine ib_const hx hb dX0_requireForm_1 ?_
  refine ib_const hx hb dX0_requireForm_2 ?_
  refine rd_call (va_runS (As := [.int (iI z), .int (iI 0), .int (iI 3)]) (rest := []) ⟨hx, hb, hml, hown, hts⟩ (mX0_requireRange l z 0 3 ⟨by omega, by omega⟩ ⟨by omega, by omega⟩ ⟨by omega, by omega⟩ (by omega)) (va_cwS 3 hts gX0_requireForm_X0_requireRange rfl rfl rfl hdX0_requireRange ⟨Nat.le_of_ble_eq_true rfl, Nat.le_of_ble_eq_true rfl⟩) tt_pre rfl rfl hl.1 rfl (lv_room (Nat.le_of_ble_eq_true rfl)) dX0_requireForm_3 ⟨Nat.le_of_ble_eq_true rfl, Nat.le_of_ble_eq_true rfl⟩) ?_
  refine lv_iload_n hx hb dX0_requireForm_6 rfl (lv_at hl 1 rfl) ?_
  refine ib_const hx hb dX0_requireForm_7 ?_
  refine ib_bi hx hb dX0_requireForm_8 (by decide) ?_
  refine rd_call (va_runS (As := [.int (iI w), .int (iI 0), .int (iI 11)]) (rest := []) ⟨hx, hb, hml, hown, hts⟩ (mX0_requireRange l w 0 11 ⟨by omega, by omega⟩ ⟨by omega, by omega⟩ ⟨by omega, by omega⟩ (by omega)) (va_cwS 3 hts gX0_requireForm_X0_requireRange rfl rfl rfl hdX0_requireRange ⟨Nat.le_of_ble_eq_true rfl, Nat.le_of_ble_eq_true rfl⟩) tt_pre rfl rfl hl.1 rfl (lv_room (Nat.le_of_ble_eq_true rfl)) dX0_requireForm_10 ⟨Nat.le_of_ble_eq_true rfl, Nat.le_of_ble_eq_true rfl⟩) ?_
  exact W.vret hx hb hr (fun t ht _ => ⟨rfl, ht⟩) (fun _ h => nomatch h) dX0_requireForm_13

set_option maxHeartbeats 4000000 in
set_option maxRecDepth 100000 in
theorem mX0_requireFactor (l : Launch) (z : Int) (hz : inI z) (h : z = 1 ∨ z = 5 ∨ z = 7 ∨ z = 11) : rd l yX0_requireFactor wsX0_requireFactor { frames := 0, cells := 0, slots := 0, locals := 0 } [.int (iI z)] tt_ (none) := by
  refine Met.ofW (cc := cX0_requireFactor) (maxL := 1) (ret := none) (by decide) rfl ?_
  intro P0 e s m args below meth c s₁ B hml hv
  obtain ⟨rfl, -⟩ := hv
  have hx := B.exec
  have hb := B.bytes
  have hr := B.returns
  have hts := atoms_spec (ws := wsX0_requireFactor) B.pre
  have hown : s.vm.findClass RX0 = some m.cls := findClass_of_methodNamed B.named
  have hlocks := B.notSynchronized
  have hl := lv_entry ([.int (iI z)]) (n := 1) (Nat.le_of_ble_eq_true rfl)
  rw [lg_entry_eq]
  generalize (lg_sl ([.int (iI z)]) ++ List.replicate (1 - (lg_sl ([.int (iI z)])).length) Slot.unset).toArray = ls at hl ⊢
  have hl : lv_has ls 1 [(0, .int (iI z))] := hl
  have hz1 := hz.1
  have hz2 := hz.2
  refine lv_iload_n hx hb dX0_requireFactor_0 rfl (lv_at hl 0 rfl) ?_
  refine ib_const hx hb dX0_requireFactor_1 ?_
  refine ib_icmp_eq (tgt := 32) hx hb dX0_requireFactor_2 (by decide) ⟨by omega, by omega⟩ ⟨by omega, by omega⟩ (fun c_2 => ?_) (fun c_2 => ?_)
  · skip
    exact W.vret hx hb hr (fun t ht _ => ⟨rfl, ht⟩) (fun _ h => nomatch h) dX0_requireFactor_32
  · skip
    refine lv_iload_n hx hb dX0_requireFactor_5 rfl (lv_at hl 0 rfl) ?_
    refine ib_const hx hb dX0_requireFactor_6 ?_
    refine ib_icmp_eq (tgt := 32) hx hb dX0_requireFactor_7 (by decide) ⟨by omega, by omega⟩ ⟨by omega, by omega⟩ (fun c_7 => ?_) (fun c_7 => ?_)
    · skip
      exact W.vret hx hb hr (fun t ht _ => ⟨rfl, ht⟩) (fun _ h => nomatch h) dX0_requireFactor_32
    · skip
      refine lv_iload_n hx hb dX0_requireFactor_10 rfl (lv_at hl 0 rfl) ?_
      refine ib_bi hx hb dX0_requireFactor_11 (by decide) ?_
      refine ib_icmp_eq (tgt := 32) hx hb dX0_requireFactor_13 (by decide) ⟨by omega, by omega⟩ ⟨by omega, by omega⟩ (fun c_13 => ?_) (fun c_13 => ?_)
      · skip
        exact W.vret hx hb hr (fun t ht _ => ⟨rfl, ht⟩) (fun _ h => nomatch h) dX0_requireFactor_32
      · skip
        refine lv_iload_n hx hb dX0_requireFactor_16 rfl (lv_at hl 0 rfl) ?_
        refine ib_bi hx hb dX0_requireFactor_17 (by decide) ?_
        refine ib_icmp_eq (tgt := 32) hx hb dX0_requireFactor_19 (by decide) ⟨by omega, by omega⟩ ⟨by omega, by omega⟩ (fun c_19 => ?_) (fun c_19 => absurd c_19 (by omega))
        exact W.vret hx hb hr (fun t ht _ => ⟨rfl, ht⟩) (fun _ h => nomatch h) dX0_requireFactor_32

set_option maxHeartbeats 4000000 in
set_option maxRecDepth 100000 in
theorem mX0_requireSize (l : Launch) (z : Int) (hz : inI z) (h : z = 1 ∨ z = 2 ∨ z = 3 ∨ z = 4 ∨ z = 6 ∨ z = 12) : rd l yX0_requireSize wsX0_requireSize { frames := 0, cells := 0, slots := 0, locals := 0 } [.int (iI z)] tt_ (none) := by
  refine Met.ofW (cc := cX0_requireSize) (maxL := 1) (ret := none) (by decide) rfl ?_
  intro P0 e s m args below meth c s₁ B hml hv
  obtain ⟨rfl, -⟩ := hv
  have hx := B.exec
  have hb := B.bytes
  have hr := B.returns
  have hts := atoms_spec (ws := wsX0_requireSize) B.pre
  have hown : s.vm.findClass RX0 = some m.cls := findClass_of_methodNamed B.named
  have hlocks := B.notSynchronized
  have hl := lv_entry ([.int (iI z)]) (n := 1) (Nat.le_of_ble_eq_true rfl)
  rw [lg_entry_eq]
  generalize (lg_sl ([.int (iI z)]) ++ List.replicate (1 - (lg_sl ([.int (iI z)])).length) Slot.unset).toArray = ls at hl ⊢
  have hl : lv_has ls 1 [(0, .int (iI z))] := hl
  have hz1 := hz.1
  have hz2 := hz.2
  refine lv_iload_n hx hb dX0_requireSize_0 rfl (lv_at hl 0 rfl) ?_
  refine ib_const hx hb dX0_requireSize_1 ?_
  refine ib_icmp_eq (tgt := 42) hx hb dX0_requireSize_2 (by decide) ⟨by omega, by omega⟩ ⟨by omega, by omega⟩ (fun c_2 => ?_) (fun c_2 => ?_)
  · skip
    exact W.vret hx hb hr (fun t ht _ => ⟨rfl, ht⟩) (fun _ h => nomatch h) dX0_requireSize_42
  · skip
    refine lv_iload_n hx hb dX0_requireSize_5 rfl (lv_at hl 0 rfl) ?_
    refine ib_const hx hb dX0_requireSize_6 ?_
    refine ib_icmp_eq (tgt := 42) hx hb dX0_requireSize_7 (by decide) ⟨by omega, by omega⟩ ⟨by omega, by omega⟩ (fun c_7 => ?_) (fun c_7 => ?_)
    · skip
      exact W.vret hx hb hr (fun t ht _ => ⟨rfl, ht⟩) (fun _ h => nomatch h) dX0_requireSize_42
    · skip
      refine lv_iload_n hx hb dX0_requireSize_10 rfl (lv_at hl 0 rfl) ?_
      refine ib_const hx hb dX0_requireSize_11 ?_
      refine ib_icmp_eq (tgt := 42) hx hb dX0_requireSize_12 (by decide) ⟨by omega, by omega⟩ ⟨by omega, by omega⟩ (fun c_12 => ?_) (fun c_12 => ?_)
      · skip
        exact W.vret hx hb hr (fun t ht _ => ⟨rfl, ht⟩) (fun _ h => nomatch h) dX0_requireSize_42
      · skip
        refine lv_iload_n hx hb dX0_requireSize_15 rfl (lv_at hl 0 rfl) ?_
        refine ib_const hx hb dX0_requireSize_16 ?_
        refine ib_icmp_eq (tgt := 42) hx hb dX0_requireSize_17 (by decide) ⟨by omega, by omega⟩ ⟨by omega, by omega⟩ (fun c_17 => ?_) (fun c_17 => ?_)
        · skip
          exact W.vret hx hb hr (fun t ht _ => ⟨rfl, ht⟩) (fun _ h => nomatch h) dX0_requireSize_42
        · skip
          refine lv_iload_n hx hb dX0_requireSize_20 rfl (lv_at hl 0 rfl) ?_
          refine ib_bi hx hb dX0_requireSize_21 (by decide) ?_
          refine ib_icmp_eq (tgt := 42) hx hb dX0_requireSize_23 (by decide) ⟨by omega, by omega⟩ ⟨by omega, by omega⟩ (fun c_23 => ?_) (fun c_23 => ?_)
          · skip
            exact W.vret hx hb hr (fun t ht _ => ⟨rfl, ht⟩) (fun _ h => nomatch h) dX0_requireSize_42
          · skip
            refine lv_iload_n hx hb dX0_requireSize_26 rfl (lv_at hl 0 rfl) ?_
            refine ib_bi hx hb dX0_requireSize_27 (by decide) ?_
            refine ib_icmp_eq (tgt := 42) hx hb dX0_requireSize_29 (by decide) ⟨by omega, by omega⟩ ⟨by omega, by omega⟩ (fun c_29 => ?_) (fun c_29 => absurd c_29 (by omega))
            exact W.vret hx hb hr (fun t ht _ => ⟨rfl, ht⟩) (fun _ h => nomatch h) dX0_requireSize_42
