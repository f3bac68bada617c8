
set_option maxHeartbeats 4000000 in
set_option maxRecDepth 100000 in
theorem mX0_requireRow_b (l : Launch) (hfl : l.stackTraces = false) (z : Int) (hz : inI z) (hbad : ¬ (z = 0 ∨ z = 1)) : th l yX0_requireRow wsX0_requireRow { frames := 6, cells := 1, slots := 6, locals := 82 } [.int (iI z)] xB xIO := by
  refine vx_ofW (cc := cX0_requireRow) (maxL := 1) (ret := none) (by decide) rfl ?_
  intro P0 e s m args below meth c s₁ B hml hout hv
  obtain ⟨rfl, hG⟩ := hv
  have hx := B.exec
  have hb := B.bytes
  have hr := B.returns
  have hts := atoms_spec (ws := wsX0_requireRow) B.pre
  have hown : s.vm.findClass RX0 = some m.cls := findClass_of_methodNamed B.named
  have hlocks := B.notSynchronized
  have hl := lv_entry ([.int (iI z)]) (n := 1) (Nat.le_of_ble_eq_true rfl)
  rw [lg_entry_eq]
  generalize (lg_sl ([.int (iI z)]) ++ List.replicate (1 - (lg_sl ([.int (iI z)])).length) Slot.unset).toArray = ls at hl ⊢
  have hl : lv_has ls 1 [(0, .int (iI z))] := hl
  have hz1 := hz.1
  have hz2 := hz.2
  refine lv_iload_n hx hb dX0_requireRow_0 rfl (lv_at hl 0 rfl) ?_
  refine ib_if_eq (tgt := 19) hx hb dX0_requireRow_1 (by decide) ⟨by omega, by omega⟩ (fun c_1 => absurd c_1 (by omega)) (fun c_1 => ?_)
  refine lv_iload_n hx hb dX0_requireRow_4 rfl (lv_at hl 0 rfl) ?_
  refine ib_const hx hb dX0_requireRow_5 ?_
  refine ib_icmp_eq (tgt := 19) hx hb dX0_requireRow_6 (by decide) ⟨by omega, by omega⟩ ⟨by omega, by omega⟩ (fun c_6 => absurd c_6 (by omega)) (fun c_6 => ?_)
  obtain ⟨sa, hsa⟩ := hG.str (k := 129) (t := "there is no such row") (by decide +kernel)
  exact vx_throwS (own := RX0) (cls := "java/lang/IndexOutOfBoundsException") (text := "there is no such row") (names := xRN) (ik := 127) (is := 129) (ic := 131) (A := fun _ => False) hx hb hfl hown (by decide +kernel) (by decide +kernel) (hts _ (by decide +kernel)) (hts _ (by decide +kernel)) hsa (hG.words (fun w h => hts w (List.mem_cons_of_mem _ (List.mem_append_right _ h))) (by decide +kernel)) (by decide +kernel) hG.2.1 hG.2.2.1 va_S.rf (hl.1.trans hml.symm) dX0_requireRow_9 dX0_requireRow_12 dX0_requireRow_13 dX0_requireRow_15 dX0_requireRow_18 (fun x h => (hout x h).elim) (Nat.le_of_ble_eq_true rfl) (Nat.le_of_ble_eq_true rfl) (Nat.le_of_ble_eq_true rfl) (Nat.le_of_ble_eq_true rfl) hlocks (fun t _ hz hk => ⟨rfl, hz, hk⟩) (fun _ h => nomatch h) (Nat.le_of_ble_eq_true rfl) (Nat.le_of_ble_eq_true rfl)

set_option maxHeartbeats 4000000 in
set_option maxRecDepth 100000 in
theorem mX0_requirePlace_b (l : Launch) (hfl : l.stackTraces = false) (z w : Int) (hz : inI z) (hw : inI w) (hbad : ¬ (0 ≤ z ∧ z ≤ w)) : th l yX0_requirePlace wsX0_requirePlace { frames := 6, cells := 1, slots := 6, locals := 82 } [.int (iI z), .int (iI w)] xB xIO := by
  refine vx_ofW (cc := cX0_requirePlace) (maxL := 2) (ret := none) (by decide) rfl ?_
  intro P0 e s m args below meth c s₁ B hml hout hv
  obtain ⟨rfl, hG⟩ := hv
  have hx := B.exec
  have hb := B.bytes
  have hr := B.returns
  have hts := atoms_spec (ws := wsX0_requirePlace) B.pre
  have hown : s.vm.findClass RX0 = some m.cls := findClass_of_methodNamed B.named
  have hlocks := B.notSynchronized
  have hl := lv_entry ([.int (iI z), .int (iI w)]) (n := 2) (Nat.le_of_ble_eq_true rfl)
  rw [lg_entry_eq]
  generalize (lg_sl ([.int (iI z), .int (iI w)]) ++ List.replicate (2 - (lg_sl ([.int (iI z), .int (iI w)])).length) Slot.unset).toArray = ls at hl ⊢
  have hl : lv_has ls 2 [(0, .int (iI z)), (1, .int (iI w))] := hl
  have hz1 := hz.1
  have hw1 := hw.1
  have hz2 := hz.2
  have hw2 := hw.2
  refine lv_iload_n hx hb dX0_requirePlace_0 rfl (lv_at hl 0 rfl) ?_
  refine ib_if_lt (tgt := 9) hx hb dX0_requirePlace_1 (by decide) ⟨by omega, by omega⟩ (fun c_1 => ?_) (fun c_1 => ?_)
  · skip
    obtain ⟨sa, hsa⟩ := hG.str (k := 132) (t := "there is no such place") (by decide +kernel)
    exact vx_throwS (own := RX0) (cls := "java/lang/IndexOutOfBoundsException") (text := "there is no such place") (names := xRN) (ik := 127) (is := 132) (ic := 131) (A := fun _ => False) hx hb hfl hown (by decide +kernel) (by decide +kernel) (hts _ (by decide +kernel)) (hts _ (by decide +kernel)) hsa (hG.words (fun w h => hts w (List.mem_cons_of_mem _ (List.mem_append_right _ h))) (by decide +kernel)) (by decide +kernel) hG.2.1 hG.2.2.1 va_S.rf (hl.1.trans hml.symm) dX0_requirePlace_9 dX0_requirePlace_12 dX0_requirePlace_13 dX0_requirePlace_15 dX0_requirePlace_18 (fun x h => (hout x h).elim) (Nat.le_of_ble_eq_true rfl) (Nat.le_of_ble_eq_true rfl) (Nat.le_of_ble_eq_true rfl) (Nat.le_of_ble_eq_true rfl) hlocks (fun t _ hz hk => ⟨rfl, hz, hk⟩) (fun _ h => nomatch h) (Nat.le_of_ble_eq_true rfl) (Nat.le_of_ble_eq_true rfl)
  · skip
    refine lv_iload_n hx hb dX0_requirePlace_4 rfl (lv_at hl 0 rfl) ?_
    refine lv_iload_n hx hb dX0_requirePlace_5 rfl (lv_at hl 1 rfl) ?_
    refine ib_icmp_le (tgt := 19) hx hb dX0_requirePlace_6 (by decide) ⟨by omega, by omega⟩ ⟨by omega, by omega⟩ (fun c_6 => ?_) (fun c_6 => ?_)
    · skip
      exfalso; omega
    · skip
      obtain ⟨sa, hsa⟩ := hG.str (k := 132) (t := "there is no such place") (by decide +kernel)
      exact vx_throwS (own := RX0) (cls := "java/lang/IndexOutOfBoundsException") (text := "there is no such place") (names := xRN) (ik := 127) (is := 132) (ic := 131) (A := fun _ => False) hx hb hfl hown (by decide +kernel) (by decide +kernel) (hts _ (by decide +kernel)) (hts _ (by decide +kernel)) hsa (hG.words (fun w h => hts w (List.mem_cons_of_mem _ (List.mem_append_right _ h))) (by decide +kernel)) (by decide +kernel) hG.2.1 hG.2.2.1 va_S.rf (hl.1.trans hml.symm) dX0_requirePlace_9 dX0_requirePlace_12 dX0_requirePlace_13 dX0_requirePlace_15 dX0_requirePlace_18 (fun x h => (hout x h).elim) (Nat.le_of_ble_eq_true rfl) (Nat.le_of_ble_eq_true rfl) (Nat.le_of_ble_eq_true rfl) (Nat.le_of_ble_eq_true rfl) hlocks (fun t _ hz hk => ⟨rfl, hz, hk⟩) (fun _ h => nomatch h) (Nat.le_of_ble_eq_true rfl) (Nat.le_of_ble_eq_true rfl)

set_option maxHeartbeats 4000000 in
set_option maxRecDepth 100000 in
theorem mX0_requireRange_b (l : Launch) (hfl : l.stackTraces = false) (z v w : Int) (hz : inI z) (hv9 : inI v) (hw : inI w) (hbad : ¬ (v ≤ z ∧ z ≤ w)) : th l yX0_requireRange wsX0_requireRange { frames := 6, cells := 1, slots := 6, locals := 82 } [.int (iI z), .int (iI v), .int (iI w)] xB xIA := by
  refine vx_ofW (cc := cX0_requireRange) (maxL := 3) (ret := none) (by decide) rfl ?_
  intro P0 e s m args below meth c s₁ B hml hout hv
  obtain ⟨rfl, hG⟩ := hv
  have hx := B.exec
  have hb := B.bytes
  have hr := B.returns
  have hts := atoms_spec (ws := wsX0_requireRange) B.pre
  have hown : s.vm.findClass RX0 = some m.cls := findClass_of_methodNamed B.named
  have hlocks := B.notSynchronized
  have hl := lv_entry ([.int (iI z), .int (iI v), .int (iI w)]) (n := 3) (Nat.le_of_ble_eq_true rfl)
  rw [lg_entry_eq]
  generalize (lg_sl ([.int (iI z), .int (iI v), .int (iI w)]) ++ List.replicate (3 - (lg_sl ([.int (iI z), .int (iI v), .int (iI w)])).length) Slot.unset).toArray = ls at hl ⊢
  have hl : lv_has ls 3 [(0, .int (iI z)), (1, .int (iI v)), (2, .int (iI w))] := hl
  have hz1 := hz.1
  have hw1 := hw.1
  have hz2 := hz.2
  have hw2 := hw.2
  have hv1 := hv9.1
  have hv2 := hv9.2
  refine lv_iload_n hx hb dX0_requireRange_0 rfl (lv_at hl 0 rfl) ?_
  refine lv_iload_n hx hb dX0_requireRange_1 rfl (lv_at hl 1 rfl) ?_
  refine ib_icmp_lt (tgt := 10) hx hb dX0_requireRange_2 (by decide) ⟨by omega, by omega⟩ ⟨by omega, by omega⟩ (fun c_2 => ?_) (fun c_2 => ?_)
  · skip
    obtain ⟨sa, hsa⟩ := hG.str (k := 136) (t := "an argument is out of its range") (by decide +kernel)
    exact vx_throwS (own := RX0) (cls := "java/lang/IllegalArgumentException") (text := "an argument is out of its range") (names := xRN) (ik := 134) (is := 136) (ic := 138) (A := fun _ => False) hx hb hfl hown (by decide +kernel) (by decide +kernel) (hts _ (by decide +kernel)) (hts _ (by decide +kernel)) hsa (hG.words (fun w h => hts w (List.mem_cons_of_mem _ (List.mem_append_right _ h))) (by decide +kernel)) (by decide +kernel) hG.2.1 hG.2.2.1 va_S.rf (hl.1.trans hml.symm) dX0_requireRange_10 dX0_requireRange_13 dX0_requireRange_14 dX0_requireRange_16 dX0_requireRange_19 (fun x h => (hout x h).elim) (Nat.le_of_ble_eq_true rfl) (Nat.le_of_ble_eq_true rfl) (Nat.le_of_ble_eq_true rfl) (Nat.le_of_ble_eq_true rfl) hlocks (fun t _ hz hk => ⟨rfl, hz, hk⟩) (fun _ h => nomatch h) (Nat.le_of_ble_eq_true rfl) (Nat.le_of_ble_eq_true rfl)
  · skip
    refine lv_iload_n hx hb dX0_requireRange_5 rfl (lv_at hl 0 rfl) ?_
    refine lv_iload_n hx hb dX0_requireRange_6 rfl (lv_at hl 2 rfl) ?_
    refine ib_icmp_le (tgt := 20) hx hb dX0_requireRange_7 (by decide) ⟨by omega, by omega⟩ ⟨by omega, by omega⟩ (fun c_7 => ?_) (fun c_7 => ?_)
    · skip
      exfalso; omega
    · skip
      obtain ⟨sa, hsa⟩ := hG.str (k := 136) (t := "an argument is out of its range") (by decide +kernel)
      exact vx_throwS (own := RX0) (cls := "java/lang/IllegalArgumentException") (text := "an argument is out of its range") (names := xRN) (ik := 134) (is := 136) (ic := 138) (A := fun _ => False) hx hb hfl hown (by decide +kernel) (by decide +kernel) (hts _ (by decide +kernel)) (hts _ (by decide +kernel)) hsa (hG.words (fun w h => hts w (List.mem_cons_of_mem _ (List.mem_append_right _ h))) (by decide +kernel)) (by decide +kernel) hG.2.1 hG.2.2.1 va_S.rf (hl.1.trans hml.symm) dX0_requireRange_10 dX0_requireRange_13 dX0_requireRange_14 dX0_requireRange_16 dX0_requireRange_19 (fun x h => (hout x h).elim) (Nat.le_of_ble_eq_true rfl) (Nat.le_of_ble_eq_true rfl) (Nat.le_of_ble_eq_true rfl) (Nat.le_of_ble_eq_true rfl) hlocks (fun t _ hz hk => ⟨rfl, hz, hk⟩) (fun _ h => nomatch h) (Nat.le_of_ble_eq_true rfl) (Nat.le_of_ble_eq_true rfl)

set_option maxHeartbeats 4000000 in
set_option maxRecDepth 100000 in
theorem mX0_requireForm_b (l : Launch) (hfl : l.stackTraces = false) (z w : Int) (hz : inI z) (hw : inI w) (hbad : ¬ (0 ≤ z ∧ z ≤ 3 ∧ 0 ≤ w ∧ w ≤ 11)) : th l yX0_requireForm wsX0_requireForm { frames := 7, cells := 1, slots := 6, locals := 104 } [.int (iI z), .int (iI w)] xB xIA := by
  refine vx_ofW (cc := cX0_requireForm) (maxL := 2) (ret := none) (by decide) rfl ?_
  intro P0 e s m args below meth c s₁ B hml hout hv
  obtain ⟨rfl, hG⟩ := hv
  have hx := B.exec
  have hb := B.bytes
  have hr := B.returns
  have hts := atoms_spec (ws := wsX0_requireForm) B.pre
  have hown : s.vm.findClass RX0 = some m.cls := findClass_of_methodNamed B.named
  have hlocks := B.notSynchronized
  have hl := lv_entry ([.int (iI z), .int (iI w)]) (n := 2) (Nat.le_of_ble_eq_true rfl)
  rw [lg_entry_eq]
  generalize (lg_sl ([.int (iI z), .int (iI w)]) ++ List.replicate (2 - (lg_sl ([.int (iI z), .int (iI w)])).length) Slot.unset).toArray = ls at hl ⊢
  have hl : lv_has ls 2 [(0, .int (iI z)), (1, .int (iI w))] := hl
  have hz1 := hz.1
  have hw1 := hw.1
  have hz2 := hz.2
  have hw2 := hw.2
  refine lv_iload_n hx hb dX0_requireForm_0 rfl (lv_at hl 0 rfl) ?_
  refine ib_const hx hb dX0_requireForm_1 ?_
  refine ib_const hx hb dX0_requireForm_2 ?_
  by_cases c_3 : 0 ≤ z ∧ z ≤ 3
  · skip
    refine rd_call (va_runS (As := [.int (iI z), .int (iI 0), .int (iI 3)]) (rest := []) ⟨hx, hb, hml, hown, hts⟩ (mX0_requireRange l z 0 3 ⟨by omega, by omega⟩ ⟨by omega, by omega⟩ ⟨by omega, by omega⟩ (by omega)) (va_cwS 3 hts gX0_requireForm_X0_requireRange rfl rfl rfl hdX0_requireRange ⟨Nat.le_of_ble_eq_true rfl, Nat.le_of_ble_eq_true rfl⟩) tt_pre rfl rfl hl.1 rfl (lv_room (Nat.le_of_ble_eq_true rfl)) dX0_requireForm_3 ⟨Nat.le_of_ble_eq_true rfl, Nat.le_of_ble_eq_true rfl⟩) ?_
    refine lv_iload_n hx hb dX0_requireForm_6 rfl (lv_at hl 1 rfl) ?_
    refine ib_const hx hb dX0_requireForm_7 ?_
    refine ib_bi hx hb dX0_requireForm_8 (by decide) ?_
    by_cases c_10 : 0 ≤ w ∧ w ≤ 11
    · skip
      exfalso; omega
    · skip
      refine th_call (vx_runS (As := [.int (iI w), .int (iI 0), .int (iI 11)]) (rest := []) ⟨hx, hb, hml, hown, hts⟩ (mX0_requireRange_b l hfl w 0 11 ⟨by omega, by omega⟩ ⟨by omega, by omega⟩ ⟨by omega, by omega⟩ c_10) (va_cwS 3 hts gX0_requireForm_X0_requireRange rfl rfl rfl hdX0_requireRange ⟨Nat.le_of_ble_eq_true rfl, Nat.le_of_ble_eq_true rfl⟩) (xS_pre hG) rfl rfl hl.1 rfl (lv_room (Nat.le_of_ble_eq_true rfl)) dX0_requireForm_10 ⟨Nat.le_of_ble_eq_true rfl, Nat.le_of_ble_eq_true rfl⟩) (fun ce q9 H1 hz hk hce hcv hcl => ?_)
      exact th_out hout hlocks hz hk hce hcv hcl (Nat.le_refl _) (Nat.le_refl _)
  · skip
    refine th_call (vx_runS (As := [.int (iI z), .int (iI 0), .int (iI 3)]) (rest := []) ⟨hx, hb, hml, hown, hts⟩ (mX0_requireRange_b l hfl z 0 3 ⟨by omega, by omega⟩ ⟨by omega, by omega⟩ ⟨by omega, by omega⟩ c_3) (va_cwS 3 hts gX0_requireForm_X0_requireRange rfl rfl rfl hdX0_requireRange ⟨Nat.le_of_ble_eq_true rfl, Nat.le_of_ble_eq_true rfl⟩) (xS_pre hG) rfl rfl hl.1 rfl (lv_room (Nat.le_of_ble_eq_true rfl)) dX0_requireForm_3 ⟨Nat.le_of_ble_eq_true rfl, Nat.le_of_ble_eq_true rfl⟩) (fun ce q9 H1 hz hk hce hcv hcl => ?_)
    exact th_out hout hlocks hz hk hce hcv hcl (Nat.le_refl _) (Nat.le_refl _)

set_option maxHeartbeats 4000000 in
set_option maxRecDepth 100000 in
theorem mX0_requireFactor_b (l : Launch) (hfl : l.stackTraces = false) (z : Int) (hz : inI z) (hbad : ¬ (z = 1 ∨ z = 5 ∨ z = 7 ∨ z = 11)) : th l yX0_requireFactor wsX0_requireFactor { frames := 6, cells := 1, slots := 6, locals := 82 } [.int (iI z)] xB xIA := by
  refine vx_ofW (cc := cX0_requireFactor) (maxL := 1) (ret := none) (by decide) rfl ?_
  intro P0 e s m args below meth c s₁ B hml hout hv
  obtain ⟨rfl, hG⟩ := hv
  have hx := B.exec
  have hb := B.bytes
  have hr := B.returns
  have hts := atoms_spec (ws := wsX0_requireFactor) B.pre
  have hown : s.vm.findClass RX0 = some m.cls := findClass_of_methodNamed B.named
  have hlocks := B.notSynchronized
  have hl := lv_entry ([.int (iI z)]) (n := 1) (Nat.le_of_ble_eq_true rfl)
  rw [lg_entry_eq]
  generalize (lg_sl ([.int (iI z)]) ++ List.replicate (1 - (lg_sl ([.int (iI z)])).length) Slot.unset).toArray = ls at hl ⊢
  have hl : lv_has ls 1 [(0, .int (iI z))] := hl
  have hz1 := hz.1
  have hz2 := hz.2
  refine lv_iload_n hx hb dX0_requireFactor_0 rfl (lv_at hl 0 rfl) ?_
  refine ib_const hx hb dX0_requireFactor_1 ?_
  refine ib_icmp_eq (tgt := 32) hx hb dX0_requireFactor_2 (by decide) ⟨by omega, by omega⟩ ⟨by omega, by omega⟩ (fun c_2 => ?_) (fun c_2 => ?_)
  · skip
    exfalso; omega
  · skip
    refine lv_iload_n hx hb dX0_requireFactor_5 rfl (lv_at hl 0 rfl) ?_
    refine ib_const hx hb dX0_requireFactor_6 ?_
    refine ib_icmp_eq (tgt := 32) hx hb dX0_requireFactor_7 (by decide) ⟨by omega, by omega⟩ ⟨by omega, by omega⟩ (fun c_7 => ?_) (fun c_7 => ?_)
    · skip
      exfalso; omega
    · skip
      refine lv_iload_n hx hb dX0_requireFactor_10 rfl (lv_at hl 0 rfl) ?_
      refine ib_bi hx hb dX0_requireFactor_11 (by decide) ?_
      refine ib_icmp_eq (tgt := 32) hx hb dX0_requireFactor_13 (by decide) ⟨by omega, by omega⟩ ⟨by omega, by omega⟩ (fun c_13 => ?_) (fun c_13 => ?_)
      · skip
        exfalso; omega
      · skip
        refine lv_iload_n hx hb dX0_requireFactor_16 rfl (lv_at hl 0 rfl) ?_
        refine ib_bi hx hb dX0_requireFactor_17 (by decide) ?_
        refine ib_icmp_eq (tgt := 32) hx hb dX0_requireFactor_19 (by decide) ⟨by omega, by omega⟩ ⟨by omega, by omega⟩ (fun c_19 => ?_) (fun c_19 => ?_)
        · skip
          exfalso; omega
        · skip
          obtain ⟨sa, hsa⟩ := hG.str (k := 139) (t := "the factor is not 1, 5, 7 or 11") (by decide +kernel)
          exact vx_throwS (own := RX0) (cls := "java/lang/IllegalArgumentException") (text := "the factor is not 1, 5, 7 or 11") (names := xRN) (ik := 134) (is := 139) (ic := 138) (A := fun _ => False) hx hb hfl hown (by decide +kernel) (by decide +kernel) (hts _ (by decide +kernel)) (hts _ (by decide +kernel)) hsa (hG.words (fun w h => hts w (List.mem_cons_of_mem _ (List.mem_append_right _ h))) (by decide +kernel)) (by decide +kernel) hG.2.1 hG.2.2.1 va_S.rf (hl.1.trans hml.symm) dX0_requireFactor_22 dX0_requireFactor_25 dX0_requireFactor_26 dX0_requireFactor_28 dX0_requireFactor_31 (fun x h => (hout x h).elim) (Nat.le_of_ble_eq_true rfl) (Nat.le_of_ble_eq_true rfl) (Nat.le_of_ble_eq_true rfl) (Nat.le_of_ble_eq_true rfl) hlocks (fun t _ hz hk => ⟨rfl, hz, hk⟩) (fun _ h => nomatch h) (Nat.le_of_ble_eq_true rfl) (Nat.le_of_ble_eq_true rfl)

set_option maxHeartbeats 4000000 in
set_option maxRecDepth 100000 in
theorem mX0_requireSize_b (l : Launch) (hfl : l.stackTraces = false) (z : Int) (hz : inI z) (hbad : ¬ (z = 1 ∨ z = 2 ∨ z = 3 ∨ z = 4 ∨ z = 6 ∨ z = 12)) : th l yX0_requireSize wsX0_requireSize { frames := 6, cells := 1, slots := 6, locals := 82 } [.int (iI z)] xB xIA := by
  refine vx_ofW (cc := cX0_requireSize) (maxL := 1) (ret := none) (by decide) rfl ?_
  intro P0 e s m args below meth c s₁ B hml hout hv
  obtain ⟨rfl, hG⟩ := hv
  have hx := B.exec
  have hb := B.bytes
  have hr := B.returns
  have hts := atoms_spec (ws := wsX0_requireSize) B.pre
  have hown : s.vm.findClass RX0 = some m.cls := findClass_of_methodNamed B.named
  have hlocks := B.notSynchronized
  have hl := lv_entry ([.int (iI z)]) (n := 1) (Nat.le_of_ble_eq_true rfl)
  rw [lg_entry_eq]
  generalize (lg_sl ([.int (iI z)]) ++ List.replicate (1 - (lg_sl ([.int (iI z)])).length) Slot.unset).toArray = ls at hl ⊢
  have hl : lv_has ls 1 [(0, .int (iI z))] := hl
  have hz1 := hz.1
  have hz2 := hz.2
  refine lv_iload_n hx hb dX0_requireSize_0 rfl (lv_at hl 0 rfl) ?_
  refine ib_const hx hb dX0_requireSize_1 ?_
  refine ib_icmp_eq (tgt := 42) hx hb dX0_requireSize_2 (by decide) ⟨by omega, by omega⟩ ⟨by omega, by omega⟩ (fun c_2 => ?_) (fun c_2 => ?_)
  · skip
    exfalso; omega
  · skip
    refine lv_iload_n hx hb dX0_requireSize_5 rfl (lv_at hl 0 rfl) ?_
    refine ib_const hx hb dX0_requireSize_6 ?_
    refine ib_icmp_eq (tgt := 42) hx hb dX0_requireSize_7 (by decide) ⟨by omega, by omega⟩ ⟨by omega, by omega⟩ (fun c_7 => ?_) (fun c_7 => ?_)
    · skip
      exfalso; omega
    · skip
      refine lv_iload_n hx hb dX0_requireSize_10 rfl (lv_at hl 0 rfl) ?_
      refine ib_const hx hb dX0_requireSize_11 ?_
      refine ib_icmp_eq (tgt := 42) hx hb dX0_requireSize_12 (by decide) ⟨by omega, by omega⟩ ⟨by omega, by omega⟩ (fun c_12 => ?_) (fun c_12 => ?_)
      · skip
        exfalso; omega
      · skip
        refine lv_iload_n hx hb dX0_requireSize_15 rfl (lv_at hl 0 rfl) ?_
        refine ib_const hx hb dX0_requireSize_16 ?_
        refine ib_icmp_eq (tgt := 42) hx hb dX0_requireSize_17 (by decide) ⟨by omega, by omega⟩ ⟨by omega, by omega⟩ (fun c_17 => ?_) (fun c_17 => ?_)
        · skip
          exfalso; omega
        · skip
          refine lv_iload_n hx hb dX0_requireSize_20 rfl (lv_at hl 0 rfl) ?_
          refine ib_bi hx hb dX0_requireSize_21 (by decide) ?_
          refine ib_icmp_eq (tgt := 42) hx hb dX0_requireSize_23 (by decide) ⟨by omega, by omega⟩ ⟨by omega, by omega⟩ (fun c_23 => ?_) (fun c_23 => ?_)
          · skip
            exfalso; omega
          · skip
            refine lv_iload_n hx hb dX0_requireSize_26 rfl (lv_at hl 0 rfl) ?_
            refine ib_bi hx hb dX0_requireSize_27 (by decide) ?_
            refine ib_icmp_eq (tgt := 42) hx hb dX0_requireSize_29 (by decide) ⟨by omega, by omega⟩ ⟨by omega, by omega⟩ (fun c_29 => ?_) (fun c_29 => ?_)
            · skip
              exfalso; omega
            · skip
              obtain ⟨sa, hsa⟩ := hG.str (k := 141) (t := "the size is not 1, 2, 3, 4, 6 or 12") (by decide +kernel)
              exact vx_throwS (own := RX0) (cls := "java/lang/IllegalArgumentException") (text := "the size is not 1, 2, 3, 4, 6 or 12") (names := xRN) (ik := 134) (is := 141) (ic := 138) (A := fun _ => False) hx hb hfl hown (by decide +kernel) (by decide +kernel) (hts _ (by decide +kernel)) (hts _ (by decide +kernel)) hsa (hG.words (fun w h => hts w (List.mem_cons_of_mem _ (List.mem_append_right _ h))) (by decide +kernel)) (by decide +kernel) hG.2.1 hG.2.2.1 va_S.rf (hl.1.trans hml.symm) dX0_requireSize_32 dX0_requireSize_35 dX0_requireSize_36 dX0_requireSize_38 dX0_requireSize_41 (fun x h => (hout x h).elim) (Nat.le_of_ble_eq_true rfl) (Nat.le_of_ble_eq_true rfl) (Nat.le_of_ble_eq_true rfl) (Nat.le_of_ble_eq_true rfl) hlocks (fun t _ hz hk => ⟨rfl, hz, hk⟩) (fun _ h => nomatch h) (Nat.le_of_ble_eq_true rfl) (Nat.le_of_ble_eq_true rfl)

set_option maxHeartbeats 4000000 in
set_option maxRecDepth 100000 in
theorem mX0_put_x1 (l : Launch) (hfl : l.stackTraces = false) (dC : Nat → ClassId) (dI : Nat → Nat → Nat) (o0 : Nat) (a0 a1 q : Nat → Nat) (w : Nat) (hp0 : Pm a0) (hp1 : Pm a1) (hw : w ≤ 12) (hq : ∀ i, i < w → q i < 12) (hqd : ∀ i j, i < w → j < w → q i = q j → i = j) (z0 z1 z2 : Int) (hz0 : inI z0) (hz1 : inI z1) (hz2 : inI z2) (hbad : ¬ ((z0 = 0 ∨ z0 = 1) ∧ (0 ≤ z1 ∧ z1 ≤ 11))) : th l yX0_put wsX0_put { frames := 7, cells := 1, slots := 6, locals := 103 } [.ref o0, .int (iI z0), .int (iI z1), .int (iI z2)] (bX (dC, dI) [(o0, .inr (0, [.long (pk a0), .long (pk a1), .long (pkn q w), .int (iI ((w : Nat) : Int))]))] []) xIO := by
  refine vx_ofW (cc := cX0_put) (maxL := 9) (ret := (some .int)) (by decide) rfl ?_
  intro P0 e s m args below meth c s₁ B hml hout hv
  obtain ⟨rfl, hP, hK, hG⟩ := hv
  have hx := B.exec
  have hb := B.bytes
  have hr := B.returns
  have hts := atoms_spec (ws := wsX0_put) B.pre
  have hown : s.vm.findClass RX0 = some m.cls := findClass_of_methodNamed B.named
  have hlocks := B.notSynchronized
  have hl := lv_entry ([.ref o0, .int (iI z0), .int (iI z1), .int (iI z2)]) (n := 9) (Nat.le_of_ble_eq_true rfl)
  rw [lg_entry_eq]
  generalize (lg_sl ([.ref o0, .int (iI z0), .int (iI z1), .int (iI z2)]) ++ List.replicate (9 - (lg_sl ([.ref o0, .int (iI z0), .int (iI z1), .int (iI z2)])).length) Slot.unset).toArray = ls at hl ⊢
  have hl : lv_has ls 9 [(0, .ref o0), (1, .int (iI z0)), (2, .int (iI z1)), (3, .int (iI z2))] := hl
  have hza0 := hz0.1
  have hza1 := hz1.1
  have hza2 := hz2.1
  have hzb0 := hz0.2
  have hzb1 := hz1.2
  have hzb2 := hz2.2
  refine lv_iload_n hx hb dX0_put_0 rfl (lv_at hl 1 rfl) ?_
  by_cases c_1 : z0 = 0 ∨ z0 = 1
  · skip
    refine rd_call (va_runS (As := [.int (iI z0)]) (rest := []) ⟨hx, hb, hml, hown, hts⟩ (mX0_requireRow l z0 ⟨by omega, by omega⟩ (by omega)) (va_cwS 1 hts gX0_put_X0_requireRow rfl rfl rfl hdX0_requireRow ⟨Nat.le_of_ble_eq_true rfl, Nat.le_of_ble_eq_true rfl⟩) tt_pre rfl rfl hl.1 rfl (lv_room (Nat.le_of_ble_eq_true rfl)) dX0_put_1 ⟨Nat.le_of_ble_eq_true rfl, Nat.le_of_ble_eq_true rfl⟩) ?_
    refine lv_iload_n hx hb dX0_put_4 rfl (lv_at hl 2 rfl) ?_
    refine ib_bi hx hb dX0_put_5 (by decide) ?_
    by_cases c_7 : 0 ≤ z1 ∧ z1 ≤ 11
    · skip
      refine rd_call (va_runS (As := [.int (iI z1), .int (iI 11)]) (rest := []) ⟨hx, hb, hml, hown, hts⟩ (mX0_requirePlace l z1 11 ⟨by omega, by omega⟩ ⟨by omega, by omega⟩ (by omega)) (va_cwS 2 hts gX0_put_X0_requirePlace rfl rfl rfl hdX0_requirePlace ⟨Nat.le_of_ble_eq_true rfl, Nat.le_of_ble_eq_true rfl⟩) tt_pre rfl rfl hl.1 rfl (lv_room (Nat.le_of_ble_eq_true rfl)) dX0_put_7 ⟨Nat.le_of_ble_eq_true rfl, Nat.le_of_ble_eq_true rfl⟩) ?_
      refine lv_iload_n hx hb dX0_put_10 rfl (lv_at hl 3 rfl) ?_
      refine ib_const hx hb dX0_put_11 ?_
      refine ib_bi hx hb dX0_put_12 (by decide) ?_
      by_cases c_14 : 0 ≤ z2 ∧ z2 ≤ 11
      · skip
        exfalso; omega
      · skip
        exfalso; omega
    · skip
      refine th_call (vx_runS (As := [.int (iI z1), .int (iI 11)]) (rest := []) ⟨hx, hb, hml, hown, hts⟩ (mX0_requirePlace_b l hfl z1 11 ⟨by omega, by omega⟩ ⟨by omega, by omega⟩ c_7) (va_cwS 2 hts gX0_put_X0_requirePlace rfl rfl rfl hdX0_requirePlace ⟨Nat.le_of_ble_eq_true rfl, Nat.le_of_ble_eq_true rfl⟩) (xS_pre hG) rfl rfl hl.1 rfl (lv_room (Nat.le_of_ble_eq_true rfl)) dX0_put_7 ⟨Nat.le_of_ble_eq_true rfl, Nat.le_of_ble_eq_true rfl⟩) (fun ce q9 H1 hz hk hce hcv hcl => ?_)
      exact th_out hout hlocks hz hk hce hcv hcl (Nat.le_refl _) (Nat.le_refl _)
  · skip
    refine th_call (vx_runS (As := [.int (iI z0)]) (rest := []) ⟨hx, hb, hml, hown, hts⟩ (mX0_requireRow_b l hfl z0 ⟨by omega, by omega⟩ c_1) (va_cwS 1 hts gX0_put_X0_requireRow rfl rfl rfl hdX0_requireRow ⟨Nat.le_of_ble_eq_true rfl, Nat.le_of_ble_eq_true rfl⟩) (xS_pre hG) rfl rfl hl.1 rfl (lv_room (Nat.le_of_ble_eq_true rfl)) dX0_put_1 ⟨Nat.le_of_ble_eq_true rfl, Nat.le_of_ble_eq_true rfl⟩) (fun ce q9 H1 hz hk hce hcv hcl => ?_)
    exact th_out hout hlocks hz hk hce hcv hcl (Nat.le_refl _) (Nat.le_refl _)

set_option maxHeartbeats 4000000 in
set_option maxRecDepth 100000 in
theorem mX0_put_x2 (l : Launch) (hfl : l.stackTraces = false) (dC : Nat → ClassId) (dI : Nat → Nat → Nat) (o0 : Nat) (a0 a1 q : Nat → Nat) (w : Nat) (hp0 : Pm a0) (hp1 : Pm a1) (hw : w ≤ 12) (hq : ∀ i, i < w → q i < 12) (hqd : ∀ i j, i < w → j < w → q i = q j → i = j) (z0 z1 z2 : Int) (hz0 : inI z0) (hz1 : inI z1) (hz2 : inI z2) (hbad : ((z0 = 0 ∨ z0 = 1) ∧ (0 ≤ z1 ∧ z1 ≤ 11)) ∧ ¬ (0 ≤ z2 ∧ z2 ≤ 11)) : th l yX0_put wsX0_put { frames := 7, cells := 1, slots := 6, locals := 104 } [.ref o0, .int (iI z0), .int (iI z1), .int (iI z2)] (bX (dC, dI) [(o0, .inr (0, [.long (pk a0), .long (pk a1), .long (pkn q w), .int (iI ((w : Nat) : Int))]))] []) xIA := by
  refine vx_ofW (cc := cX0_put) (maxL := 9) (ret := (some .int)) (by decide) rfl ?_
  intro P0 e s m args below meth c s₁ B hml hout hv
  obtain ⟨rfl, hP, hK, hG⟩ := hv
  have hx := B.exec
  have hb := B.bytes
  have hr := B.returns
  have hts := atoms_spec (ws := wsX0_put) B.pre
  have hown : s.vm.findClass RX0 = some m.cls := findClass_of_methodNamed B.named
  have hlocks := B.notSynchronized
  have hl := lv_entry ([.ref o0, .int (iI z0), .int (iI z1), .int (iI z2)]) (n := 9) (Nat.le_of_ble_eq_true rfl)
  rw [lg_entry_eq]
  generalize (lg_sl ([.ref o0, .int (iI z0), .int (iI z1), .int (iI z2)]) ++ List.replicate (9 - (lg_sl ([.ref o0, .int (iI z0), .int (iI z1), .int (iI z2)])).length) Slot.unset).toArray = ls at hl ⊢
  have hl : lv_has ls 9 [(0, .ref o0), (1, .int (iI z0)), (2, .int (iI z1)), (3, .int (iI z2))] := hl
  have hza0 := hz0.1
  have hza1 := hz1.1
  have hza2 := hz2.1
  have hzb0 := hz0.2
  have hzb1 := hz1.2
  have hzb2 := hz2.2
  refine lv_iload_n hx hb dX0_put_0 rfl (lv_at hl 1 rfl) ?_
  by_cases c_1 : z0 = 0 ∨ z0 = 1
  · skip
    refine rd_call (va_runS (As := [.int (iI z0)]) (rest := []) ⟨hx, hb, hml, hown, hts⟩ (mX0_requireRow l z0 ⟨by omega, by omega⟩ (by omega)) (va_cwS 1 hts gX0_put_X0_requireRow rfl rfl rfl hdX0_requireRow ⟨Nat.le_of_ble_eq_true rfl, Nat.le_of_ble_eq_true rfl⟩) tt_pre rfl rfl hl.1 rfl (lv_room (Nat.le_of_ble_eq_true rfl)) dX0_put_1 ⟨Nat.le_of_ble_eq_true rfl, Nat.le_of_ble_eq_true rfl⟩) ?_
    refine lv_iload_n hx hb dX0_put_4 rfl (lv_at hl 2 rfl) ?_
    refine ib_bi hx hb dX0_put_5 (by decide) ?_
    by_cases c_7 : 0 ≤ z1 ∧ z1 ≤ 11
    · skip
      refine rd_call (va_runS (As := [.int (iI z1), .int (iI 11)]) (rest := []) ⟨hx, hb, hml, hown, hts⟩ (mX0_requirePlace l z1 11 ⟨by omega, by omega⟩ ⟨by omega, by omega⟩ (by omega)) (va_cwS 2 hts gX0_put_X0_requirePlace rfl rfl rfl hdX0_requirePlace ⟨Nat.le_of_ble_eq_true rfl, Nat.le_of_ble_eq_true rfl⟩) tt_pre rfl rfl hl.1 rfl (lv_room (Nat.le_of_ble_eq_true rfl)) dX0_put_7 ⟨Nat.le_of_ble_eq_true rfl, Nat.le_of_ble_eq_true rfl⟩) ?_
      refine lv_iload_n hx hb dX0_put_10 rfl (lv_at hl 3 rfl) ?_
      refine ib_const hx hb dX0_put_11 ?_
      refine ib_bi hx hb dX0_put_12 (by decide) ?_
      by_cases c_14 : 0 ≤ z2 ∧ z2 ≤ 11
      · skip
        exfalso; omega
      · skip
        refine th_call (vx_runS (As := [.int (iI z2), .int (iI 0), .int (iI 11)]) (rest := []) ⟨hx, hb, hml, hown, hts⟩ (mX0_requireRange_b l hfl z2 0 11 ⟨by omega, by omega⟩ ⟨by omega, by omega⟩ ⟨by omega, by omega⟩ c_14) (va_cwS 3 hts gX0_put_X0_requireRange rfl rfl rfl hdX0_requireRange ⟨Nat.le_of_ble_eq_true rfl, Nat.le_of_ble_eq_true rfl⟩) (xS_pre hG) rfl rfl hl.1 rfl (lv_room (Nat.le_of_ble_eq_true rfl)) dX0_put_14 ⟨Nat.le_of_ble_eq_true rfl, Nat.le_of_ble_eq_true rfl⟩) (fun ce q9 H1 hz hk hce hcv hcl => ?_)
        exact th_out hout hlocks hz hk hce hcv hcl (Nat.le_refl _) (Nat.le_refl _)
    · skip
      exfalso; omega
  · skip
    exfalso; omega

set_option maxHeartbeats 4000000 in
set_option maxRecDepth 100000 in
theorem mX0_take_x1 (l : Launch) (hfl : l.stackTraces = false) (dC : Nat → ClassId) (dI : Nat → Nat → Nat) (o0 : Nat) (a0 a1 q : Nat → Nat) (w : Nat) (hp0 : Pm a0) (hp1 : Pm a1) (hw : w ≤ 12) (hq : ∀ i, i < w → q i < 12) (hqd : ∀ i j, i < w → j < w → q i = q j → i = j) (z0 z1 z2 z3 : Int) (hz0 : inI z0) (hz1 : inI z1) (hz2 : inI z2) (hz3 : inI z3) (hbad : ¬ ((z0 = 0 ∨ z0 = 1) ∧ (z3 = 0 ∨ z3 = 1))) : th l yX0_take wsX0_take { frames := 7, cells := 1, slots := 6, locals := 102 } [.ref o0, .int (iI z0), .int (iI z1), .int (iI z2), .int (iI z3)] (bX (dC, dI) [(o0, .inr (0, [.long (pk a0), .long (pk a1), .long (pkn q w), .int (iI ((w : Nat) : Int))]))] []) xIO := by
  refine vx_ofW (cc := cX0_take) (maxL := 5) (ret := (some .int)) (by decide) rfl ?_
  intro P0 e s m args below meth c s₁ B hml hout hv
  obtain ⟨rfl, hP, hK, hG⟩ := hv
  have hx := B.exec
  have hb := B.bytes
  have hr := B.returns
  have hts := atoms_spec (ws := wsX0_take) B.pre
  have hown : s.vm.findClass RX0 = some m.cls := findClass_of_methodNamed B.named
  have hlocks := B.notSynchronized
  have hl := lv_entry ([.ref o0, .int (iI z0), .int (iI z1), .int (iI z2), .int (iI z3)]) (n := 5) (Nat.le_of_ble_eq_true rfl)
  rw [lg_entry_eq]
  generalize (lg_sl ([.ref o0, .int (iI z0), .int (iI z1), .int (iI z2), .int (iI z3)]) ++ List.replicate (5 - (lg_sl ([.ref o0, .int (iI z0), .int (iI z1), .int (iI z2), .int (iI z3)])).length) Slot.unset).toArray = ls at hl ⊢
  have hl : lv_has ls 5 [(0, .ref o0), (1, .int (iI z0)), (2, .int (iI z1)), (3, .int (iI z2)), (4, .int (iI z3))] := hl
  have hza0 := hz0.1
  have hza1 := hz1.1
  have hza2 := hz2.1
  have hza3 := hz3.1
  have hzb0 := hz0.2
  have hzb1 := hz1.2
  have hzb2 := hz2.2
  have hzb3 := hz3.2
  refine lv_iload_n hx hb dX0_take_0 rfl (lv_at hl 1 rfl) ?_
  by_cases c_1 : z0 = 0 ∨ z0 = 1
  · skip
    refine rd_call (va_runS (As := [.int (iI z0)]) (rest := []) ⟨hx, hb, hml, hown, hts⟩ (mX0_requireRow l z0 ⟨by omega, by omega⟩ (by omega)) (va_cwS 1 hts gX0_take_X0_requireRow rfl rfl rfl hdX0_requireRow ⟨Nat.le_of_ble_eq_true rfl, Nat.le_of_ble_eq_true rfl⟩) tt_pre rfl rfl hl.1 rfl (lv_room (Nat.le_of_ble_eq_true rfl)) dX0_take_1 ⟨Nat.le_of_ble_eq_true rfl, Nat.le_of_ble_eq_true rfl⟩) ?_
    refine lv_iload hx hb dX0_take_4 (lv_at hl 4 rfl) ?_
    by_cases c_6 : z3 = 0 ∨ z3 = 1
    · skip
      refine rd_call (va_runS (As := [.int (iI z3)]) (rest := []) ⟨hx, hb, hml, hown, hts⟩ (mX0_requireRow l z3 ⟨by omega, by omega⟩ (by omega)) (va_cwS 1 hts gX0_take_X0_requireRow rfl rfl rfl hdX0_requireRow ⟨Nat.le_of_ble_eq_true rfl, Nat.le_of_ble_eq_true rfl⟩) tt_pre rfl rfl hl.1 rfl (lv_room (Nat.le_of_ble_eq_true rfl)) dX0_take_6 ⟨Nat.le_of_ble_eq_true rfl, Nat.le_of_ble_eq_true rfl⟩) ?_
      refine lv_iload_n hx hb dX0_take_9 rfl (lv_at hl 2 rfl) ?_
      refine lv_iload_n hx hb dX0_take_10 rfl (lv_at hl 3 rfl) ?_
      by_cases c_11 : 0 ≤ z1 ∧ z1 ≤ 3 ∧ 0 ≤ z2 ∧ z2 ≤ 11
      · skip
        exfalso; omega
      · skip
        exfalso; omega
    · skip
      refine th_call (vx_runS (As := [.int (iI z3)]) (rest := []) ⟨hx, hb, hml, hown, hts⟩ (mX0_requireRow_b l hfl z3 ⟨by omega, by omega⟩ c_6) (va_cwS 1 hts gX0_take_X0_requireRow rfl rfl rfl hdX0_requireRow ⟨Nat.le_of_ble_eq_true rfl, Nat.le_of_ble_eq_true rfl⟩) (xS_pre hG) rfl rfl hl.1 rfl (lv_room (Nat.le_of_ble_eq_true rfl)) dX0_take_6 ⟨Nat.le_of_ble_eq_true rfl, Nat.le_of_ble_eq_true rfl⟩) (fun ce q9 H1 hz hk hce hcv hcl => ?_)
      exact th_out hout hlocks hz hk hce hcv hcl (Nat.le_refl _) (Nat.le_refl _)
  · skip
    refine th_call (vx_runS (As := [.int (iI z0)]) (rest := []) ⟨hx, hb, hml, hown, hts⟩ (mX0_requireRow_b l hfl z0 ⟨by omega, by omega⟩ c_1) (va_cwS 1 hts gX0_take_X0_requireRow rfl rfl rfl hdX0_requireRow ⟨Nat.le_of_ble_eq_true rfl, Nat.le_of_ble_eq_true rfl⟩) (xS_pre hG) rfl rfl hl.1 rfl (lv_room (Nat.le_of_ble_eq_true rfl)) dX0_take_1 ⟨Nat.le_of_ble_eq_true rfl, Nat.le_of_ble_eq_true rfl⟩) (fun ce q9 H1 hz hk hce hcv hcl => ?_)
    exact th_out hout hlocks hz hk hce hcv hcl (Nat.le_refl _) (Nat.le_refl _)

set_option maxHeartbeats 4000000 in
set_option maxRecDepth 100000 in
theorem mX0_take_x2 (l : Launch) (hfl : l.stackTraces = false) (dC : Nat → ClassId) (dI : Nat → Nat → Nat) (o0 : Nat) (a0 a1 q : Nat → Nat) (w : Nat) (hp0 : Pm a0) (hp1 : Pm a1) (hw : w ≤ 12) (hq : ∀ i, i < w → q i < 12) (hqd : ∀ i j, i < w → j < w → q i = q j → i = j) (z0 z1 z2 z3 : Int) (hz0 : inI z0) (hz1 : inI z1) (hz2 : inI z2) (hz3 : inI z3) (hbad : ((z0 = 0 ∨ z0 = 1) ∧ (z3 = 0 ∨ z3 = 1)) ∧ ¬ (0 ≤ z1 ∧ z1 ≤ 3 ∧ 0 ≤ z2 ∧ z2 ≤ 11)) : th l yX0_take wsX0_take { frames := 8, cells := 1, slots := 6, locals := 125 } [.ref o0, .int (iI z0), .int (iI z1), .int (iI z2), .int (iI z3)] (bX (dC, dI) [(o0, .inr (0, [.long (pk a0), .long (pk a1), .long (pkn q w), .int (iI ((w : Nat) : Int))]))] []) xIA := by
  refine vx_ofW (cc := cX0_take) (maxL := 5) (ret := (some .int)) (by decide) rfl ?_
  intro P0 e s m args below meth c s₁ B hml hout hv
  obtain ⟨rfl, hP, hK, hG⟩ := hv
  have hx := B.exec
  have hb := B.bytes
  have hr := B.returns
  have hts := atoms_spec (ws := wsX0_take) B.pre
  have hown : s.vm.findClass RX0 = some m.cls := findClass_of_methodNamed B.named
  have hlocks := B.notSynchronized
  have hl := lv_entry ([.ref o0, .int (iI z0), .int (iI z1), .int (iI z2), .int (iI z3)]) (n := 5) (Nat.le_of_ble_eq_true rfl)
  rw [lg_entry_eq]
  generalize (lg_sl ([.ref o0, .int (iI z0), .int (iI z1), .int (iI z2), .int (iI z3)]) ++ List.replicate (5 - (lg_sl ([.ref o0, .int (iI z0), .int (iI z1), .int (iI z2), .int (iI z3)])).length) Slot.unset).toArray = ls at hl ⊢
  have hl : lv_has ls 5 [(0, .ref o0), (1, .int (iI z0)), (2, .int (iI z1)), (3, .int (iI z2)), (4, .int (iI z3))] := hl
  have hza0 := hz0.1
  have hza1 := hz1.1
  have hza2 := hz2.1
  have hza3 := hz3.1
  have hzb0 := hz0.2
  have hzb1 := hz1.2
  have hzb2 := hz2.2
  have hzb3 := hz3.2
  refine lv_iload_n hx hb dX0_take_0 rfl (lv_at hl 1 rfl) ?_
  by_cases c_1 : z0 = 0 ∨ z0 = 1
  · skip
    refine rd_call (va_runS (As := [.int (iI z0)]) (rest := []) ⟨hx, hb, hml, hown, hts⟩ (mX0_requireRow l z0 ⟨by omega, by omega⟩ (by omega)) (va_cwS 1 hts gX0_take_X0_requireRow rfl rfl rfl hdX0_requireRow ⟨Nat.le_of_ble_eq_true rfl, Nat.le_of_ble_eq_true rfl⟩) tt_pre rfl rfl hl.1 rfl (lv_room (Nat.le_of_ble_eq_true rfl)) dX0_take_1 ⟨Nat.le_of_ble_eq_true rfl, Nat.le_of_ble_eq_true rfl⟩) ?_
    refine lv_iload hx hb dX0_take_4 (lv_at hl 4 rfl) ?_
    by_cases c_6 : z3 = 0 ∨ z3 = 1
    · skip
      refine rd_call (va_runS (As := [.int (iI z3)]) (rest := []) ⟨hx, hb, hml, hown, hts⟩ (mX0_requireRow l z3 ⟨by omega, by omega⟩ (by omega)) (va_cwS 1 hts gX0_take_X0_requireRow rfl rfl rfl hdX0_requireRow ⟨Nat.le_of_ble_eq_true rfl, Nat.le_of_ble_eq_true rfl⟩) tt_pre rfl rfl hl.1 rfl (lv_room (Nat.le_of_ble_eq_true rfl)) dX0_take_6 ⟨Nat.le_of_ble_eq_true rfl, Nat.le_of_ble_eq_true rfl⟩) ?_
      refine lv_iload_n hx hb dX0_take_9 rfl (lv_at hl 2 rfl) ?_
      refine lv_iload_n hx hb dX0_take_10 rfl (lv_at hl 3 rfl) ?_
      by_cases c_11 : 0 ≤ z1 ∧ z1 ≤ 3 ∧ 0 ≤ z2 ∧ z2 ≤ 11
      · skip
        exfalso; omega
      · skip
        refine th_call (vx_runS (As := [.int (iI z1), .int (iI z2)]) (rest := []) ⟨hx, hb, hml, hown, hts⟩ (mX0_requireForm_b l hfl z1 z2 ⟨by omega, by omega⟩ ⟨by omega, by omega⟩ c_11) (va_cwS 2 hts gX0_take_X0_requireForm rfl rfl rfl hdX0_requireForm ⟨Nat.le_of_ble_eq_true rfl, Nat.le_of_ble_eq_true rfl⟩) (xS_pre hG) rfl rfl hl.1 rfl (lv_room (Nat.le_of_ble_eq_true rfl)) dX0_take_11 ⟨Nat.le_of_ble_eq_true rfl, Nat.le_of_ble_eq_true rfl⟩) (fun ce q9 H1 hz hk hce hcv hcl => ?_)
        exact th_out hout hlocks hz hk hce hcv hcl (Nat.le_refl _) (Nat.le_refl _)
    · skip
      exfalso; omega
  · skip
    exfalso; omega

set_option maxHeartbeats 4000000 in
set_option maxRecDepth 100000 in
theorem mX0_multiply_x1 (l : Launch) (hfl : l.stackTraces = false) (dC : Nat → ClassId) (dI : Nat → Nat → Nat) (o0 : Nat) (a0 a1 q : Nat → Nat) (w : Nat) (hp0 : Pm a0) (hp1 : Pm a1) (hw : w ≤ 12) (hq : ∀ i, i < w → q i < 12) (hqd : ∀ i j, i < w → j < w → q i = q j → i = j) (z0 z1 : Int) (hz0 : inI z0) (hz1 : inI z1) (hbad : ¬ (z0 = 0 ∨ z0 = 1)) : th l yX0_multiply wsX0_multiply { frames := 7, cells := 1, slots := 6, locals := 102 } [.ref o0, .int (iI z0), .int (iI z1)] (bX (dC, dI) [(o0, .inr (0, [.long (pk a0), .long (pk a1), .long (pkn q w), .int (iI ((w : Nat) : Int))]))] []) xIO := by
  refine vx_ofW (cc := cX0_multiply) (maxL := 8) (ret := (some .int)) (by decide) rfl ?_
  intro P0 e s m args below meth c s₁ B hml hout hv
  obtain ⟨rfl, hP, hK, hG⟩ := hv
  have hx := B.exec
  have hb := B.bytes
  have hr := B.returns
  have hts := atoms_spec (ws := wsX0_multiply) B.pre
  have hown : s.vm.findClass RX0 = some m.cls := findClass_of_methodNamed B.named
  have hlocks := B.notSynchronized
  have hl := lv_entry ([.ref o0, .int (iI z0), .int (iI z1)]) (n := 8) (Nat.le_of_ble_eq_true rfl)
  rw [lg_entry_eq]
  generalize (lg_sl ([.ref o0, .int (iI z0), .int (iI z1)]) ++ List.replicate (8 - (lg_sl ([.ref o0, .int (iI z0), .int (iI z1)])).length) Slot.unset).toArray = ls at hl ⊢
  have hl : lv_has ls 8 [(0, .ref o0), (1, .int (iI z0)), (2, .int (iI z1))] := hl
  have hza0 := hz0.1
  have hza1 := hz1.1
  have hzb0 := hz0.2
  have hzb1 := hz1.2
  refine lv_iload_n hx hb dX0_multiply_0 rfl (lv_at hl 1 rfl) ?_
  by_cases c_1 : z0 = 0 ∨ z0 = 1
  · skip
    refine rd_call (va_runS (As := [.int (iI z0)]) (rest := []) ⟨hx, hb, hml, hown, hts⟩ (mX0_requireRow l z0 ⟨by omega, by omega⟩ (by omega)) (va_cwS 1 hts gX0_multiply_X0_requireRow rfl rfl rfl hdX0_requireRow ⟨Nat.le_of_ble_eq_true rfl, Nat.le_of_ble_eq_true rfl⟩) tt_pre rfl rfl hl.1 rfl (lv_room (Nat.le_of_ble_eq_true rfl)) dX0_multiply_1 ⟨Nat.le_of_ble_eq_true rfl, Nat.le_of_ble_eq_true rfl⟩) ?_
    refine lv_iload_n hx hb dX0_multiply_4 rfl (lv_at hl 2 rfl) ?_
    by_cases c_5 : z1 = 1 ∨ z1 = 5 ∨ z1 = 7 ∨ z1 = 11
    · skip
      exfalso; omega
    · skip
      exfalso; omega
  · skip
    refine th_call (vx_runS (As := [.int (iI z0)]) (rest := []) ⟨hx, hb, hml, hown, hts⟩ (mX0_requireRow_b l hfl z0 ⟨by omega, by omega⟩ c_1) (va_cwS 1 hts gX0_multiply_X0_requireRow rfl rfl rfl hdX0_requireRow ⟨Nat.le_of_ble_eq_true rfl, Nat.le_of_ble_eq_true rfl⟩) (xS_pre hG) rfl rfl hl.1 rfl (lv_room (Nat.le_of_ble_eq_true rfl)) dX0_multiply_1 ⟨Nat.le_of_ble_eq_true rfl, Nat.le_of_ble_eq_true rfl⟩) (fun ce q9 H1 hz hk hce hcv hcl => ?_)
    exact th_out hout hlocks hz hk hce hcv hcl (Nat.le_refl _) (Nat.le_refl _)

set_option maxHeartbeats 4000000 in
set_option maxRecDepth 100000 in
theorem mX0_multiply_x2 (l : Launch) (hfl : l.stackTraces = false) (dC : Nat → ClassId) (dI : Nat → Nat → Nat) (o0 : Nat) (a0 a1 q : Nat → Nat) (w : Nat) (hp0 : Pm a0) (hp1 : Pm a1) (hw : w ≤ 12) (hq : ∀ i, i < w → q i < 12) (hqd : ∀ i j, i < w → j < w → q i = q j → i = j) (z0 z1 : Int) (hz0 : inI z0) (hz1 : inI z1) (hbad : (z0 = 0 ∨ z0 = 1) ∧ ¬ (z1 = 1 ∨ z1 = 5 ∨ z1 = 7 ∨ z1 = 11)) : th l yX0_multiply wsX0_multiply { frames := 7, cells := 1, slots := 6, locals := 102 } [.ref o0, .int (iI z0), .int (iI z1)] (bX (dC, dI) [(o0, .inr (0, [.long (pk a0), .long (pk a1), .long (pkn q w), .int (iI ((w : Nat) : Int))]))] []) xIA := by
  refine vx_ofW (cc := cX0_multiply) (maxL := 8) (ret := (some .int)) (by decide) rfl ?_
  intro P0 e s m args below meth c s₁ B hml hout hv
  obtain ⟨rfl, hP, hK, hG⟩ := hv
  have hx := B.exec
  have hb := B.bytes
  have hr := B.returns
  have hts := atoms_spec (ws := wsX0_multiply) B.pre
  have hown : s.vm.findClass RX0 = some m.cls := findClass_of_methodNamed B.named
  have hlocks := B.notSynchronized
  have hl := lv_entry ([.ref o0, .int (iI z0), .int (iI z1)]) (n := 8) (Nat.le_of_ble_eq_true rfl)
  rw [lg_entry_eq]
  generalize (lg_sl ([.ref o0, .int (iI z0), .int (iI z1)]) ++ List.replicate (8 - (lg_sl ([.ref o0, .int (iI z0), .int (iI z1)])).length) Slot.unset).toArray = ls at hl ⊢
  have hl : lv_has ls 8 [(0, .ref o0), (1, .int (iI z0)), (2, .int (iI z1))] := hl
  have hza0 := hz0.1
  have hza1 := hz1.1
  have hzb0 := hz0.2
  have hzb1 := hz1.2
  refine lv_iload_n hx hb dX0_multiply_0 rfl (lv_at hl 1 rfl) ?_
  by_cases c_1 : z0 = 0 ∨ z0 = 1
  · skip
    refine rd_call (va_runS (As := [.int (iI z0)]) (rest := []) ⟨hx, hb, hml, hown, hts⟩ (mX0_requireRow l z0 ⟨by omega, by omega⟩ (by omega)) (va_cwS 1 hts gX0_multiply_X0_requireRow rfl rfl rfl hdX0_requireRow ⟨Nat.le_of_ble_eq_true rfl, Nat.le_of_ble_eq_true rfl⟩) tt_pre rfl rfl hl.1 rfl (lv_room (Nat.le_of_ble_eq_true rfl)) dX0_multiply_1 ⟨Nat.le_of_ble_eq_true rfl, Nat.le_of_ble_eq_true rfl⟩) ?_
    refine lv_iload_n hx hb dX0_multiply_4 rfl (lv_at hl 2 rfl) ?_
    by_cases c_5 : z1 = 1 ∨ z1 = 5 ∨ z1 = 7 ∨ z1 = 11
    · skip
      exfalso; omega
    · skip
      refine th_call (vx_runS (As := [.int (iI z1)]) (rest := []) ⟨hx, hb, hml, hown, hts⟩ (mX0_requireFactor_b l hfl z1 ⟨by omega, by omega⟩ c_5) (va_cwS 1 hts gX0_multiply_X0_requireFactor rfl rfl rfl hdX0_requireFactor ⟨Nat.le_of_ble_eq_true rfl, Nat.le_of_ble_eq_true rfl⟩) (xS_pre hG) rfl rfl hl.1 rfl (lv_room (Nat.le_of_ble_eq_true rfl)) dX0_multiply_5 ⟨Nat.le_of_ble_eq_true rfl, Nat.le_of_ble_eq_true rfl⟩) (fun ce q9 H1 hz hk hce hcv hcl => ?_)
      exact th_out hout hlocks hz hk hce hcv hcl (Nat.le_refl _) (Nat.le_refl _)
  · skip
    exfalso; omega

set_option maxHeartbeats 4000000 in
set_option maxRecDepth 100000 in
theorem mX0_rotate_x1 (l : Launch) (hfl : l.stackTraces = false) (dC : Nat → ClassId) (dI : Nat → Nat → Nat) (o0 : Nat) (a0 a1 q : Nat → Nat) (w : Nat) (hp0 : Pm a0) (hp1 : Pm a1) (hw : w ≤ 12) (hq : ∀ i, i < w → q i < 12) (hqd : ∀ i j, i < w → j < w → q i = q j → i = j) (z0 z1 : Int) (hz0 : inI z0) (hz1 : inI z1) (hbad : ¬ (z0 = 0 ∨ z0 = 1)) : th l yX0_rotate wsX0_rotate { frames := 7, cells := 1, slots := 6, locals := 102 } [.ref o0, .int (iI z0), .int (iI z1)] (bX (dC, dI) [(o0, .inr (0, [.long (pk a0), .long (pk a1), .long (pkn q w), .int (iI ((w : Nat) : Int))]))] []) xIO := by
  refine vx_ofW (cc := cX0_rotate) (maxL := 8) (ret := (some .int)) (by decide) rfl ?_
  intro P0 e s m args below meth c s₁ B hml hout hv
  obtain ⟨rfl, hP, hK, hG⟩ := hv
  have hx := B.exec
  have hb := B.bytes
  have hr := B.returns
  have hts := atoms_spec (ws := wsX0_rotate) B.pre
  have hown : s.vm.findClass RX0 = some m.cls := findClass_of_methodNamed B.named
  have hlocks := B.notSynchronized
  have hl := lv_entry ([.ref o0, .int (iI z0), .int (iI z1)]) (n := 8) (Nat.le_of_ble_eq_true rfl)
  rw [lg_entry_eq]
  generalize (lg_sl ([.ref o0, .int (iI z0), .int (iI z1)]) ++ List.replicate (8 - (lg_sl ([.ref o0, .int (iI z0), .int (iI z1)])).length) Slot.unset).toArray = ls at hl ⊢
  have hl : lv_has ls 8 [(0, .ref o0), (1, .int (iI z0)), (2, .int (iI z1))] := hl
  have hza0 := hz0.1
  have hza1 := hz1.1
  have hzb0 := hz0.2
  have hzb1 := hz1.2
  refine lv_iload_n hx hb dX0_rotate_0 rfl (lv_at hl 1 rfl) ?_
  by_cases c_1 : z0 = 0 ∨ z0 = 1
  · skip
    refine rd_call (va_runS (As := [.int (iI z0)]) (rest := []) ⟨hx, hb, hml, hown, hts⟩ (mX0_requireRow l z0 ⟨by omega, by omega⟩ (by omega)) (va_cwS 1 hts gX0_rotate_X0_requireRow rfl rfl rfl hdX0_requireRow ⟨Nat.le_of_ble_eq_true rfl, Nat.le_of_ble_eq_true rfl⟩) tt_pre rfl rfl hl.1 rfl (lv_room (Nat.le_of_ble_eq_true rfl)) dX0_rotate_1 ⟨Nat.le_of_ble_eq_true rfl, Nat.le_of_ble_eq_true rfl⟩) ?_
    refine lv_iload_n hx hb dX0_rotate_4 rfl (lv_at hl 2 rfl) ?_
    refine ib_const hx hb dX0_rotate_5 ?_
    refine ib_bi hx hb dX0_rotate_6 (by decide) ?_
    by_cases c_8 : 0 ≤ z1 ∧ z1 ≤ 11
    · skip
      exfalso; omega
    · skip
      exfalso; omega
  · skip
    refine th_call (vx_runS (As := [.int (iI z0)]) (rest := []) ⟨hx, hb, hml, hown, hts⟩ (mX0_requireRow_b l hfl z0 ⟨by omega, by omega⟩ c_1) (va_cwS 1 hts gX0_rotate_X0_requireRow rfl rfl rfl hdX0_requireRow ⟨Nat.le_of_ble_eq_true rfl, Nat.le_of_ble_eq_true rfl⟩) (xS_pre hG) rfl rfl hl.1 rfl (lv_room (Nat.le_of_ble_eq_true rfl)) dX0_rotate_1 ⟨Nat.le_of_ble_eq_true rfl, Nat.le_of_ble_eq_true rfl⟩) (fun ce q9 H1 hz hk hce hcv hcl => ?_)
    exact th_out hout hlocks hz hk hce hcv hcl (Nat.le_refl _) (Nat.le_refl _)

set_option maxHeartbeats 4000000 in
set_option maxRecDepth 100000 in
theorem mX0_rotate_x2 (l : Launch) (hfl : l.stackTraces = false) (dC : Nat → ClassId) (dI : Nat → Nat → Nat) (o0 : Nat) (a0 a1 q : Nat → Nat) (w : Nat) (hp0 : Pm a0) (hp1 : Pm a1) (hw : w ≤ 12) (hq : ∀ i, i < w → q i < 12) (hqd : ∀ i j, i < w → j < w → q i = q j → i = j) (z0 z1 : Int) (hz0 : inI z0) (hz1 : inI z1) (hbad : (z0 = 0 ∨ z0 = 1) ∧ ¬ (0 ≤ z1 ∧ z1 ≤ 11)) : th l yX0_rotate wsX0_rotate { frames := 7, cells := 1, slots := 6, locals := 104 } [.ref o0, .int (iI z0), .int (iI z1)] (bX (dC, dI) [(o0, .inr (0, [.long (pk a0), .long (pk a1), .long (pkn q w), .int (iI ((w : Nat) : Int))]))] []) xIA := by
  refine vx_ofW (cc := cX0_rotate) (maxL := 8) (ret := (some .int)) (by decide) rfl ?_
  intro P0 e s m args below meth c s₁ B hml hout hv
  obtain ⟨rfl, hP, hK, hG⟩ := hv
  have hx := B.exec
  have hb := B.bytes
  have hr := B.returns
  have hts := atoms_spec (ws := wsX0_rotate) B.pre
  have hown : s.vm.findClass RX0 = some m.cls := findClass_of_methodNamed B.named
  have hlocks := B.notSynchronized
  have hl := lv_entry ([.ref o0, .int (iI z0), .int (iI z1)]) (n := 8) (Nat.le_of_ble_eq_true rfl)
  rw [lg_entry_eq]
  generalize (lg_sl ([.ref o0, .int (iI z0), .int (iI z1)]) ++ List.replicate (8 - (lg_sl ([.ref o0, .int (iI z0), .int (iI z1)])).length) Slot.unset).toArray = ls at hl ⊢
  have hl : lv_has ls 8 [(0, .ref o0), (1, .int (iI z0)), (2, .int (iI z1))] := hl
  have hza0 := hz0.1
  have hza1 := hz1.1
  have hzb0 := hz0.2
  have hzb1 := hz1.2
  refine lv_iload_n hx hb dX0_rotate_0 rfl (lv_at hl 1 rfl) ?_
  by_cases c_1 : z0 = 0 ∨ z0 = 1
  · skip
    refine rd_call (va_runS (As := [.int (iI z0)]) (rest := []) ⟨hx, hb, hml, hown, hts⟩ (mX0_requireRow l z0 ⟨by omega, by omega⟩ (by omega)) (va_cwS 1 hts gX0_rotate_X0_requireRow rfl rfl rfl hdX0_requireRow ⟨Nat.le_of_ble_eq_true rfl, Nat.le_of_ble_eq_true rfl⟩) tt_pre rfl rfl hl.1 rfl (lv_room (Nat.le_of_ble_eq_true rfl)) dX0_rotate_1 ⟨Nat.le_of_ble_eq_true rfl, Nat.le_of_ble_eq_true rfl⟩) ?_
    refine lv_iload_n hx hb dX0_rotate_4 rfl (lv_at hl 2 rfl) ?_
    refine ib_const hx hb dX0_rotate_5 ?_
    refine ib_bi hx hb dX0_rotate_6 (by decide) ?_
    by_cases c_8 : 0 ≤ z1 ∧ z1 ≤ 11
    · skip
      exfalso; omega
    · skip
      refine th_call (vx_runS (As := [.int (iI z1), .int (iI 0), .int (iI 11)]) (rest := []) ⟨hx, hb, hml, hown, hts⟩ (mX0_requireRange_b l hfl z1 0 11 ⟨by omega, by omega⟩ ⟨by omega, by omega⟩ ⟨by omega, by omega⟩ c_8) (va_cwS 3 hts gX0_rotate_X0_requireRange rfl rfl rfl hdX0_requireRange ⟨Nat.le_of_ble_eq_true rfl, Nat.le_of_ble_eq_true rfl⟩) (xS_pre hG) rfl rfl hl.1 rfl (lv_room (Nat.le_of_ble_eq_true rfl)) dX0_rotate_8 ⟨Nat.le_of_ble_eq_true rfl, Nat.le_of_ble_eq_true rfl⟩) (fun ce q9 H1 hz hk hce hcv hcl => ?_)
      exact th_out hout hlocks hz hk hce hcv hcl (Nat.le_refl _) (Nat.le_refl _)
  · skip
    exfalso; omega

set_option maxHeartbeats 4000000 in
set_option maxRecDepth 100000 in
theorem mX0_tone_x1 (l : Launch) (hfl : l.stackTraces = false) (dC : Nat → ClassId) (dI : Nat → Nat → Nat) (o0 : Nat) (a0 a1 q : Nat → Nat) (w : Nat) (hp0 : Pm a0) (hp1 : Pm a1) (hw : w ≤ 12) (hq : ∀ i, i < w → q i < 12) (hqd : ∀ i j, i < w → j < w → q i = q j → i = j) (z0 z1 : Int) (hz0 : inI z0) (hz1 : inI z1) (hbad : ¬ ((z0 = 0 ∨ z0 = 1) ∧ (0 ≤ z1 ∧ z1 ≤ 11))) : th l yX0_tone wsX0_tone { frames := 7, cells := 1, slots := 6, locals := 103 } [.ref o0, .int (iI z0), .int (iI z1)] (bX (dC, dI) [(o0, .inr (0, [.long (pk a0), .long (pk a1), .long (pkn q w), .int (iI ((w : Nat) : Int))]))] []) xIO := by
  refine vx_ofW (cc := cX0_tone) (maxL := 3) (ret := (some .int)) (by decide) rfl ?_
  intro P0 e s m args below meth c s₁ B hml hout hv
  obtain ⟨rfl, hP, hK, hG⟩ := hv
  have hx := B.exec
  have hb := B.bytes
  have hr := B.returns
  have hts := atoms_spec (ws := wsX0_tone) B.pre
  have hown : s.vm.findClass RX0 = some m.cls := findClass_of_methodNamed B.named
  have hlocks := B.notSynchronized
  have hl := lv_entry ([.ref o0, .int (iI z0), .int (iI z1)]) (n := 3) (Nat.le_of_ble_eq_true rfl)
  rw [lg_entry_eq]
  generalize (lg_sl ([.ref o0, .int (iI z0), .int (iI z1)]) ++ List.replicate (3 - (lg_sl ([.ref o0, .int (iI z0), .int (iI z1)])).length) Slot.unset).toArray = ls at hl ⊢
  have hl : lv_has ls 3 [(0, .ref o0), (1, .int (iI z0)), (2, .int (iI z1))] := hl
  have hza0 := hz0.1
  have hza1 := hz1.1
  have hzb0 := hz0.2
  have hzb1 := hz1.2
  refine lv_iload_n hx hb dX0_tone_0 rfl (lv_at hl 1 rfl) ?_
  by_cases c_1 : z0 = 0 ∨ z0 = 1
  · skip
    refine rd_call (va_runS (As := [.int (iI z0)]) (rest := []) ⟨hx, hb, hml, hown, hts⟩ (mX0_requireRow l z0 ⟨by omega, by omega⟩ (by omega)) (va_cwS 1 hts gX0_tone_X0_requireRow rfl rfl rfl hdX0_requireRow ⟨Nat.le_of_ble_eq_true rfl, Nat.le_of_ble_eq_true rfl⟩) tt_pre rfl rfl hl.1 rfl (lv_room (Nat.le_of_ble_eq_true rfl)) dX0_tone_1 ⟨Nat.le_of_ble_eq_true rfl, Nat.le_of_ble_eq_true rfl⟩) ?_
    refine lv_iload_n hx hb dX0_tone_4 rfl (lv_at hl 2 rfl) ?_
    refine ib_bi hx hb dX0_tone_5 (by decide) ?_
    by_cases c_7 : 0 ≤ z1 ∧ z1 ≤ 11
    · skip
      exfalso; omega
    · skip
      refine th_call (vx_runS (As := [.int (iI z1), .int (iI 11)]) (rest := []) ⟨hx, hb, hml, hown, hts⟩ (mX0_requirePlace_b l hfl z1 11 ⟨by omega, by omega⟩ ⟨by omega, by omega⟩ c_7) (va_cwS 2 hts gX0_tone_X0_requirePlace rfl rfl rfl hdX0_requirePlace ⟨Nat.le_of_ble_eq_true rfl, Nat.le_of_ble_eq_true rfl⟩) (xS_pre hG) rfl rfl hl.1 rfl (lv_room (Nat.le_of_ble_eq_true rfl)) dX0_tone_7 ⟨Nat.le_of_ble_eq_true rfl, Nat.le_of_ble_eq_true rfl⟩) (fun ce q9 H1 hz hk hce hcv hcl => ?_)
      exact th_out hout hlocks hz hk hce hcv hcl (Nat.le_refl _) (Nat.le_refl _)
  · skip
    refine th_call (vx_runS (As := [.int (iI z0)]) (rest := []) ⟨hx, hb, hml, hown, hts⟩ (mX0_requireRow_b l hfl z0 ⟨by omega, by omega⟩ c_1) (va_cwS 1 hts gX0_tone_X0_requireRow rfl rfl rfl hdX0_requireRow ⟨Nat.le_of_ble_eq_true rfl, Nat.le_of_ble_eq_true rfl⟩) (xS_pre hG) rfl rfl hl.1 rfl (lv_room (Nat.le_of_ble_eq_true rfl)) dX0_tone_1 ⟨Nat.le_of_ble_eq_true rfl, Nat.le_of_ble_eq_true rfl⟩) (fun ce q9 H1 hz hk hce hcv hcl => ?_)
    exact th_out hout hlocks hz hk hce hcv hcl (Nat.le_refl _) (Nat.le_refl _)

set_option maxHeartbeats 4000000 in
set_option maxRecDepth 100000 in
theorem mX0_interval_x1 (l : Launch) (hfl : l.stackTraces = false) (dC : Nat → ClassId) (dI : Nat → Nat → Nat) (o0 : Nat) (a0 a1 q : Nat → Nat) (w : Nat) (hp0 : Pm a0) (hp1 : Pm a1) (hw : w ≤ 12) (hq : ∀ i, i < w → q i < 12) (hqd : ∀ i j, i < w → j < w → q i = q j → i = j) (z0 z1 : Int) (hz0 : inI z0) (hz1 : inI z1) (hbad : ¬ ((z0 = 0 ∨ z0 = 1) ∧ (0 ≤ z1 ∧ z1 ≤ 10))) : th l yX0_interval wsX0_interval { frames := 7, cells := 1, slots := 6, locals := 103 } [.ref o0, .int (iI z0), .int (iI z1)] (bX (dC, dI) [(o0, .inr (0, [.long (pk a0), .long (pk a1), .long (pkn q w), .int (iI ((w : Nat) : Int))]))] []) xIO := by
  refine vx_ofW (cc := cX0_interval) (maxL := 3) (ret := (some .int)) (by decide) rfl ?_
  intro P0 e s m args below meth c s₁ B hml hout hv
  obtain ⟨rfl, hP, hK, hG⟩ := hv
  have hx := B.exec
  have hb := B.bytes
  have hr := B.returns
  have hts := atoms_spec (ws := wsX0_interval) B.pre
  have hown : s.vm.findClass RX0 = some m.cls := findClass_of_methodNamed B.named
  have hlocks := B.notSynchronized
  have hl := lv_entry ([.ref o0, .int (iI z0), .int (iI z1)]) (n := 3) (Nat.le_of_ble_eq_true rfl)
  rw [lg_entry_eq]
  generalize (lg_sl ([.ref o0, .int (iI z0), .int (iI z1)]) ++ List.replicate (3 - (lg_sl ([.ref o0, .int (iI z0), .int (iI z1)])).length) Slot.unset).toArray = ls at hl ⊢
  have hl : lv_has ls 3 [(0, .ref o0), (1, .int (iI z0)), (2, .int (iI z1))] := hl
  have hza0 := hz0.1
  have hza1 := hz1.1
  have hzb0 := hz0.2
  have hzb1 := hz1.2
  refine lv_iload_n hx hb dX0_interval_0 rfl (lv_at hl 1 rfl) ?_
  by_cases c_1 : z0 = 0 ∨ z0 = 1
  · skip
    refine rd_call (va_runS (As := [.int (iI z0)]) (rest := []) ⟨hx, hb, hml, hown, hts⟩ (mX0_requireRow l z0 ⟨by omega, by omega⟩ (by omega)) (va_cwS 1 hts gX0_interval_X0_requireRow rfl rfl rfl hdX0_requireRow ⟨Nat.le_of_ble_eq_true rfl, Nat.le_of_ble_eq_true rfl⟩) tt_pre rfl rfl hl.1 rfl (lv_room (Nat.le_of_ble_eq_true rfl)) dX0_interval_1 ⟨Nat.le_of_ble_eq_true rfl, Nat.le_of_ble_eq_true rfl⟩) ?_
    refine lv_iload_n hx hb dX0_interval_4 rfl (lv_at hl 2 rfl) ?_
    refine ib_bi hx hb dX0_interval_5 (by decide) ?_
    by_cases c_7 : 0 ≤ z1 ∧ z1 ≤ 10
    · skip
      exfalso; omega
    · skip
      refine th_call (vx_runS (As := [.int (iI z1), .int (iI 10)]) (rest := []) ⟨hx, hb, hml, hown, hts⟩ (mX0_requirePlace_b l hfl z1 10 ⟨by omega, by omega⟩ ⟨by omega, by omega⟩ c_7) (va_cwS 2 hts gX0_interval_X0_requirePlace rfl rfl rfl hdX0_requirePlace ⟨Nat.le_of_ble_eq_true rfl, Nat.le_of_ble_eq_true rfl⟩) (xS_pre hG) rfl rfl hl.1 rfl (lv_room (Nat.le_of_ble_eq_true rfl)) dX0_interval_7 ⟨Nat.le_of_ble_eq_true rfl, Nat.le_of_ble_eq_true rfl⟩) (fun ce q9 H1 hz hk hce hcv hcl => ?_)
      exact th_out hout hlocks hz hk hce hcv hcl (Nat.le_refl _) (Nat.le_refl _)
  · skip
    refine th_call (vx_runS (As := [.int (iI z0)]) (rest := []) ⟨hx, hb, hml, hown, hts⟩ (mX0_requireRow_b l hfl z0 ⟨by omega, by omega⟩ c_1) (va_cwS 1 hts gX0_interval_X0_requireRow rfl rfl rfl hdX0_requireRow ⟨Nat.le_of_ble_eq_true rfl, Nat.le_of_ble_eq_true rfl⟩) (xS_pre hG) rfl rfl hl.1 rfl (lv_room (Nat.le_of_ble_eq_true rfl)) dX0_interval_1 ⟨Nat.le_of_ble_eq_true rfl, Nat.le_of_ble_eq_true rfl⟩) (fun ce q9 H1 hz hk hce hcv hcl => ?_)
    exact th_out hout hlocks hz hk hce hcv hcl (Nat.le_refl _) (Nat.le_refl _)

set_option maxHeartbeats 4000000 in
set_option maxRecDepth 100000 in
theorem mX0_toneOf_x1 (l : Launch) (hfl : l.stackTraces = false) (dC : Nat → ClassId) (dI : Nat → Nat → Nat) (o0 : Nat) (a0 a1 q : Nat → Nat) (w : Nat) (hp0 : Pm a0) (hp1 : Pm a1) (hw : w ≤ 12) (hq : ∀ i, i < w → q i < 12) (hqd : ∀ i j, i < w → j < w → q i = q j → i = j) (z0 z1 z2 z3 : Int) (hz0 : inI z0) (hz1 : inI z1) (hz2 : inI z2) (hz3 : inI z3) (hbad : ¬ ((z0 = 0 ∨ z0 = 1) ∧ (0 ≤ z3 ∧ z3 ≤ 11))) : th l yX0_toneOf wsX0_toneOf { frames := 7, cells := 1, slots := 6, locals := 103 } [.ref o0, .int (iI z0), .int (iI z1), .int (iI z2), .int (iI z3)] (bX (dC, dI) [(o0, .inr (0, [.long (pk a0), .long (pk a1), .long (pkn q w), .int (iI ((w : Nat) : Int))]))] []) xIO := by
  refine vx_ofW (cc := cX0_toneOf) (maxL := 5) (ret := (some .int)) (by decide) rfl ?_
  intro P0 e s m args below meth c s₁ B hml hout hv
  obtain ⟨rfl, hP, hK, hG⟩ := hv
  have hx := B.exec
  have hb := B.bytes
  have hr := B.returns
  have hts := atoms_spec (ws := wsX0_toneOf) B.pre
  have hown : s.vm.findClass RX0 = some m.cls := findClass_of_methodNamed B.named
  have hlocks := B.notSynchronized
  have hl := lv_entry ([.ref o0, .int (iI z0), .int (iI z1), .int (iI z2), .int (iI z3)]) (n := 5) (Nat.le_of_ble_eq_true rfl)
  rw [lg_entry_eq]
  generalize (lg_sl ([.ref o0, .int (iI z0), .int (iI z1), .int (iI z2), .int (iI z3)]) ++ List.replicate (5 - (lg_sl ([.ref o0, .int (iI z0), .int (iI z1), .int (iI z2), .int (iI z3)])).length) Slot.unset).toArray = ls at hl ⊢
  have hl : lv_has ls 5 [(0, .ref o0), (1, .int (iI z0)), (2, .int (iI z1)), (3, .int (iI z2)), (4, .int (iI z3))] := hl
  have hza0 := hz0.1
  have hza1 := hz1.1
  have hza2 := hz2.1
  have hza3 := hz3.1
  have hzb0 := hz0.2
  have hzb1 := hz1.2
  have hzb2 := hz2.2
  have hzb3 := hz3.2
  refine lv_iload_n hx hb dX0_toneOf_0 rfl (lv_at hl 1 rfl) ?_
  by_cases c_1 : z0 = 0 ∨ z0 = 1
  · skip
    refine rd_call (va_runS (As := [.int (iI z0)]) (rest := []) ⟨hx, hb, hml, hown, hts⟩ (mX0_requireRow l z0 ⟨by omega, by omega⟩ (by omega)) (va_cwS 1 hts gX0_toneOf_X0_requireRow rfl rfl rfl hdX0_requireRow ⟨Nat.le_of_ble_eq_true rfl, Nat.le_of_ble_eq_true rfl⟩) tt_pre rfl rfl hl.1 rfl (lv_room (Nat.le_of_ble_eq_true rfl)) dX0_toneOf_1 ⟨Nat.le_of_ble_eq_true rfl, Nat.le_of_ble_eq_true rfl⟩) ?_
    refine lv_iload hx hb dX0_toneOf_4 (lv_at hl 4 rfl) ?_
    refine ib_bi hx hb dX0_toneOf_6 (by decide) ?_
    by_cases c_8 : 0 ≤ z3 ∧ z3 ≤ 11
    · skip
      refine rd_call (va_runS (As := [.int (iI z3), .int (iI 11)]) (rest := []) ⟨hx, hb, hml, hown, hts⟩ (mX0_requirePlace l z3 11 ⟨by omega, by omega⟩ ⟨by omega, by omega⟩ (by omega)) (va_cwS 2 hts gX0_toneOf_X0_requirePlace rfl rfl rfl hdX0_requirePlace ⟨Nat.le_of_ble_eq_true rfl, Nat.le_of_ble_eq_true rfl⟩) tt_pre rfl rfl hl.1 rfl (lv_room (Nat.le_of_ble_eq_true rfl)) dX0_toneOf_8 ⟨Nat.le_of_ble_eq_true rfl, Nat.le_of_ble_eq_true rfl⟩) ?_
      refine lv_iload_n hx hb dX0_toneOf_11 rfl (lv_at hl 2 rfl) ?_
      refine lv_iload_n hx hb dX0_toneOf_12 rfl (lv_at hl 3 rfl) ?_
      by_cases c_13 : 0 ≤ z1 ∧ z1 ≤ 3 ∧ 0 ≤ z2 ∧ z2 ≤ 11
      · skip
        exfalso; omega
      · skip
        exfalso; omega
    · skip
      refine th_call (vx_runS (As := [.int (iI z3), .int (iI 11)]) (rest := []) ⟨hx, hb, hml, hown, hts⟩ (mX0_requirePlace_b l hfl z3 11 ⟨by omega, by omega⟩ ⟨by omega, by omega⟩ c_8) (va_cwS 2 hts gX0_toneOf_X0_requirePlace rfl rfl rfl hdX0_requirePlace ⟨Nat.le_of_ble_eq_true rfl, Nat.le_of_ble_eq_true rfl⟩) (xS_pre hG) rfl rfl hl.1 rfl (lv_room (Nat.le_of_ble_eq_true rfl)) dX0_toneOf_8 ⟨Nat.le_of_ble_eq_true rfl, Nat.le_of_ble_eq_true rfl⟩) (fun ce q9 H1 hz hk hce hcv hcl => ?_)
      exact th_out hout hlocks hz hk hce hcv hcl (Nat.le_refl _) (Nat.le_refl _)
  · skip
    refine th_call (vx_runS (As := [.int (iI z0)]) (rest := []) ⟨hx, hb, hml, hown, hts⟩ (mX0_requireRow_b l hfl z0 ⟨by omega, by omega⟩ c_1) (va_cwS 1 hts gX0_toneOf_X0_requireRow rfl rfl rfl hdX0_requireRow ⟨Nat.le_of_ble_eq_true rfl, Nat.le_of_ble_eq_true rfl⟩) (xS_pre hG) rfl rfl hl.1 rfl (lv_room (Nat.le_of_ble_eq_true rfl)) dX0_toneOf_1 ⟨Nat.le_of_ble_eq_true rfl, Nat.le_of_ble_eq_true rfl⟩) (fun ce q9 H1 hz hk hce hcv hcl => ?_)
    exact th_out hout hlocks hz hk hce hcv hcl (Nat.le_refl _) (Nat.le_refl _)

set_option maxHeartbeats 4000000 in
set_option maxRecDepth 100000 in
theorem mX0_toneOf_x2 (l : Launch) (hfl : l.stackTraces = false) (dC : Nat → ClassId) (dI : Nat → Nat → Nat) (o0 : Nat) (a0 a1 q : Nat → Nat) (w : Nat) (hp0 : Pm a0) (hp1 : Pm a1) (hw : w ≤ 12) (hq : ∀ i, i < w → q i < 12) (hqd : ∀ i j, i < w → j < w → q i = q j → i = j) (z0 z1 z2 z3 : Int) (hz0 : inI z0) (hz1 : inI z1) (hz2 : inI z2) (hz3 : inI z3) (hbad : ((z0 = 0 ∨ z0 = 1) ∧ (0 ≤ z3 ∧ z3 ≤ 11)) ∧ ¬ (0 ≤ z1 ∧ z1 ≤ 3 ∧ 0 ≤ z2 ∧ z2 ≤ 11)) : th l yX0_toneOf wsX0_toneOf { frames := 8, cells := 1, slots := 6, locals := 125 } [.ref o0, .int (iI z0), .int (iI z1), .int (iI z2), .int (iI z3)] (bX (dC, dI) [(o0, .inr (0, [.long (pk a0), .long (pk a1), .long (pkn q w), .int (iI ((w : Nat) : Int))]))] []) xIA := by
  refine vx_ofW (cc := cX0_toneOf) (maxL := 5) (ret := (some .int)) (by decide) rfl ?_
  intro P0 e s m args below meth c s₁ B hml hout hv
  obtain ⟨rfl, hP, hK, hG⟩ := hv
  have hx := B.exec
  have hb := B.bytes
  have hr := B.returns
  have hts := atoms_spec (ws := wsX0_toneOf) B.pre
  have hown : s.vm.findClass RX0 = some m.cls := findClass_of_methodNamed B.named
  have hlocks := B.notSynchronized
  have hl := lv_entry ([.ref o0, .int (iI z0), .int (iI z1), .int (iI z2), .int (iI z3)]) (n := 5) (Nat.le_of_ble_eq_true rfl)
  rw [lg_entry_eq]
  generalize (lg_sl ([.ref o0, .int (iI z0), .int (iI z1), .int (iI z2), .int (iI z3)]) ++ List.replicate (5 - (lg_sl ([.ref o0, .int (iI z0), .int (iI z1), .int (iI z2), .int (iI z3)])).length) Slot.unset).toArray = ls at hl ⊢
  have hl : lv_has ls 5 [(0, .ref o0), (1, .int (iI z0)), (2, .int (iI z1)), (3, .int (iI z2)), (4, .int (iI z3))] := hl
  have hza0 := hz0.1
  have hza1 := hz1.1
  have hza2 := hz2.1
  have hza3 := hz3.1
  have hzb0 := hz0.2
  have hzb1 := hz1.2
  have hzb2 := hz2.2
  have hzb3 := hz3.2
  refine lv_iload_n hx hb dX0_toneOf_0 rfl (lv_at hl 1 rfl) ?_
  by_cases c_1 : z0 = 0 ∨ z0 = 1
  · skip
    refine rd_call (va_runS (As := [.int (iI z0)]) (rest := []) ⟨hx, hb, hml, hown, hts⟩ (mX0_requireRow l z0 ⟨by omega, by omega⟩ (by omega)) (va_cwS 1 hts gX0_toneOf_X0_requireRow rfl rfl rfl hdX0_requireRow ⟨Nat.le_of_ble_eq_true rfl, Nat.le_of_ble_eq_true rfl⟩) tt_pre rfl rfl hl.1 rfl (lv_room (Nat.le_of_ble_eq_true rfl)) dX0_toneOf_1 ⟨Nat.le_of_ble_eq_true rfl, Nat.le_of_ble_eq_true rfl⟩) ?_
    refine lv_iload hx hb dX0_toneOf_4 (lv_at hl 4 rfl) ?_
    refine ib_bi hx hb dX0_toneOf_6 (by decide) ?_
    by_cases c_8 : 0 ≤ z3 ∧ z3 ≤ 11
    · skip
      refine rd_call (va_runS (As := [.int (iI z3), .int (iI 11)]) (rest := []) ⟨hx, hb, hml, hown, hts⟩ (mX0_requirePlace l z3 11 ⟨by omega, by omega⟩ ⟨by omega, by omega⟩ (by omega)) (va_cwS 2 hts gX0_toneOf_X0_requirePlace rfl rfl rfl hdX0_requirePlace ⟨Nat.le_of_ble_eq_true rfl, Nat.le_of_ble_eq_true rfl⟩) tt_pre rfl rfl hl.1 rfl (lv_room (Nat.le_of_ble_eq_true rfl)) dX0_toneOf_8 ⟨Nat.le_of_ble_eq_true rfl, Nat.le_of_ble_eq_true rfl⟩) ?_
      refine lv_iload_n hx hb dX0_toneOf_11 rfl (lv_at hl 2 rfl) ?_
      refine lv_iload_n hx hb dX0_toneOf_12 rfl (lv_at hl 3 rfl) ?_
      by_cases c_13 : 0 ≤ z1 ∧ z1 ≤ 3 ∧ 0 ≤ z2 ∧ z2 ≤ 11
      · skip
        exfalso; omega
      · skip
        refine th_call (vx_runS (As := [.int (iI z1), .int (iI z2)]) (rest := []) ⟨hx, hb, hml, hown, hts⟩ (mX0_requireForm_b l hfl z1 z2 ⟨by omega, by omega⟩ ⟨by omega, by omega⟩ c_13) (va_cwS 2 hts gX0_toneOf_X0_requireForm rfl rfl rfl hdX0_requireForm ⟨Nat.le_of_ble_eq_true rfl, Nat.le_of_ble_eq_true rfl⟩) (xS_pre hG) rfl rfl hl.1 rfl (lv_room (Nat.le_of_ble_eq_true rfl)) dX0_toneOf_13 ⟨Nat.le_of_ble_eq_true rfl, Nat.le_of_ble_eq_true rfl⟩) (fun ce q9 H1 hz hk hce hcv hcl => ?_)
        exact th_out hout hlocks hz hk hce hcv hcl (Nat.le_refl _) (Nat.le_refl _)
    · skip
      exfalso; omega
  · skip
    exfalso; omega

set_option maxHeartbeats 4000000 in
set_option maxRecDepth 100000 in
theorem mX0_matrix_x1 (l : Launch) (hfl : l.stackTraces = false) (dC : Nat → ClassId) (dI : Nat → Nat → Nat) (o0 : Nat) (a0 a1 q : Nat → Nat) (w : Nat) (hp0 : Pm a0) (hp1 : Pm a1) (hw : w ≤ 12) (hq : ∀ i, i < w → q i < 12) (hqd : ∀ i j, i < w → j < w → q i = q j → i = j) (z0 z1 z2 : Int) (hz0 : inI z0) (hz1 : inI z1) (hz2 : inI z2) (hbad : ¬ ((z0 = 0 ∨ z0 = 1) ∧ (0 ≤ z1 ∧ z1 ≤ 11) ∧ (0 ≤ z2 ∧ z2 ≤ 11))) : th l yX0_matrix wsX0_matrix { frames := 7, cells := 1, slots := 6, locals := 103 } [.ref o0, .int (iI z0), .int (iI z1), .int (iI z2)] (bX (dC, dI) [(o0, .inr (0, [.long (pk a0), .long (pk a1), .long (pkn q w), .int (iI ((w : Nat) : Int))]))] []) xIO := by
  refine vx_ofW (cc := cX0_matrix) (maxL := 8) (ret := (some .int)) (by decide) rfl ?_
  intro P0 e s m args below meth c s₁ B hml hout hv
  obtain ⟨rfl, hP, hK, hG⟩ := hv
  have hx := B.exec
  have hb := B.bytes
  have hr := B.returns
  have hts := atoms_spec (ws := wsX0_matrix) B.pre
  have hown : s.vm.findClass RX0 = some m.cls := findClass_of_methodNamed B.named
  have hlocks := B.notSynchronized
  have hl := lv_entry ([.ref o0, .int (iI z0), .int (iI z1), .int (iI z2)]) (n := 8) (Nat.le_of_ble_eq_true rfl)
  rw [lg_entry_eq]
  generalize (lg_sl ([.ref o0, .int (iI z0), .int (iI z1), .int (iI z2)]) ++ List.replicate (8 - (lg_sl ([.ref o0, .int (iI z0), .int (iI z1), .int (iI z2)])).length) Slot.unset).toArray = ls at hl ⊢
  have hl : lv_has ls 8 [(0, .ref o0), (1, .int (iI z0)), (2, .int (iI z1)), (3, .int (iI z2))] := hl
  have hza0 := hz0.1
  have hza1 := hz1.1
  have hza2 := hz2.1
  have hzb0 := hz0.2
  have hzb1 := hz1.2
  have hzb2 := hz2.2
  refine lv_iload_n hx hb dX0_matrix_0 rfl (lv_at hl 1 rfl) ?_
  by_cases c_1 : z0 = 0 ∨ z0 = 1
  · skip
    refine rd_call (va_runS (As := [.int (iI z0)]) (rest := []) ⟨hx, hb, hml, hown, hts⟩ (mX0_requireRow l z0 ⟨by omega, by omega⟩ (by omega)) (va_cwS 1 hts gX0_matrix_X0_requireRow rfl rfl rfl hdX0_requireRow ⟨Nat.le_of_ble_eq_true rfl, Nat.le_of_ble_eq_true rfl⟩) tt_pre rfl rfl hl.1 rfl (lv_room (Nat.le_of_ble_eq_true rfl)) dX0_matrix_1 ⟨Nat.le_of_ble_eq_true rfl, Nat.le_of_ble_eq_true rfl⟩) ?_
    refine lv_iload_n hx hb dX0_matrix_4 rfl (lv_at hl 2 rfl) ?_
    refine ib_bi hx hb dX0_matrix_5 (by decide) ?_
    by_cases c_7 : 0 ≤ z1 ∧ z1 ≤ 11
    · skip
      refine rd_call (va_runS (As := [.int (iI z1), .int (iI 11)]) (rest := []) ⟨hx, hb, hml, hown, hts⟩ (mX0_requirePlace l z1 11 ⟨by omega, by omega⟩ ⟨by omega, by omega⟩ (by omega)) (va_cwS 2 hts gX0_matrix_X0_requirePlace rfl rfl rfl hdX0_requirePlace ⟨Nat.le_of_ble_eq_true rfl, Nat.le_of_ble_eq_true rfl⟩) tt_pre rfl rfl hl.1 rfl (lv_room (Nat.le_of_ble_eq_true rfl)) dX0_matrix_7 ⟨Nat.le_of_ble_eq_true rfl, Nat.le_of_ble_eq_true rfl⟩) ?_
      refine lv_iload_n hx hb dX0_matrix_10 rfl (lv_at hl 3 rfl) ?_
      refine ib_bi hx hb dX0_matrix_11 (by decide) ?_
      by_cases c_13 : 0 ≤ z2 ∧ z2 ≤ 11
      · skip
        exfalso; omega
      · skip
        refine th_call (vx_runS (As := [.int (iI z2), .int (iI 11)]) (rest := []) ⟨hx, hb, hml, hown, hts⟩ (mX0_requirePlace_b l hfl z2 11 ⟨by omega, by omega⟩ ⟨by omega, by omega⟩ c_13) (va_cwS 2 hts gX0_matrix_X0_requirePlace rfl rfl rfl hdX0_requirePlace ⟨Nat.le_of_ble_eq_true rfl, Nat.le_of_ble_eq_true rfl⟩) (xS_pre hG) rfl rfl hl.1 rfl (lv_room (Nat.le_of_ble_eq_true rfl)) dX0_matrix_13 ⟨Nat.le_of_ble_eq_true rfl, Nat.le_of_ble_eq_true rfl⟩) (fun ce q9 H1 hz hk hce hcv hcl => ?_)
        exact th_out hout hlocks hz hk hce hcv hcl (Nat.le_refl _) (Nat.le_refl _)
    · skip
      refine th_call (vx_runS (As := [.int (iI z1), .int (iI 11)]) (rest := []) ⟨hx, hb, hml, hown, hts⟩ (mX0_requirePlace_b l hfl z1 11 ⟨by omega, by omega⟩ ⟨by omega, by omega⟩ c_7) (va_cwS 2 hts gX0_matrix_X0_requirePlace rfl rfl rfl hdX0_requirePlace ⟨Nat.le_of_ble_eq_true rfl, Nat.le_of_ble_eq_true rfl⟩) (xS_pre hG) rfl rfl hl.1 rfl (lv_room (Nat.le_of_ble_eq_true rfl)) dX0_matrix_7 ⟨Nat.le_of_ble_eq_true rfl, Nat.le_of_ble_eq_true rfl⟩) (fun ce q9 H1 hz hk hce hcv hcl => ?_)
      exact th_out hout hlocks hz hk hce hcv hcl (Nat.le_refl _) (Nat.le_refl _)
  · skip
    refine th_call (vx_runS (As := [.int (iI z0)]) (rest := []) ⟨hx, hb, hml, hown, hts⟩ (mX0_requireRow_b l hfl z0 ⟨by omega, by omega⟩ c_1) (va_cwS 1 hts gX0_matrix_X0_requireRow rfl rfl rfl hdX0_requireRow ⟨Nat.le_of_ble_eq_true rfl, Nat.le_of_ble_eq_true rfl⟩) (xS_pre hG) rfl rfl hl.1 rfl (lv_room (Nat.le_of_ble_eq_true rfl)) dX0_matrix_1 ⟨Nat.le_of_ble_eq_true rfl, Nat.le_of_ble_eq_true rfl⟩) (fun ce q9 H1 hz hk hce hcv hcl => ?_)
    exact th_out hout hlocks hz hk hce hcv hcl (Nat.le_refl _) (Nat.le_refl _)

set_option maxHeartbeats 4000000 in
set_option maxRecDepth 100000 in
theorem mX0_differentForms_x1 (l : Launch) (hfl : l.stackTraces = false) (dC : Nat → ClassId) (dI : Nat → Nat → Nat) (o0 : Nat) (a0 a1 q : Nat → Nat) (w : Nat) (hp0 : Pm a0) (hp1 : Pm a1) (hw : w ≤ 12) (hq : ∀ i, i < w → q i < 12) (hqd : ∀ i j, i < w → j < w → q i = q j → i = j) (z0 : Int) (hz0 : inI z0) (hbad : ¬ (z0 = 0 ∨ z0 = 1)) : th l yX0_differentForms wsX0_differentForms { frames := 7, cells := 1, slots := 6, locals := 102 } [.ref o0, .int (iI z0)] (bX (dC, dI) [(o0, .inr (0, [.long (pk a0), .long (pk a1), .long (pkn q w), .int (iI ((w : Nat) : Int))]))] []) xIO := by
  refine vx_ofW (cc := cX0_differentForms) (maxL := 7) (ret := (some .int)) (by decide) rfl ?_
  intro P0 e s m args below meth c s₁ B hml hout hv
  obtain ⟨rfl, hP, hK, hG⟩ := hv
  have hx := B.exec
  have hb := B.bytes
  have hr := B.returns
  have hts := atoms_spec (ws := wsX0_differentForms) B.pre
  have hown : s.vm.findClass RX0 = some m.cls := findClass_of_methodNamed B.named
  have hlocks := B.notSynchronized
  have hl := lv_entry ([.ref o0, .int (iI z0)]) (n := 7) (Nat.le_of_ble_eq_true rfl)
  rw [lg_entry_eq]
  generalize (lg_sl ([.ref o0, .int (iI z0)]) ++ List.replicate (7 - (lg_sl ([.ref o0, .int (iI z0)])).length) Slot.unset).toArray = ls at hl ⊢
  have hl : lv_has ls 7 [(0, .ref o0), (1, .int (iI z0))] := hl
  have hza0 := hz0.1
  have hzb0 := hz0.2
  refine lv_iload_n hx hb dX0_differentForms_0 rfl (lv_at hl 1 rfl) ?_
  by_cases c_1 : z0 = 0 ∨ z0 = 1
  · skip
    exfalso; omega
  · skip
    refine th_call (vx_runS (As := [.int (iI z0)]) (rest := []) ⟨hx, hb, hml, hown, hts⟩ (mX0_requireRow_b l hfl z0 ⟨by omega, by omega⟩ c_1) (va_cwS 1 hts gX0_differentForms_X0_requireRow rfl rfl rfl hdX0_requireRow ⟨Nat.le_of_ble_eq_true rfl, Nat.le_of_ble_eq_true rfl⟩) (xS_pre hG) rfl rfl hl.1 rfl (lv_room (Nat.le_of_ble_eq_true rfl)) dX0_differentForms_1 ⟨Nat.le_of_ble_eq_true rfl, Nat.le_of_ble_eq_true rfl⟩) (fun ce q9 H1 hz hk hce hcv hcl => ?_)
    exact th_out hout hlocks hz hk hce hcv hcl (Nat.le_refl _) (Nat.le_refl _)

set_option maxHeartbeats 4000000 in
set_option maxRecDepth 100000 in
theorem mX0_segment_x1 (l : Launch) (hfl : l.stackTraces = false) (dC : Nat → ClassId) (dI : Nat → Nat → Nat) (o0 : Nat) (a0 a1 q : Nat → Nat) (w : Nat) (hp0 : Pm a0) (hp1 : Pm a1) (hw : w ≤ 12) (hq : ∀ i, i < w → q i < 12) (hqd : ∀ i j, i < w → j < w → q i = q j → i = j) (z0 z1 z2 : Int) (hz0 : inI z0) (hz1 : inI z1) (hz2 : inI z2) (hbad : ¬ ((z0 = 0 ∨ z0 = 1) ∧ (0 ≤ z1 ∧ z1 ≤ 11))) : th l yX0_segment wsX0_segment { frames := 7, cells := 1, slots := 6, locals := 103 } [.ref o0, .int (iI z0), .int (iI z1), .int (iI z2)] (bX (dC, dI) [(o0, .inr (0, [.long (pk a0), .long (pk a1), .long (pkn q w), .int (iI ((w : Nat) : Int))]))] []) xIO := by
  refine vx_ofW (cc := cX0_segment) (maxL := 4) (ret := (some .int)) (by decide) rfl ?_
  intro P0 e s m args below meth c s₁ B hml hout hv
  obtain ⟨rfl, hP, hK, hG⟩ := hv
  have hx := B.exec
  have hb := B.bytes
  have hr := B.returns
  have hts := atoms_spec (ws := wsX0_segment) B.pre
  have hown : s.vm.findClass RX0 = some m.cls := findClass_of_methodNamed B.named
  have hlocks := B.notSynchronized
  have hl := lv_entry ([.ref o0, .int (iI z0), .int (iI z1), .int (iI z2)]) (n := 4) (Nat.le_of_ble_eq_true rfl)
  rw [lg_entry_eq]
  generalize (lg_sl ([.ref o0, .int (iI z0), .int (iI z1), .int (iI z2)]) ++ List.replicate (4 - (lg_sl ([.ref o0, .int (iI z0), .int (iI z1), .int (iI z2)])).length) Slot.unset).toArray = ls at hl ⊢
  have hl : lv_has ls 4 [(0, .ref o0), (1, .int (iI z0)), (2, .int (iI z1)), (3, .int (iI z2))] := hl
  have hza0 := hz0.1
  have hza1 := hz1.1
  have hza2 := hz2.1
  have hzb0 := hz0.2
  have hzb1 := hz1.2
  have hzb2 := hz2.2
  refine lv_iload_n hx hb dX0_segment_0 rfl (lv_at hl 1 rfl) ?_
  by_cases c_1 : z0 = 0 ∨ z0 = 1
  · skip
    refine rd_call (va_runS (As := [.int (iI z0)]) (rest := []) ⟨hx, hb, hml, hown, hts⟩ (mX0_requireRow l z0 ⟨by omega, by omega⟩ (by omega)) (va_cwS 1 hts gX0_segment_X0_requireRow rfl rfl rfl hdX0_requireRow ⟨Nat.le_of_ble_eq_true rfl, Nat.le_of_ble_eq_true rfl⟩) tt_pre rfl rfl hl.1 rfl (lv_room (Nat.le_of_ble_eq_true rfl)) dX0_segment_1 ⟨Nat.le_of_ble_eq_true rfl, Nat.le_of_ble_eq_true rfl⟩) ?_
    refine lv_iload_n hx hb dX0_segment_4 rfl (lv_at hl 2 rfl) ?_
    refine ib_bi hx hb dX0_segment_5 (by decide) ?_
    by_cases c_7 : 0 ≤ z1 ∧ z1 ≤ 11
    · skip
      refine rd_call (va_runS (As := [.int (iI z1), .int (iI 11)]) (rest := []) ⟨hx, hb, hml, hown, hts⟩ (mX0_requirePlace l z1 11 ⟨by omega, by omega⟩ ⟨by omega, by omega⟩ (by omega)) (va_cwS 2 hts gX0_segment_X0_requirePlace rfl rfl rfl hdX0_requirePlace ⟨Nat.le_of_ble_eq_true rfl, Nat.le_of_ble_eq_true rfl⟩) tt_pre rfl rfl hl.1 rfl (lv_room (Nat.le_of_ble_eq_true rfl)) dX0_segment_7 ⟨Nat.le_of_ble_eq_true rfl, Nat.le_of_ble_eq_true rfl⟩) ?_
      refine lv_iload_n hx hb dX0_segment_10 rfl (lv_at hl 3 rfl) ?_
      refine ib_const hx hb dX0_segment_11 ?_
      refine ib_bi hx hb dX0_segment_12 (by decide) ?_
      refine lv_iload_n hx hb dX0_segment_14 rfl (lv_at hl 2 rfl) ?_
      refine ib_sub (z := 12 - z1) hx hb dX0_segment_15 (by omega) ?_
      by_cases c_16 : 1 ≤ z2 ∧ z2 ≤ (12 - z1)
      · skip
        exfalso; omega
      · skip
        exfalso; omega
    · skip
      refine th_call (vx_runS (As := [.int (iI z1), .int (iI 11)]) (rest := []) ⟨hx, hb, hml, hown, hts⟩ (mX0_requirePlace_b l hfl z1 11 ⟨by omega, by omega⟩ ⟨by omega, by omega⟩ c_7) (va_cwS 2 hts gX0_segment_X0_requirePlace rfl rfl rfl hdX0_requirePlace ⟨Nat.le_of_ble_eq_true rfl, Nat.le_of_ble_eq_true rfl⟩) (xS_pre hG) rfl rfl hl.1 rfl (lv_room (Nat.le_of_ble_eq_true rfl)) dX0_segment_7 ⟨Nat.le_of_ble_eq_true rfl, Nat.le_of_ble_eq_true rfl⟩) (fun ce q9 H1 hz hk hce hcv hcl => ?_)
      exact th_out hout hlocks hz hk hce hcv hcl (Nat.le_refl _) (Nat.le_refl _)
  · skip
    refine th_call (vx_runS (As := [.int (iI z0)]) (rest := []) ⟨hx, hb, hml, hown, hts⟩ (mX0_requireRow_b l hfl z0 ⟨by omega, by omega⟩ c_1) (va_cwS 1 hts gX0_segment_X0_requireRow rfl rfl rfl hdX0_requireRow ⟨Nat.le_of_ble_eq_true rfl, Nat.le_of_ble_eq_true rfl⟩) (xS_pre hG) rfl rfl hl.1 rfl (lv_room (Nat.le_of_ble_eq_true rfl)) dX0_segment_1 ⟨Nat.le_of_ble_eq_true rfl, Nat.le_of_ble_eq_true rfl⟩) (fun ce q9 H1 hz hk hce hcv hcl => ?_)
    exact th_out hout hlocks hz hk hce hcv hcl (Nat.le_refl _) (Nat.le_refl _)

set_option maxHeartbeats 4000000 in
set_option maxRecDepth 100000 in
theorem mX0_segment_x2 (l : Launch) (hfl : l.stackTraces = false) (dC : Nat → ClassId) (dI : Nat → Nat → Nat) (o0 : Nat) (a0 a1 q : Nat → Nat) (w : Nat) (hp0 : Pm a0) (hp1 : Pm a1) (hw : w ≤ 12) (hq : ∀ i, i < w → q i < 12) (hqd : ∀ i j, i < w → j < w → q i = q j → i = j) (z0 z1 z2 : Int) (hz0 : inI z0) (hz1 : inI z1) (hz2 : inI z2) (hbad : ((z0 = 0 ∨ z0 = 1) ∧ (0 ≤ z1 ∧ z1 ≤ 11)) ∧ ¬ (1 ≤ z2 ∧ z2 ≤ 12 ∧ z1 + z2 ≤ 12)) : th l yX0_segment wsX0_segment { frames := 7, cells := 1, slots := 6, locals := 104 } [.ref o0, .int (iI z0), .int (iI z1), .int (iI z2)] (bX (dC, dI) [(o0, .inr (0, [.long (pk a0), .long (pk a1), .long (pkn q w), .int (iI ((w : Nat) : Int))]))] []) xIA := by
  refine vx_ofW (cc := cX0_segment) (maxL := 4) (ret := (some .int)) (by decide) rfl ?_
  intro P0 e s m args below meth c s₁ B hml hout hv
  obtain ⟨rfl, hP, hK, hG⟩ := hv
  have hx := B.exec
  have hb := B.bytes
  have hr := B.returns
  have hts := atoms_spec (ws := wsX0_segment) B.pre
  have hown : s.vm.findClass RX0 = some m.cls := findClass_of_methodNamed B.named
  have hlocks := B.notSynchronized
  have hl := lv_entry ([.ref o0, .int (iI z0), .int (iI z1), .int (iI z2)]) (n := 4) (Nat.le_of_ble_eq_true rfl)
  rw [lg_entry_eq]
  generalize (lg_sl ([.ref o0, .int (iI z0), .int (iI z1), .int (iI z2)]) ++ List.replicate (4 - (lg_sl ([.ref o0, .int (iI z0), .int (iI z1), .int (iI z2)])).length) Slot.unset).toArray = ls at hl ⊢
  have hl : lv_has ls 4 [(0, .ref o0), (1, .int (iI z0)), (2, .int (iI z1)), (3, .int (iI z2))] := hl
  have hza0 := hz0.1
  have hza1 := hz1.1
  have hza2 := hz2.1
  have hzb0 := hz0.2
  have hzb1 := hz1.2
  have hzb2 := hz2.2
  refine lv_iload_n hx hb dX0_segment_0 rfl (lv_at hl 1 rfl) ?_
  by_cases c_1 : z0 = 0 ∨ z0 = 1
  · skip
    refine rd_call (va_runS (As := [.int (iI z0)]) (rest := []) ⟨hx, hb, hml, hown, hts⟩ (mX0_requireRow l z0 ⟨by omega, by omega⟩ (by omega)) (va_cwS 1 hts gX0_segment_X0_requireRow rfl rfl rfl hdX0_requireRow ⟨Nat.le_of_ble_eq_true rfl, Nat.le_of_ble_eq_true rfl⟩) tt_pre rfl rfl hl.1 rfl (lv_room (Nat.le_of_ble_eq_true rfl)) dX0_segment_1 ⟨Nat.le_of_ble_eq_true rfl, Nat.le_of_ble_eq_true rfl⟩) ?_
    refine lv_iload_n hx hb dX0_segment_4 rfl (lv_at hl 2 rfl) ?_
    refine ib_bi hx hb dX0_segment_5 (by decide) ?_
    by_cases c_7 : 0 ≤ z1 ∧ z1 ≤ 11
    · skip
      refine rd_call (va_runS (As := [.int (iI z1), .int (iI 11)]) (rest := []) ⟨hx, hb, hml, hown, hts⟩ (mX0_requirePlace l z1 11 ⟨by omega, by omega⟩ ⟨by omega, by omega⟩ (by omega)) (va_cwS 2 hts gX0_segment_X0_requirePlace rfl rfl rfl hdX0_requirePlace ⟨Nat.le_of_ble_eq_true rfl, Nat.le_of_ble_eq_true rfl⟩) tt_pre rfl rfl hl.1 rfl (lv_room (Nat.le_of_ble_eq_true rfl)) dX0_segment_7 ⟨Nat.le_of_ble_eq_true rfl, Nat.le_of_ble_eq_true rfl⟩) ?_
      refine lv_iload_n hx hb dX0_segment_10 rfl (lv_at hl 3 rfl) ?_
      refine ib_const hx hb dX0_segment_11 ?_
      refine ib_bi hx hb dX0_segment_12 (by decide) ?_
      refine lv_iload_n hx hb dX0_segment_14 rfl (lv_at hl 2 rfl) ?_
      refine ib_sub (z := 12 - z1) hx hb dX0_segment_15 (by omega) ?_
      by_cases c_16 : 1 ≤ z2 ∧ z2 ≤ (12 - z1)
      · skip
        exfalso; omega
      · skip
        refine th_call (vx_runS (As := [.int (iI z2), .int (iI 1), .int (iI (12 - z1))]) (rest := []) ⟨hx, hb, hml, hown, hts⟩ (mX0_requireRange_b l hfl z2 1 (12 - z1) ⟨by omega, by omega⟩ ⟨by omega, by omega⟩ ⟨by omega, by omega⟩ c_16) (va_cwS 3 hts gX0_segment_X0_requireRange rfl rfl rfl hdX0_requireRange ⟨Nat.le_of_ble_eq_true rfl, Nat.le_of_ble_eq_true rfl⟩) (xS_pre hG) rfl rfl hl.1 rfl (lv_room (Nat.le_of_ble_eq_true rfl)) dX0_segment_16 ⟨Nat.le_of_ble_eq_true rfl, Nat.le_of_ble_eq_true rfl⟩) (fun ce q9 H1 hz hk hce hcv hcl => ?_)
        exact th_out hout hlocks hz hk hce hcv hcl (Nat.le_refl _) (Nat.le_refl _)
    · skip
      exfalso; omega
  · skip
    exfalso; omega

set_option maxHeartbeats 4000000 in
set_option maxRecDepth 100000 in
theorem mX0_classOf_x1 (l : Launch) (hfl : l.stackTraces = false) (dC : Nat → ClassId) (dI : Nat → Nat → Nat) (o0 : Nat) (a0 a1 q : Nat → Nat) (w : Nat) (hp0 : Pm a0) (hp1 : Pm a1) (hw : w ≤ 12) (hq : ∀ i, i < w → q i < 12) (hqd : ∀ i j, i < w → j < w → q i = q j → i = j) (z0 : Int) (hz0 : inI z0) (hbad : ¬ (0 ≤ z0 ∧ z0 ≤ 4095)) : th l yX0_classOf wsX0_classOf { frames := 7, cells := 1, slots := 6, locals := 104 } [.ref o0, .int (iI z0)] (bX (dC, dI) [(o0, .inr (0, [.long (pk a0), .long (pk a1), .long (pkn q w), .int (iI ((w : Nat) : Int))]))] []) xIA := by
  refine vx_ofW (cc := cX0_classOf) (maxL := 2) (ret := (some .int)) (by decide) rfl ?_
  intro P0 e s m args below meth c s₁ B hml hout hv
  obtain ⟨rfl, hP, hK, hG⟩ := hv
  have hx := B.exec
  have hb := B.bytes
  have hr := B.returns
  have hts := atoms_spec (ws := wsX0_classOf) B.pre
  have hown : s.vm.findClass RX0 = some m.cls := findClass_of_methodNamed B.named
  have hlocks := B.notSynchronized
  have hl := lv_entry ([.ref o0, .int (iI z0)]) (n := 2) (Nat.le_of_ble_eq_true rfl)
  rw [lg_entry_eq]
  generalize (lg_sl ([.ref o0, .int (iI z0)]) ++ List.replicate (2 - (lg_sl ([.ref o0, .int (iI z0)])).length) Slot.unset).toArray = ls at hl ⊢
  have hl : lv_has ls 2 [(0, .ref o0), (1, .int (iI z0))] := hl
  have hza0 := hz0.1
  have hzb0 := hz0.2
  refine lv_iload_n hx hb dX0_classOf_0 rfl (lv_at hl 1 rfl) ?_
  refine ib_const hx hb dX0_classOf_1 ?_
  refine ib_si hx hb dX0_classOf_2 (by decide) ?_
  by_cases c_5 : 0 ≤ z0 ∧ z0 ≤ 4095
  · skip
    exfalso; omega
  · skip
    refine th_call (vx_runS (As := [.int (iI z0), .int (iI 0), .int (iI 4095)]) (rest := []) ⟨hx, hb, hml, hown, hts⟩ (mX0_requireRange_b l hfl z0 0 4095 ⟨by omega, by omega⟩ ⟨by omega, by omega⟩ ⟨by omega, by omega⟩ c_5) (va_cwS 3 hts gX0_classOf_X0_requireRange rfl rfl rfl hdX0_requireRange ⟨Nat.le_of_ble_eq_true rfl, Nat.le_of_ble_eq_true rfl⟩) (xS_pre hG) rfl rfl hl.1 rfl (lv_room (Nat.le_of_ble_eq_true rfl)) dX0_classOf_5 ⟨Nat.le_of_ble_eq_true rfl, Nat.le_of_ble_eq_true rfl⟩) (fun ce q9 H1 hz hk hce hcv hcl => ?_)
    exact th_out hout hlocks hz hk hce hcv hcl (Nat.le_refl _) (Nat.le_refl _)

set_option maxHeartbeats 4000000 in
set_option maxRecDepth 100000 in
theorem mX0_pairs_x1 (l : Launch) (hfl : l.stackTraces = false) (dC : Nat → ClassId) (dI : Nat → Nat → Nat) (o0 : Nat) (a0 a1 q : Nat → Nat) (w : Nat) (hp0 : Pm a0) (hp1 : Pm a1) (hw : w ≤ 12) (hq : ∀ i, i < w → q i < 12) (hqd : ∀ i j, i < w → j < w → q i = q j → i = j) (z0 z1 : Int) (hz0 : inI z0) (hz1 : inI z1) (hbad : ¬ ((0 ≤ z0 ∧ z0 ≤ 4095) ∧ (1 ≤ z1 ∧ z1 ≤ 6))) : th l yX0_pairs wsX0_pairs { frames := 7, cells := 1, slots := 6, locals := 104 } [.ref o0, .int (iI z0), .int (iI z1)] (bX (dC, dI) [(o0, .inr (0, [.long (pk a0), .long (pk a1), .long (pkn q w), .int (iI ((w : Nat) : Int))]))] []) xIA := by
  refine vx_ofW (cc := cX0_pairs) (maxL := 4) (ret := (some .int)) (by decide) rfl ?_
  intro P0 e s m args below meth c s₁ B hml hout hv
  obtain ⟨rfl, hP, hK, hG⟩ := hv
  have hx := B.exec
  have hb := B.bytes
  have hr := B.returns
  have hts := atoms_spec (ws := wsX0_pairs) B.pre
  have hown : s.vm.findClass RX0 = some m.cls := findClass_of_methodNamed B.named
  have hlocks := B.notSynchronized
  have hl := lv_entry ([.ref o0, .int (iI z0), .int (iI z1)]) (n := 4) (Nat.le_of_ble_eq_true rfl)
  rw [lg_entry_eq]
  generalize (lg_sl ([.ref o0, .int (iI z0), .int (iI z1)]) ++ List.replicate (4 - (lg_sl ([.ref o0, .int (iI z0), .int (iI z1)])).length) Slot.unset).toArray = ls at hl ⊢
  have hl : lv_has ls 4 [(0, .ref o0), (1, .int (iI z0)), (2, .int (iI z1))] := hl
  have hza0 := hz0.1
  have hza1 := hz1.1
  have hzb0 := hz0.2
  have hzb1 := hz1.2
  refine lv_iload_n hx hb dX0_pairs_0 rfl (lv_at hl 1 rfl) ?_
  refine ib_const hx hb dX0_pairs_1 ?_
  refine ib_si hx hb dX0_pairs_2 (by decide) ?_
  by_cases c_5 : 0 ≤ z0 ∧ z0 ≤ 4095
  · skip
    refine rd_call (va_runS (As := [.int (iI z0), .int (iI 0), .int (iI 4095)]) (rest := []) ⟨hx, hb, hml, hown, hts⟩ (mX0_requireRange l z0 0 4095 ⟨by omega, by omega⟩ ⟨by omega, by omega⟩ ⟨by omega, by omega⟩ (by omega)) (va_cwS 3 hts gX0_pairs_X0_requireRange rfl rfl rfl hdX0_requireRange ⟨Nat.le_of_ble_eq_true rfl, Nat.le_of_ble_eq_true rfl⟩) tt_pre rfl rfl hl.1 rfl (lv_room (Nat.le_of_ble_eq_true rfl)) dX0_pairs_5 ⟨Nat.le_of_ble_eq_true rfl, Nat.le_of_ble_eq_true rfl⟩) ?_
    refine lv_iload_n hx hb dX0_pairs_8 rfl (lv_at hl 2 rfl) ?_
    refine ib_const hx hb dX0_pairs_9 ?_
    refine ib_bi hx hb dX0_pairs_10 (by decide) ?_
    by_cases c_12 : 1 ≤ z1 ∧ z1 ≤ 6
    · skip
      exfalso; omega
    · skip
      refine th_call (vx_runS (As := [.int (iI z1), .int (iI 1), .int (iI 6)]) (rest := []) ⟨hx, hb, hml, hown, hts⟩ (mX0_requireRange_b l hfl z1 1 6 ⟨by omega, by omega⟩ ⟨by omega, by omega⟩ ⟨by omega, by omega⟩ c_12) (va_cwS 3 hts gX0_pairs_X0_requireRange rfl rfl rfl hdX0_requireRange ⟨Nat.le_of_ble_eq_true rfl, Nat.le_of_ble_eq_true rfl⟩) (xS_pre hG) rfl rfl hl.1 rfl (lv_room (Nat.le_of_ble_eq_true rfl)) dX0_pairs_12 ⟨Nat.le_of_ble_eq_true rfl, Nat.le_of_ble_eq_true rfl⟩) (fun ce q9 H1 hz hk hce hcv hcl => ?_)
      exact th_out hout hlocks hz hk hce hcv hcl (Nat.le_refl _) (Nat.le_refl _)
  · skip
    refine th_call (vx_runS (As := [.int (iI z0), .int (iI 0), .int (iI 4095)]) (rest := []) ⟨hx, hb, hml, hown, hts⟩ (mX0_requireRange_b l hfl z0 0 4095 ⟨by omega, by omega⟩ ⟨by omega, by omega⟩ ⟨by omega, by omega⟩ c_5) (va_cwS 3 hts gX0_pairs_X0_requireRange rfl rfl rfl hdX0_requireRange ⟨Nat.le_of_ble_eq_true rfl, Nat.le_of_ble_eq_true rfl⟩) (xS_pre hG) rfl rfl hl.1 rfl (lv_room (Nat.le_of_ble_eq_true rfl)) dX0_pairs_5 ⟨Nat.le_of_ble_eq_true rfl, Nat.le_of_ble_eq_true rfl⟩) (fun ce q9 H1 hz hk hce hcv hcl => ?_)
    exact th_out hout hlocks hz hk hce hcv hcl (Nat.le_refl _) (Nat.le_refl _)
