set_option maxHeartbeats 4000000 in
set_option maxRecDepth 100000 in
theorem mX0_combining_x1 (l : Launch) (hfl : l.stackTraces = false) (dC : Nat → ClassId) (dI : Nat → Nat → Nat) (o0 : Nat) (a0 a1 q : Nat → Nat) (w : Nat) (hp0 : Pm a0) (hp1 : Pm a1) (hw : w ≤ 12) (hq : ∀ i, i < w → q i < 12) (hqd : ∀ i j, i < w → j < w → q i = q j → i = j) (z0 : Int) (hz0 : inI z0) (hbad : ¬ (z0 = 0 ∨ z0 = 1)) : th l yX0_combining wsX0_combining { frames := 7, cells := 1, slots := 6, locals := 102 } [.ref o0, .int (iI z0)] (bX (dC, dI) [(o0, .inr (0, [.long (pk a0), .long (pk a1), .long (pkn q w), .int (iI ((w : Nat) : Int))]))] []) xIO := by
  refine vx_ofW (cc := cX0_combining) (maxL := 8) (ret := (some .long)) (by decide) rfl ?_
  intro P0 e s m args below meth c s₁ B hml hout hv
  obtain ⟨rfl, hP, hK, hG⟩ := hv
  have hx := B.exec
  have hb := B.bytes
  have hr := B.returns
  have hts := atoms_spec (ws := wsX0_combining) B.pre
  have hown : s.vm.findClass RX0 = some m.cls := findClass_of_methodNamed B.named
  have hlocks := B.notSynchronized
  have hl := lv_entry ([.ref o0, .int (iI z0)]) (n := 8) (Nat.le_of_ble_eq_true rfl)
  rw [lg_entry_eq]
  generalize (lg_sl ([.ref o0, .int (iI z0)]) ++ List.replicate (8 - (lg_sl ([.ref o0, .int (iI z0)])).length) Slot.unset).toArray = ls at hl ⊢
  have hl : lv_has ls 8 [(0, .ref o0), (1, .int (iI z0))] := hl
  have hza0 := hz0.1
  have hzb0 := hz0.2
  refine lv_iload_n hx hb dX0_combining_0 rfl (lv_at hl 1 rfl) ?_
  by_cases c_1 : z0 = 0 ∨ z0 = 1
  · skip
    exfalso; omega
  · skip
    refine th_call (vx_runS (As := [.int (iI z0)]) (rest := []) ⟨hx, hb, hml, hown, hts⟩ (mX0_requireRow_b l hfl z0 ⟨by omega, by omega⟩ c_1) (va_cwS 1 hts gX0_combining_X0_requireRow rfl rfl rfl hdX0_requireRow ⟨Nat.le_of_ble_eq_true rfl, Nat.le_of_ble_eq_true rfl⟩) (xS_pre hG) rfl rfl hl.1 rfl (lv_room (Nat.le_of_ble_eq_true rfl)) dX0_combining_1 ⟨Nat.le_of_ble_eq_true rfl, Nat.le_of_ble_eq_true rfl⟩) (fun ce q9 H1 hz hk hce hcv hcl => ?_)
    exact th_out hout hlocks hz hk hce hcv hcl (Nat.le_refl _) (Nat.le_refl _)

set_option maxHeartbeats 4000000 in
set_option maxRecDepth 100000 in
theorem mX0_isDerived_x1 (l : Launch) (hfl : l.stackTraces = false) (dC : Nat → ClassId) (dI : Nat → Nat → Nat) (o0 : Nat) (a0 a1 q : Nat → Nat) (w : Nat) (hp0 : Pm a0) (hp1 : Pm a1) (hw : w ≤ 12) (hq : ∀ i, i < w → q i < 12) (hqd : ∀ i j, i < w → j < w → q i = q j → i = j) (z0 z1 : Int) (hz0 : inI z0) (hz1 : inI z1) (hbad : ¬ (z0 = 0 ∨ z0 = 1)) : th l yX0_isDerived wsX0_isDerived { frames := 7, cells := 1, slots := 6, locals := 102 } [.ref o0, .int (iI z0), .int (iI z1)] (bX (dC, dI) [(o0, .inr (0, [.long (pk a0), .long (pk a1), .long (pkn q w), .int (iI ((w : Nat) : Int))]))] []) xIO := by
  refine vx_ofW (cc := cX0_isDerived) (maxL := 8) (ret := (some .boolean)) (by decide) rfl ?_
  intro P0 e s m args below meth c s₁ B hml hout hv
  obtain ⟨rfl, hP, hK, hG⟩ := hv
  have hx := B.exec
  have hb := B.bytes
  have hr := B.returns
  have hts := atoms_spec (ws := wsX0_isDerived) B.pre
  have hown : s.vm.findClass RX0 = some m.cls := findClass_of_methodNamed B.named
  have hlocks := B.notSynchronized
  have hl := lv_entry ([.ref o0, .int (iI z0), .int (iI z1)]) (n := 8) (Nat.le_of_ble_eq_true rfl)
  rw [lg_entry_eq]
  generalize (lg_sl ([.ref o0, .int (iI z0), .int (iI z1)]) ++ List.replicate (8 - (lg_sl ([.ref o0, .int (iI z0), .int (iI z1)])).length) Slot.unset).toArray = ls at hl ⊢
  have hl : lv_has ls 8 [(0, .ref o0), (1, .int (iI z0)), (2, .int (iI z1))] := hl
  have hza0 := hz0.1
  have hza1 := hz1.1
  have hzb0 := hz0.2
  have hzb1 := hz1.2
  refine lv_iload_n hx hb dX0_isDerived_0 rfl (lv_at hl 1 rfl) ?_
  by_cases c_1 : z0 = 0 ∨ z0 = 1
  · skip
    refine rd_call (va_runS (As := [.int (iI z0)]) (rest := []) ⟨hx, hb, hml, hown, hts⟩ (mX0_requireRow l z0 ⟨by omega, by omega⟩ (by omega)) (va_cwS 1 hts gX0_isDerived_X0_requireRow rfl rfl rfl hdX0_requireRow ⟨Nat.le_of_ble_eq_true rfl, Nat.le_of_ble_eq_true rfl⟩) tt_pre rfl rfl hl.1 rfl (lv_room (Nat.le_of_ble_eq_true rfl)) dX0_isDerived_1 ⟨Nat.le_of_ble_eq_true rfl, Nat.le_of_ble_eq_true rfl⟩) ?_
    refine lv_iload_n hx hb dX0_isDerived_4 rfl (lv_at hl 2 rfl) ?_
    by_cases c_5 : z1 = 1 ∨ z1 = 2 ∨ z1 = 3 ∨ z1 = 4 ∨ z1 = 6 ∨ z1 = 12
    · skip
      exfalso; omega
    · skip
      exfalso; omega
  · skip
    refine th_call (vx_runS (As := [.int (iI z0)]) (rest := []) ⟨hx, hb, hml, hown, hts⟩ (mX0_requireRow_b l hfl z0 ⟨by omega, by omega⟩ c_1) (va_cwS 1 hts gX0_isDerived_X0_requireRow rfl rfl rfl hdX0_requireRow ⟨Nat.le_of_ble_eq_true rfl, Nat.le_of_ble_eq_true rfl⟩) (xS_pre hG) rfl rfl hl.1 rfl (lv_room (Nat.le_of_ble_eq_true rfl)) dX0_isDerived_1 ⟨Nat.le_of_ble_eq_true rfl, Nat.le_of_ble_eq_true rfl⟩) (fun ce q9 H1 hz hk hce hcv hcl => ?_)
    exact th_out hout hlocks hz hk hce hcv hcl (Nat.le_refl _) (Nat.le_refl _)

set_option maxHeartbeats 4000000 in
set_option maxRecDepth 100000 in
theorem mX0_isDerived_x2 (l : Launch) (hfl : l.stackTraces = false) (dC : Nat → ClassId) (dI : Nat → Nat → Nat) (o0 : Nat) (a0 a1 q : Nat → Nat) (w : Nat) (hp0 : Pm a0) (hp1 : Pm a1) (hw : w ≤ 12) (hq : ∀ i, i < w → q i < 12) (hqd : ∀ i j, i < w → j < w → q i = q j → i = j) (z0 z1 : Int) (hz0 : inI z0) (hz1 : inI z1) (hbad : (z0 = 0 ∨ z0 = 1) ∧ ¬ (z1 = 1 ∨ z1 = 2 ∨ z1 = 3 ∨ z1 = 4 ∨ z1 = 6 ∨ z1 = 12)) : th l yX0_isDerived wsX0_isDerived { frames := 7, cells := 1, slots := 6, locals := 102 } [.ref o0, .int (iI z0), .int (iI z1)] (bX (dC, dI) [(o0, .inr (0, [.long (pk a0), .long (pk a1), .long (pkn q w), .int (iI ((w : Nat) : Int))]))] []) xIA := by
  refine vx_ofW (cc := cX0_isDerived) (maxL := 8) (ret := (some .boolean)) (by decide) rfl ?_
  intro P0 e s m args below meth c s₁ B hml hout hv
  obtain ⟨rfl, hP, hK, hG⟩ := hv
  have hx := B.exec
  have hb := B.bytes
  have hr := B.returns
  have hts := atoms_spec (ws := wsX0_isDerived) B.pre
  have hown : s.vm.findClass RX0 = some m.cls := findClass_of_methodNamed B.named
  have hlocks := B.notSynchronized
  have hl := lv_entry ([.ref o0, .int (iI z0), .int (iI z1)]) (n := 8) (Nat.le_of_ble_eq_true rfl)
  rw [lg_entry_eq]
  generalize (lg_sl ([.ref o0, .int (iI z0), .int (iI z1)]) ++ List.replicate (8 - (lg_sl ([.ref o0, .int (iI z0), .int (iI z1)])).length) Slot.unset).toArray = ls at hl ⊢
  have hl : lv_has ls 8 [(0, .ref o0), (1, .int (iI z0)), (2, .int (iI z1))] := hl
  have hza0 := hz0.1
  have hza1 := hz1.1
  have hzb0 := hz0.2
  have hzb1 := hz1.2
  refine lv_iload_n hx hb dX0_isDerived_0 rfl (lv_at hl 1 rfl) ?_
  by_cases c_1 : z0 = 0 ∨ z0 = 1
  · skip
    refine rd_call (va_runS (As := [.int (iI z0)]) (rest := []) ⟨hx, hb, hml, hown, hts⟩ (mX0_requireRow l z0 ⟨by omega, by omega⟩ (by omega)) (va_cwS 1 hts gX0_isDerived_X0_requireRow rfl rfl rfl hdX0_requireRow ⟨Nat.le_of_ble_eq_true rfl, Nat.le_of_ble_eq_true rfl⟩) tt_pre rfl rfl hl.1 rfl (lv_room (Nat.le_of_ble_eq_true rfl)) dX0_isDerived_1 ⟨Nat.le_of_ble_eq_true rfl, Nat.le_of_ble_eq_true rfl⟩) ?_
    refine lv_iload_n hx hb dX0_isDerived_4 rfl (lv_at hl 2 rfl) ?_
    by_cases c_5 : z1 = 1 ∨ z1 = 2 ∨ z1 = 3 ∨ z1 = 4 ∨ z1 = 6 ∨ z1 = 12
    · skip
      exfalso; omega
    · skip
      refine th_call (vx_runS (As := [.int (iI z1)]) (rest := []) ⟨hx, hb, hml, hown, hts⟩ (mX0_requireSize_b l hfl z1 ⟨by omega, by omega⟩ c_5) (va_cwS 1 hts gX0_isDerived_X0_requireSize rfl rfl rfl hdX0_requireSize ⟨Nat.le_of_ble_eq_true rfl, Nat.le_of_ble_eq_true rfl⟩) (xS_pre hG) rfl rfl hl.1 rfl (lv_room (Nat.le_of_ble_eq_true rfl)) dX0_isDerived_5 ⟨Nat.le_of_ble_eq_true rfl, Nat.le_of_ble_eq_true rfl⟩) (fun ce q9 H1 hz hk hce hcv hcl => ?_)
      exact th_out hout hlocks hz hk hce hcv hcl (Nat.le_refl _) (Nat.le_refl _)
  · skip
    exfalso; omega

set_option maxHeartbeats 4000000 in
set_option maxRecDepth 100000 in
theorem mX0_keptSets_x1 (l : Launch) (hfl : l.stackTraces = false) (dC : Nat → ClassId) (dI : Nat → Nat → Nat) (o0 : Nat) (a0 a1 q : Nat → Nat) (w : Nat) (hp0 : Pm a0) (hp1 : Pm a1) (hw : w ≤ 12) (hq : ∀ i, i < w → q i < 12) (hqd : ∀ i j, i < w → j < w → q i = q j → i = j) (z0 z1 z2 z3 : Int) (hz0 : inI z0) (hz1 : inI z1) (hz2 : inI z2) (hz3 : inI z3) (hbad : ¬ (z0 = 0 ∨ z0 = 1)) : th l yX0_keptSets wsX0_keptSets { frames := 7, cells := 1, slots := 6, locals := 102 } [.ref o0, .int (iI z0), .int (iI z1), .int (iI z2), .int (iI z3)] (bX (dC, dI) [(o0, .inr (0, [.long (pk a0), .long (pk a1), .long (pkn q w), .int (iI ((w : Nat) : Int))]))] []) xIO := by
  refine vx_ofW (cc := cX0_keptSets) (maxL := 7) (ret := (some .int)) (by decide) rfl ?_
  intro P0 e s m args below meth c s₁ B hml hout hv
  obtain ⟨rfl, hP, hK, hG⟩ := hv
  have hx := B.exec
  have hb := B.bytes
  have hr := B.returns
  have hts := atoms_spec (ws := wsX0_keptSets) B.pre
  have hown : s.vm.findClass RX0 = some m.cls := findClass_of_methodNamed B.named
  have hlocks := B.notSynchronized
  have hl := lv_entry ([.ref o0, .int (iI z0), .int (iI z1), .int (iI z2), .int (iI z3)]) (n := 7) (Nat.le_of_ble_eq_true rfl)
  rw [lg_entry_eq]
  generalize (lg_sl ([.ref o0, .int (iI z0), .int (iI z1), .int (iI z2), .int (iI z3)]) ++ List.replicate (7 - (lg_sl ([.ref o0, .int (iI z0), .int (iI z1), .int (iI z2), .int (iI z3)])).length) Slot.unset).toArray = ls at hl ⊢
  have hl : lv_has ls 7 [(0, .ref o0), (1, .int (iI z0)), (2, .int (iI z1)), (3, .int (iI z2)), (4, .int (iI z3))] := hl
  have hza0 := hz0.1
  have hza1 := hz1.1
  have hza2 := hz2.1
  have hza3 := hz3.1
  have hzb0 := hz0.2
  have hzb1 := hz1.2
  have hzb2 := hz2.2
  have hzb3 := hz3.2
  refine lv_iload_n hx hb dX0_keptSets_0 rfl (lv_at hl 1 rfl) ?_
  by_cases c_1 : z0 = 0 ∨ z0 = 1
  · skip
    refine rd_call (va_runS (As := [.int (iI z0)]) (rest := []) ⟨hx, hb, hml, hown, hts⟩ (mX0_requireRow l z0 ⟨by omega, by omega⟩ (by omega)) (va_cwS 1 hts gX0_keptSets_X0_requireRow rfl rfl rfl hdX0_requireRow ⟨Nat.le_of_ble_eq_true rfl, Nat.le_of_ble_eq_true rfl⟩) tt_pre rfl rfl hl.1 rfl (lv_room (Nat.le_of_ble_eq_true rfl)) dX0_keptSets_1 ⟨Nat.le_of_ble_eq_true rfl, Nat.le_of_ble_eq_true rfl⟩) ?_
    refine lv_iload_n hx hb dX0_keptSets_4 rfl (lv_at hl 2 rfl) ?_
    refine lv_iload_n hx hb dX0_keptSets_5 rfl (lv_at hl 3 rfl) ?_
    by_cases c_6 : 0 ≤ z1 ∧ z1 ≤ 3 ∧ 0 ≤ z2 ∧ z2 ≤ 11
    · skip
      refine rd_call (va_runS (As := [.int (iI z1), .int (iI z2)]) (rest := []) ⟨hx, hb, hml, hown, hts⟩ (mX0_requireForm l z1 z2 ⟨by omega, by omega⟩ ⟨by omega, by omega⟩ (by omega)) (va_cwS 2 hts gX0_keptSets_X0_requireForm rfl rfl rfl hdX0_requireForm ⟨Nat.le_of_ble_eq_true rfl, Nat.le_of_ble_eq_true rfl⟩) tt_pre rfl rfl hl.1 rfl (lv_room (Nat.le_of_ble_eq_true rfl)) dX0_keptSets_6 ⟨Nat.le_of_ble_eq_true rfl, Nat.le_of_ble_eq_true rfl⟩) ?_
      refine lv_iload hx hb dX0_keptSets_9 (lv_at hl 4 rfl) ?_
      refine ib_const hx hb dX0_keptSets_11 ?_
      refine ib_bi hx hb dX0_keptSets_12 (by decide) ?_
      by_cases c_14 : 1 ≤ z3 ∧ z3 ≤ 12
      · skip
        exfalso; omega
      · skip
        exfalso; omega
    · skip
      exfalso; omega
  · skip
    refine th_call (vx_runS (As := [.int (iI z0)]) (rest := []) ⟨hx, hb, hml, hown, hts⟩ (mX0_requireRow_b l hfl z0 ⟨by omega, by omega⟩ c_1) (va_cwS 1 hts gX0_keptSets_X0_requireRow rfl rfl rfl hdX0_requireRow ⟨Nat.le_of_ble_eq_true rfl, Nat.le_of_ble_eq_true rfl⟩) (xS_pre hG) rfl rfl hl.1 rfl (lv_room (Nat.le_of_ble_eq_true rfl)) dX0_keptSets_1 ⟨Nat.le_of_ble_eq_true rfl, Nat.le_of_ble_eq_true rfl⟩) (fun ce q9 H1 hz hk hce hcv hcl => ?_)
    exact th_out hout hlocks hz hk hce hcv hcl (Nat.le_refl _) (Nat.le_refl _)

set_option maxHeartbeats 4000000 in
set_option maxRecDepth 100000 in
theorem mX0_keptSets_x2 (l : Launch) (hfl : l.stackTraces = false) (dC : Nat → ClassId) (dI : Nat → Nat → Nat) (o0 : Nat) (a0 a1 q : Nat → Nat) (w : Nat) (hp0 : Pm a0) (hp1 : Pm a1) (hw : w ≤ 12) (hq : ∀ i, i < w → q i < 12) (hqd : ∀ i j, i < w → j < w → q i = q j → i = j) (z0 z1 z2 z3 : Int) (hz0 : inI z0) (hz1 : inI z1) (hz2 : inI z2) (hz3 : inI z3) (hbad : (z0 = 0 ∨ z0 = 1) ∧ ¬ ((0 ≤ z1 ∧ z1 ≤ 3 ∧ 0 ≤ z2 ∧ z2 ≤ 11) ∧ (1 ≤ z3 ∧ z3 ≤ 12))) : th l yX0_keptSets wsX0_keptSets { frames := 8, cells := 1, slots := 6, locals := 125 } [.ref o0, .int (iI z0), .int (iI z1), .int (iI z2), .int (iI z3)] (bX (dC, dI) [(o0, .inr (0, [.long (pk a0), .long (pk a1), .long (pkn q w), .int (iI ((w : Nat) : Int))]))] []) xIA := by
  refine vx_ofW (cc := cX0_keptSets) (maxL := 7) (ret := (some .int)) (by decide) rfl ?_
  intro P0 e s m args below meth c s₁ B hml hout hv
  obtain ⟨rfl, hP, hK, hG⟩ := hv
  have hx := B.exec
  have hb := B.bytes
  have hr := B.returns
  have hts := atoms_spec (ws := wsX0_keptSets) B.pre
  have hown : s.vm.findClass RX0 = some m.cls := findClass_of_methodNamed B.named
  have hlocks := B.notSynchronized
  have hl := lv_entry ([.ref o0, .int (iI z0), .int (iI z1), .int (iI z2), .int (iI z3)]) (n := 7) (Nat.le_of_ble_eq_true rfl)
  rw [lg_entry_eq]
  generalize (lg_sl ([.ref o0, .int (iI z0), .int (iI z1), .int (iI z2), .int (iI z3)]) ++ List.replicate (7 - (lg_sl ([.ref o0, .int (iI z0), .int (iI z1), .int (iI z2), .int (iI z3)])).length) Slot.unset).toArray = ls at hl ⊢
  have hl : lv_has ls 7 [(0, .ref o0), (1, .int (iI z0)), (2, .int (iI z1)), (3, .int (iI z2)), (4, .int (iI z3))] := hl
  have hza0 := hz0.1
  have hza1 := hz1.1
  have hza2 := hz2.1
  have hza3 := hz3.1
  have hzb0 := hz0.2
  have hzb1 := hz1.2
  have hzb2 := hz2.2
  have hzb3 := hz3.2
  refine lv_iload_n hx hb dX0_keptSets_0 rfl (lv_at hl 1 rfl) ?_
  by_cases c_1 : z0 = 0 ∨ z0 = 1
  · skip
    refine rd_call (va_runS (As := [.int (iI z0)]) (rest := []) ⟨hx, hb, hml, hown, hts⟩ (mX0_requireRow l z0 ⟨by omega, by omega⟩ (by omega)) (va_cwS 1 hts gX0_keptSets_X0_requireRow rfl rfl rfl hdX0_requireRow ⟨Nat.le_of_ble_eq_true rfl, Nat.le_of_ble_eq_true rfl⟩) tt_pre rfl rfl hl.1 rfl (lv_room (Nat.le_of_ble_eq_true rfl)) dX0_keptSets_1 ⟨Nat.le_of_ble_eq_true rfl, Nat.le_of_ble_eq_true rfl⟩) ?_
    refine lv_iload_n hx hb dX0_keptSets_4 rfl (lv_at hl 2 rfl) ?_
    refine lv_iload_n hx hb dX0_keptSets_5 rfl (lv_at hl 3 rfl) ?_
    by_cases c_6 : 0 ≤ z1 ∧ z1 ≤ 3 ∧ 0 ≤ z2 ∧ z2 ≤ 11
    · skip
      refine rd_call (va_runS (As := [.int (iI z1), .int (iI z2)]) (rest := []) ⟨hx, hb, hml, hown, hts⟩ (mX0_requireForm l z1 z2 ⟨by omega, by omega⟩ ⟨by omega, by omega⟩ (by omega)) (va_cwS 2 hts gX0_keptSets_X0_requireForm rfl rfl rfl hdX0_requireForm ⟨Nat.le_of_ble_eq_true rfl, Nat.le_of_ble_eq_true rfl⟩) tt_pre rfl rfl hl.1 rfl (lv_room (Nat.le_of_ble_eq_true rfl)) dX0_keptSets_6 ⟨Nat.le_of_ble_eq_true rfl, Nat.le_of_ble_eq_true rfl⟩) ?_
      refine lv_iload hx hb dX0_keptSets_9 (lv_at hl 4 rfl) ?_
      refine ib_const hx hb dX0_keptSets_11 ?_
      refine ib_bi hx hb dX0_keptSets_12 (by decide) ?_
      by_cases c_14 : 1 ≤ z3 ∧ z3 ≤ 12
      · skip
        exfalso; omega
      · skip
        refine th_call (vx_runS (As := [.int (iI z3), .int (iI 1), .int (iI 12)]) (rest := []) ⟨hx, hb, hml, hown, hts⟩ (mX0_requireRange_b l hfl z3 1 12 ⟨by omega, by omega⟩ ⟨by omega, by omega⟩ ⟨by omega, by omega⟩ c_14) (va_cwS 3 hts gX0_keptSets_X0_requireRange rfl rfl rfl hdX0_requireRange ⟨Nat.le_of_ble_eq_true rfl, Nat.le_of_ble_eq_true rfl⟩) (xS_pre hG) rfl rfl hl.1 rfl (lv_room (Nat.le_of_ble_eq_true rfl)) dX0_keptSets_14 ⟨Nat.le_of_ble_eq_true rfl, Nat.le_of_ble_eq_true rfl⟩) (fun ce q9 H1 hz hk hce hcv hcl => ?_)
        exact th_out hout hlocks hz hk hce hcv hcl (Nat.le_refl _) (Nat.le_refl _)
    · skip
      refine th_call (vx_runS (As := [.int (iI z1), .int (iI z2)]) (rest := []) ⟨hx, hb, hml, hown, hts⟩ (mX0_requireForm_b l hfl z1 z2 ⟨by omega, by omega⟩ ⟨by omega, by omega⟩ c_6) (va_cwS 2 hts gX0_keptSets_X0_requireForm rfl rfl rfl hdX0_requireForm ⟨Nat.le_of_ble_eq_true rfl, Nat.le_of_ble_eq_true rfl⟩) (xS_pre hG) rfl rfl hl.1 rfl (lv_room (Nat.le_of_ble_eq_true rfl)) dX0_keptSets_6 ⟨Nat.le_of_ble_eq_true rfl, Nat.le_of_ble_eq_true rfl⟩) (fun ce q9 H1 hz hk hce hcv hcl => ?_)
      exact th_out hout hlocks hz hk hce hcv hcl (Nat.le_refl _) (Nat.le_refl _)
  · skip
    exfalso; omega

set_option maxHeartbeats 4000000 in
set_option maxRecDepth 100000 in
theorem mX0_longestKept_x1 (l : Launch) (hfl : l.stackTraces = false) (dC : Nat → ClassId) (dI : Nat → Nat → Nat) (o0 : Nat) (a0 a1 q : Nat → Nat) (w : Nat) (hp0 : Pm a0) (hp1 : Pm a1) (hw : w ≤ 12) (hq : ∀ i, i < w → q i < 12) (hqd : ∀ i j, i < w → j < w → q i = q j → i = j) (z0 z1 z2 : Int) (hz0 : inI z0) (hz1 : inI z1) (hz2 : inI z2) (hbad : ¬ (z0 = 0 ∨ z0 = 1)) : th l yX0_longestKept wsX0_longestKept { frames := 7, cells := 1, slots := 6, locals := 102 } [.ref o0, .int (iI z0), .int (iI z1), .int (iI z2)] (bX (dC, dI) [(o0, .inr (0, [.long (pk a0), .long (pk a1), .long (pkn q w), .int (iI ((w : Nat) : Int))]))] []) xIO := by
  refine vx_ofW (cc := cX0_longestKept) (maxL := 12) (ret := (some .int)) (by decide) rfl ?_
  intro P0 e s m args below meth c s₁ B hml hout hv
  obtain ⟨rfl, hP, hK, hG⟩ := hv
  have hx := B.exec
  have hb := B.bytes
  have hr := B.returns
  have hts := atoms_spec (ws := wsX0_longestKept) B.pre
  have hown : s.vm.findClass RX0 = some m.cls := findClass_of_methodNamed B.named
  have hlocks := B.notSynchronized
  have hl := lv_entry ([.ref o0, .int (iI z0), .int (iI z1), .int (iI z2)]) (n := 12) (Nat.le_of_ble_eq_true rfl)
  rw [lg_entry_eq]
  generalize (lg_sl ([.ref o0, .int (iI z0), .int (iI z1), .int (iI z2)]) ++ List.replicate (12 - (lg_sl ([.ref o0, .int (iI z0), .int (iI z1), .int (iI z2)])).length) Slot.unset).toArray = ls at hl ⊢
  have hl : lv_has ls 12 [(0, .ref o0), (1, .int (iI z0)), (2, .int (iI z1)), (3, .int (iI z2))] := hl
  have hza0 := hz0.1
  have hza1 := hz1.1
  have hza2 := hz2.1
  have hzb0 := hz0.2
  have hzb1 := hz1.2
  have hzb2 := hz2.2
  refine lv_iload_n hx hb dX0_longestKept_0 rfl (lv_at hl 1 rfl) ?_
  by_cases c_1 : z0 = 0 ∨ z0 = 1
  · skip
    refine rd_call (va_runS (As := [.int (iI z0)]) (rest := []) ⟨hx, hb, hml, hown, hts⟩ (mX0_requireRow l z0 ⟨by omega, by omega⟩ (by omega)) (va_cwS 1 hts gX0_longestKept_X0_requireRow rfl rfl rfl hdX0_requireRow ⟨Nat.le_of_ble_eq_true rfl, Nat.le_of_ble_eq_true rfl⟩) tt_pre rfl rfl hl.1 rfl (lv_room (Nat.le_of_ble_eq_true rfl)) dX0_longestKept_1 ⟨Nat.le_of_ble_eq_true rfl, Nat.le_of_ble_eq_true rfl⟩) ?_
    refine lv_iload_n hx hb dX0_longestKept_4 rfl (lv_at hl 2 rfl) ?_
    refine lv_iload_n hx hb dX0_longestKept_5 rfl (lv_at hl 3 rfl) ?_
    by_cases c_6 : 0 ≤ z1 ∧ z1 ≤ 3 ∧ 0 ≤ z2 ∧ z2 ≤ 11
    · skip
      exfalso; omega
    · skip
      exfalso; omega
  · skip
    refine th_call (vx_runS (As := [.int (iI z0)]) (rest := []) ⟨hx, hb, hml, hown, hts⟩ (mX0_requireRow_b l hfl z0 ⟨by omega, by omega⟩ c_1) (va_cwS 1 hts gX0_longestKept_X0_requireRow rfl rfl rfl hdX0_requireRow ⟨Nat.le_of_ble_eq_true rfl, Nat.le_of_ble_eq_true rfl⟩) (xS_pre hG) rfl rfl hl.1 rfl (lv_room (Nat.le_of_ble_eq_true rfl)) dX0_longestKept_1 ⟨Nat.le_of_ble_eq_true rfl, Nat.le_of_ble_eq_true rfl⟩) (fun ce q9 H1 hz hk hce hcv hcl => ?_)
    exact th_out hout hlocks hz hk hce hcv hcl (Nat.le_refl _) (Nat.le_refl _)

set_option maxHeartbeats 4000000 in
set_option maxRecDepth 100000 in
theorem mX0_longestKept_x2 (l : Launch) (hfl : l.stackTraces = false) (dC : Nat → ClassId) (dI : Nat → Nat → Nat) (o0 : Nat) (a0 a1 q : Nat → Nat) (w : Nat) (hp0 : Pm a0) (hp1 : Pm a1) (hw : w ≤ 12) (hq : ∀ i, i < w → q i < 12) (hqd : ∀ i j, i < w → j < w → q i = q j → i = j) (z0 z1 z2 : Int) (hz0 : inI z0) (hz1 : inI z1) (hz2 : inI z2) (hbad : (z0 = 0 ∨ z0 = 1) ∧ ¬ (0 ≤ z1 ∧ z1 ≤ 3 ∧ 0 ≤ z2 ∧ z2 ≤ 11)) : th l yX0_longestKept wsX0_longestKept { frames := 8, cells := 1, slots := 6, locals := 125 } [.ref o0, .int (iI z0), .int (iI z1), .int (iI z2)] (bX (dC, dI) [(o0, .inr (0, [.long (pk a0), .long (pk a1), .long (pkn q w), .int (iI ((w : Nat) : Int))]))] []) xIA := by
  refine vx_ofW (cc := cX0_longestKept) (maxL := 12) (ret := (some .int)) (by decide) rfl ?_
  intro P0 e s m args below meth c s₁ B hml hout hv
  obtain ⟨rfl, hP, hK, hG⟩ := hv
  have hx := B.exec
  have hb := B.bytes
  have hr := B.returns
  have hts := atoms_spec (ws := wsX0_longestKept) B.pre
  have hown : s.vm.findClass RX0 = some m.cls := findClass_of_methodNamed B.named
  have hlocks := B.notSynchronized
  have hl := lv_entry ([.ref o0, .int (iI z0), .int (iI z1), .int (iI z2)]) (n := 12) (Nat.le_of_ble_eq_true rfl)
  rw [lg_entry_eq]
  generalize (lg_sl ([.ref o0, .int (iI z0), .int (iI z1), .int (iI z2)]) ++ List.replicate (12 - (lg_sl ([.ref o0, .int (iI z0), .int (iI z1), .int (iI z2)])).length) Slot.unset).toArray = ls at hl ⊢
  have hl : lv_has ls 12 [(0, .ref o0), (1, .int (iI z0)), (2, .int (iI z1)), (3, .int (iI z2))] := hl
  have hza0 := hz0.1
  have hza1 := hz1.1
  have hza2 := hz2.1
  have hzb0 := hz0.2
  have hzb1 := hz1.2
  have hzb2 := hz2.2
  refine lv_iload_n hx hb dX0_longestKept_0 rfl (lv_at hl 1 rfl) ?_
  by_cases c_1 : z0 = 0 ∨ z0 = 1
  · skip
    refine rd_call (va_runS (As := [.int (iI z0)]) (rest := []) ⟨hx, hb, hml, hown, hts⟩ (mX0_requireRow l z0 ⟨by omega, by omega⟩ (by omega)) (va_cwS 1 hts gX0_longestKept_X0_requireRow rfl rfl rfl hdX0_requireRow ⟨Nat.le_of_ble_eq_true rfl, Nat.le_of_ble_eq_true rfl⟩) tt_pre rfl rfl hl.1 rfl (lv_room (Nat.le_of_ble_eq_true rfl)) dX0_longestKept_1 ⟨Nat.le_of_ble_eq_true rfl, Nat.le_of_ble_eq_true rfl⟩) ?_
    refine lv_iload_n hx hb dX0_longestKept_4 rfl (lv_at hl 2 rfl) ?_
    refine lv_iload_n hx hb dX0_longestKept_5 rfl (lv_at hl 3 rfl) ?_
    by_cases c_6 : 0 ≤ z1 ∧ z1 ≤ 3 ∧ 0 ≤ z2 ∧ z2 ≤ 11
    · skip
      exfalso; omega
    · skip
      refine th_call (vx_runS (As := [.int (iI z1), .int (iI z2)]) (rest := []) ⟨hx, hb, hml, hown, hts⟩ (mX0_requireForm_b l hfl z1 z2 ⟨by omega, by omega⟩ ⟨by omega, by omega⟩ c_6) (va_cwS 2 hts gX0_longestKept_X0_requireForm rfl rfl rfl hdX0_requireForm ⟨Nat.le_of_ble_eq_true rfl, Nat.le_of_ble_eq_true rfl⟩) (xS_pre hG) rfl rfl hl.1 rfl (lv_room (Nat.le_of_ble_eq_true rfl)) dX0_longestKept_6 ⟨Nat.le_of_ble_eq_true rfl, Nat.le_of_ble_eq_true rfl⟩) (fun ce q9 H1 hz hk hce hcv hcl => ?_)
      exact th_out hout hlocks hz hk hce hcv hcl (Nat.le_refl _) (Nat.le_refl _)
  · skip
    exfalso; omega

set_option maxHeartbeats 4000000 in
set_option maxRecDepth 100000 in
theorem mX0_mostKept_x1 (l : Launch) (hfl : l.stackTraces = false) (dC : Nat → ClassId) (dI : Nat → Nat → Nat) (o0 : Nat) (a0 a1 q : Nat → Nat) (w : Nat) (hp0 : Pm a0) (hp1 : Pm a1) (hw : w ≤ 12) (hq : ∀ i, i < w → q i < 12) (hqd : ∀ i j, i < w → j < w → q i = q j → i = j) (z0 z1 : Int) (hz0 : inI z0) (hz1 : inI z1) (hbad : ¬ (z0 = 0 ∨ z0 = 1)) : th l yX0_mostKept wsX0_mostKept { frames := 7, cells := 1, slots := 6, locals := 102 } [.ref o0, .int (iI z0), .int (iI z1)] (bX (dC, dI) [(o0, .inr (0, [.long (pk a0), .long (pk a1), .long (pkn q w), .int (iI ((w : Nat) : Int))]))] []) xIO := by
  refine vx_ofW (cc := cX0_mostKept) (maxL := 10) (ret := (some .int)) (by decide) rfl ?_
  intro P0 e s m args below meth c s₁ B hml hout hv
  obtain ⟨rfl, hP, hK, hG⟩ := hv
  have hx := B.exec
  have hb := B.bytes
  have hr := B.returns
  have hts := atoms_spec (ws := wsX0_mostKept) B.pre
  have hown : s.vm.findClass RX0 = some m.cls := findClass_of_methodNamed B.named
  have hlocks := B.notSynchronized
  have hl := lv_entry ([.ref o0, .int (iI z0), .int (iI z1)]) (n := 10) (Nat.le_of_ble_eq_true rfl)
  rw [lg_entry_eq]
  generalize (lg_sl ([.ref o0, .int (iI z0), .int (iI z1)]) ++ List.replicate (10 - (lg_sl ([.ref o0, .int (iI z0), .int (iI z1)])).length) Slot.unset).toArray = ls at hl ⊢
  have hl : lv_has ls 10 [(0, .ref o0), (1, .int (iI z0)), (2, .int (iI z1))] := hl
  have hza0 := hz0.1
  have hza1 := hz1.1
  have hzb0 := hz0.2
  have hzb1 := hz1.2
  refine lv_iload_n hx hb dX0_mostKept_0 rfl (lv_at hl 1 rfl) ?_
  by_cases c_1 : z0 = 0 ∨ z0 = 1
  · skip
    refine rd_call (va_runS (As := [.int (iI z0)]) (rest := []) ⟨hx, hb, hml, hown, hts⟩ (mX0_requireRow l z0 ⟨by omega, by omega⟩ (by omega)) (va_cwS 1 hts gX0_mostKept_X0_requireRow rfl rfl rfl hdX0_requireRow ⟨Nat.le_of_ble_eq_true rfl, Nat.le_of_ble_eq_true rfl⟩) tt_pre rfl rfl hl.1 rfl (lv_room (Nat.le_of_ble_eq_true rfl)) dX0_mostKept_1 ⟨Nat.le_of_ble_eq_true rfl, Nat.le_of_ble_eq_true rfl⟩) ?_
    refine lv_iload_n hx hb dX0_mostKept_4 rfl (lv_at hl 2 rfl) ?_
    refine ib_const hx hb dX0_mostKept_5 ?_
    refine ib_bi hx hb dX0_mostKept_6 (by decide) ?_
    by_cases c_8 : 2 ≤ z1 ∧ z1 ≤ 11
    · skip
      exfalso; omega
    · skip
      exfalso; omega
  · skip
    refine th_call (vx_runS (As := [.int (iI z0)]) (rest := []) ⟨hx, hb, hml, hown, hts⟩ (mX0_requireRow_b l hfl z0 ⟨by omega, by omega⟩ c_1) (va_cwS 1 hts gX0_mostKept_X0_requireRow rfl rfl rfl hdX0_requireRow ⟨Nat.le_of_ble_eq_true rfl, Nat.le_of_ble_eq_true rfl⟩) (xS_pre hG) rfl rfl hl.1 rfl (lv_room (Nat.le_of_ble_eq_true rfl)) dX0_mostKept_1 ⟨Nat.le_of_ble_eq_true rfl, Nat.le_of_ble_eq_true rfl⟩) (fun ce q9 H1 hz hk hce hcv hcl => ?_)
    exact th_out hout hlocks hz hk hce hcv hcl (Nat.le_refl _) (Nat.le_refl _)

set_option maxHeartbeats 4000000 in
set_option maxRecDepth 100000 in
theorem mX0_mostKept_x2 (l : Launch) (hfl : l.stackTraces = false) (dC : Nat → ClassId) (dI : Nat → Nat → Nat) (o0 : Nat) (a0 a1 q : Nat → Nat) (w : Nat) (hp0 : Pm a0) (hp1 : Pm a1) (hw : w ≤ 12) (hq : ∀ i, i < w → q i < 12) (hqd : ∀ i j, i < w → j < w → q i = q j → i = j) (z0 z1 : Int) (hz0 : inI z0) (hz1 : inI z1) (hbad : (z0 = 0 ∨ z0 = 1) ∧ ¬ (2 ≤ z1 ∧ z1 ≤ 11)) : th l yX0_mostKept wsX0_mostKept { frames := 7, cells := 1, slots := 6, locals := 104 } [.ref o0, .int (iI z0), .int (iI z1)] (bX (dC, dI) [(o0, .inr (0, [.long (pk a0), .long (pk a1), .long (pkn q w), .int (iI ((w : Nat) : Int))]))] []) xIA := by
  refine vx_ofW (cc := cX0_mostKept) (maxL := 10) (ret := (some .int)) (by decide) rfl ?_
  intro P0 e s m args below meth c s₁ B hml hout hv
  obtain ⟨rfl, hP, hK, hG⟩ := hv
  have hx := B.exec
  have hb := B.bytes
  have hr := B.returns
  have hts := atoms_spec (ws := wsX0_mostKept) B.pre
  have hown : s.vm.findClass RX0 = some m.cls := findClass_of_methodNamed B.named
  have hlocks := B.notSynchronized
  have hl := lv_entry ([.ref o0, .int (iI z0), .int (iI z1)]) (n := 10) (Nat.le_of_ble_eq_true rfl)
  rw [lg_entry_eq]
  generalize (lg_sl ([.ref o0, .int (iI z0), .int (iI z1)]) ++ List.replicate (10 - (lg_sl ([.ref o0, .int (iI z0), .int (iI z1)])).length) Slot.unset).toArray = ls at hl ⊢
  have hl : lv_has ls 10 [(0, .ref o0), (1, .int (iI z0)), (2, .int (iI z1))] := hl
  have hza0 := hz0.1
  have hza1 := hz1.1
  have hzb0 := hz0.2
  have hzb1 := hz1.2
  refine lv_iload_n hx hb dX0_mostKept_0 rfl (lv_at hl 1 rfl) ?_
  by_cases c_1 : z0 = 0 ∨ z0 = 1
  · skip
    refine rd_call (va_runS (As := [.int (iI z0)]) (rest := []) ⟨hx, hb, hml, hown, hts⟩ (mX0_requireRow l z0 ⟨by omega, by omega⟩ (by omega)) (va_cwS 1 hts gX0_mostKept_X0_requireRow rfl rfl rfl hdX0_requireRow ⟨Nat.le_of_ble_eq_true rfl, Nat.le_of_ble_eq_true rfl⟩) tt_pre rfl rfl hl.1 rfl (lv_room (Nat.le_of_ble_eq_true rfl)) dX0_mostKept_1 ⟨Nat.le_of_ble_eq_true rfl, Nat.le_of_ble_eq_true rfl⟩) ?_
    refine lv_iload_n hx hb dX0_mostKept_4 rfl (lv_at hl 2 rfl) ?_
    refine ib_const hx hb dX0_mostKept_5 ?_
    refine ib_bi hx hb dX0_mostKept_6 (by decide) ?_
    by_cases c_8 : 2 ≤ z1 ∧ z1 ≤ 11
    · skip
      exfalso; omega
    · skip
      refine th_call (vx_runS (As := [.int (iI z1), .int (iI 2), .int (iI 11)]) (rest := []) ⟨hx, hb, hml, hown, hts⟩ (mX0_requireRange_b l hfl z1 2 11 ⟨by omega, by omega⟩ ⟨by omega, by omega⟩ ⟨by omega, by omega⟩ c_8) (va_cwS 3 hts gX0_mostKept_X0_requireRange rfl rfl rfl hdX0_requireRange ⟨Nat.le_of_ble_eq_true rfl, Nat.le_of_ble_eq_true rfl⟩) (xS_pre hG) rfl rfl hl.1 rfl (lv_room (Nat.le_of_ble_eq_true rfl)) dX0_mostKept_8 ⟨Nat.le_of_ble_eq_true rfl, Nat.le_of_ble_eq_true rfl⟩) (fun ce q9 H1 hz hk hce hcv hcl => ?_)
      exact th_out hout hlocks hz hk hce hcv hcl (Nat.le_refl _) (Nat.le_refl _)
  · skip
    exfalso; omega

set_option maxHeartbeats 4000000 in
set_option maxRecDepth 100000 in
theorem mX0_cuts_x1 (l : Launch) (hfl : l.stackTraces = false) (dC : Nat → ClassId) (dI : Nat → Nat → Nat) (o0 : Nat) (a0 a1 q : Nat → Nat) (w : Nat) (hp0 : Pm a0) (hp1 : Pm a1) (hw : w ≤ 12) (hq : ∀ i, i < w → q i < 12) (hqd : ∀ i j, i < w → j < w → q i = q j → i = j) (z0 z1 : Int) (hz0 : inI z0) (hz1 : inI z1) (hbad : ¬ ((0 ≤ z0 ∧ z0 ≤ 47) ∧ (0 ≤ z1 ∧ z1 ≤ 47))) : th l yX0_cuts wsX0_cuts { frames := 7, cells := 1, slots := 6, locals := 104 } [.ref o0, .int (iI z0), .int (iI z1)] (bX (dC, dI) [(o0, .inr (0, [.long (pk a0), .long (pk a1), .long (pkn q w), .int (iI ((w : Nat) : Int))]))] []) xIA := by
  refine vx_ofW (cc := cX0_cuts) (maxL := 9) (ret := (some .int)) (by decide) rfl ?_
  intro P0 e s m args below meth c s₁ B hml hout hv
  obtain ⟨rfl, hP, hK, hG⟩ := hv
  have hx := B.exec
  have hb := B.bytes
  have hr := B.returns
  have hts := atoms_spec (ws := wsX0_cuts) B.pre
  have hown : s.vm.findClass RX0 = some m.cls := findClass_of_methodNamed B.named
  have hlocks := B.notSynchronized
  have hl := lv_entry ([.ref o0, .int (iI z0), .int (iI z1)]) (n := 9) (Nat.le_of_ble_eq_true rfl)
  rw [lg_entry_eq]
  generalize (lg_sl ([.ref o0, .int (iI z0), .int (iI z1)]) ++ List.replicate (9 - (lg_sl ([.ref o0, .int (iI z0), .int (iI z1)])).length) Slot.unset).toArray = ls at hl ⊢
  have hl : lv_has ls 9 [(0, .ref o0), (1, .int (iI z0)), (2, .int (iI z1))] := hl
  have hza0 := hz0.1
  have hza1 := hz1.1
  have hzb0 := hz0.2
  have hzb1 := hz1.2
  refine lv_iload_n hx hb dX0_cuts_0 rfl (lv_at hl 1 rfl) ?_
  refine ib_const hx hb dX0_cuts_1 ?_
  refine ib_bi hx hb dX0_cuts_2 (by decide) ?_
  by_cases c_4 : 0 ≤ z0 ∧ z0 ≤ 47
  · skip
    refine rd_call (va_runS (As := [.int (iI z0), .int (iI 0), .int (iI 47)]) (rest := []) ⟨hx, hb, hml, hown, hts⟩ (mX0_requireRange l z0 0 47 ⟨by omega, by omega⟩ ⟨by omega, by omega⟩ ⟨by omega, by omega⟩ (by omega)) (va_cwS 3 hts gX0_cuts_X0_requireRange rfl rfl rfl hdX0_requireRange ⟨Nat.le_of_ble_eq_true rfl, Nat.le_of_ble_eq_true rfl⟩) tt_pre rfl rfl hl.1 rfl (lv_room (Nat.le_of_ble_eq_true rfl)) dX0_cuts_4 ⟨Nat.le_of_ble_eq_true rfl, Nat.le_of_ble_eq_true rfl⟩) ?_
    refine lv_iload_n hx hb dX0_cuts_7 rfl (lv_at hl 2 rfl) ?_
    refine ib_const hx hb dX0_cuts_8 ?_
    refine ib_bi hx hb dX0_cuts_9 (by decide) ?_
    by_cases c_11 : 0 ≤ z1 ∧ z1 ≤ 47
    · skip
      exfalso; omega
    · skip
      refine th_call (vx_runS (As := [.int (iI z1), .int (iI 0), .int (iI 47)]) (rest := []) ⟨hx, hb, hml, hown, hts⟩ (mX0_requireRange_b l hfl z1 0 47 ⟨by omega, by omega⟩ ⟨by omega, by omega⟩ ⟨by omega, by omega⟩ c_11) (va_cwS 3 hts gX0_cuts_X0_requireRange rfl rfl rfl hdX0_requireRange ⟨Nat.le_of_ble_eq_true rfl, Nat.le_of_ble_eq_true rfl⟩) (xS_pre hG) rfl rfl hl.1 rfl (lv_room (Nat.le_of_ble_eq_true rfl)) dX0_cuts_11 ⟨Nat.le_of_ble_eq_true rfl, Nat.le_of_ble_eq_true rfl⟩) (fun ce q9 H1 hz hk hce hcv hcl => ?_)
      exact th_out hout hlocks hz hk hce hcv hcl (Nat.le_refl _) (Nat.le_refl _)
  · skip
    refine th_call (vx_runS (As := [.int (iI z0), .int (iI 0), .int (iI 47)]) (rest := []) ⟨hx, hb, hml, hown, hts⟩ (mX0_requireRange_b l hfl z0 0 47 ⟨by omega, by omega⟩ ⟨by omega, by omega⟩ ⟨by omega, by omega⟩ c_4) (va_cwS 3 hts gX0_cuts_X0_requireRange rfl rfl rfl hdX0_requireRange ⟨Nat.le_of_ble_eq_true rfl, Nat.le_of_ble_eq_true rfl⟩) (xS_pre hG) rfl rfl hl.1 rfl (lv_room (Nat.le_of_ble_eq_true rfl)) dX0_cuts_4 ⟨Nat.le_of_ble_eq_true rfl, Nat.le_of_ble_eq_true rfl⟩) (fun ce q9 H1 hz hk hce hcv hcl => ?_)
    exact th_out hout hlocks hz hk hce hcv hcl (Nat.le_refl _) (Nat.le_refl _)

set_option maxHeartbeats 4000000 in
set_option maxRecDepth 100000 in
theorem mX0_write_x1 (l : Launch) (hfl : l.stackTraces = false) (dC : Nat → ClassId) (dI : Nat → Nat → Nat) (o0 : Nat) (a0 a1 q : Nat → Nat) (w : Nat) (hp0 : Pm a0) (hp1 : Pm a1) (hw : w ≤ 12) (hq : ∀ i, i < w → q i < 12) (hqd : ∀ i j, i < w → j < w → q i = q j → i = j) (z0 : Int) (hz0 : inI z0) (hbad : ¬ (0 ≤ z0 ∧ z0 ≤ 11)) : th l yX0_write wsX0_write { frames := 7, cells := 1, slots := 6, locals := 104 } [.ref o0, .int (iI z0)] (bX (dC, dI) [(o0, .inr (0, [.long (pk a0), .long (pk a1), .long (pkn q w), .int (iI ((w : Nat) : Int))]))] []) xIA := by
  refine vx_ofW (cc := cX0_write) (maxL := 2) (ret := (some .int)) (by decide) rfl ?_
  intro P0 e s m args below meth c s₁ B hml hout hv
  obtain ⟨rfl, hP, hK, hG⟩ := hv
  have hx := B.exec
  have hb := B.bytes
  have hr := B.returns
  have hts := atoms_spec (ws := wsX0_write) B.pre
  have hown : s.vm.findClass RX0 = some m.cls := findClass_of_methodNamed B.named
  have hlocks := B.notSynchronized
  have hl := lv_entry ([.ref o0, .int (iI z0)]) (n := 2) (Nat.le_of_ble_eq_true rfl)
  rw [lg_entry_eq]
  generalize (lg_sl ([.ref o0, .int (iI z0)]) ++ List.replicate (2 - (lg_sl ([.ref o0, .int (iI z0)])).length) Slot.unset).toArray = ls at hl ⊢
  have hl : lv_has ls 2 [(0, .ref o0), (1, .int (iI z0))] := hl
  have hza0 := hz0.1
  have hzb0 := hz0.2
  refine lv_iload_n hx hb dX0_write_0 rfl (lv_at hl 1 rfl) ?_
  refine ib_const hx hb dX0_write_1 ?_
  refine ib_bi hx hb dX0_write_2 (by decide) ?_
  by_cases c_4 : 0 ≤ z0 ∧ z0 ≤ 11
  · skip
    exfalso; omega
  · skip
    refine th_call (vx_runS (As := [.int (iI z0), .int (iI 0), .int (iI 11)]) (rest := []) ⟨hx, hb, hml, hown, hts⟩ (mX0_requireRange_b l hfl z0 0 11 ⟨by omega, by omega⟩ ⟨by omega, by omega⟩ ⟨by omega, by omega⟩ c_4) (va_cwS 3 hts gX0_write_X0_requireRange rfl rfl rfl hdX0_requireRange ⟨Nat.le_of_ble_eq_true rfl, Nat.le_of_ble_eq_true rfl⟩) (xS_pre hG) rfl rfl hl.1 rfl (lv_room (Nat.le_of_ble_eq_true rfl)) dX0_write_4 ⟨Nat.le_of_ble_eq_true rfl, Nat.le_of_ble_eq_true rfl⟩) (fun ce q9 H1 hz hk hce hcv hcl => ?_)
    exact th_out hout hlocks hz hk hce hcv hcl (Nat.le_refl _) (Nat.le_refl _)

set_option maxHeartbeats 4000000 in
set_option maxRecDepth 100000 in
theorem mX0_formsWithPhrase_x1 (l : Launch) (hfl : l.stackTraces = false) (dC : Nat → ClassId) (dI : Nat → Nat → Nat) (o0 : Nat) (a0 a1 q : Nat → Nat) (w : Nat) (hp0 : Pm a0) (hp1 : Pm a1) (hw : w ≤ 12) (hq : ∀ i, i < w → q i < 12) (hqd : ∀ i j, i < w → j < w → q i = q j → i = j) (z0 : Int) (hz0 : inI z0) (hbad : ¬ (z0 = 0 ∨ z0 = 1)) : th l yX0_formsWithPhrase wsX0_formsWithPhrase { frames := 7, cells := 1, slots := 6, locals := 102 } [.ref o0, .int (iI z0)] (bX (dC, dI) [(o0, .inr (0, [.long (pk a0), .long (pk a1), .long (pkn q w), .int (iI ((w : Nat) : Int))]))] []) xIO := by
  refine vx_ofW (cc := cX0_formsWithPhrase) (maxL := 7) (ret := (some .long)) (by decide) rfl ?_
  intro P0 e s m args below meth c s₁ B hml hout hv
  obtain ⟨rfl, hP, hK, hG⟩ := hv
  have hx := B.exec
  have hb := B.bytes
  have hr := B.returns
  have hts := atoms_spec (ws := wsX0_formsWithPhrase) B.pre
  have hown : s.vm.findClass RX0 = some m.cls := findClass_of_methodNamed B.named
  have hlocks := B.notSynchronized
  have hl := lv_entry ([.ref o0, .int (iI z0)]) (n := 7) (Nat.le_of_ble_eq_true rfl)
  rw [lg_entry_eq]
  generalize (lg_sl ([.ref o0, .int (iI z0)]) ++ List.replicate (7 - (lg_sl ([.ref o0, .int (iI z0)])).length) Slot.unset).toArray = ls at hl ⊢
  have hl : lv_has ls 7 [(0, .ref o0), (1, .int (iI z0))] := hl
  have hza0 := hz0.1
  have hzb0 := hz0.2
  refine lv_iload_n hx hb dX0_formsWithPhrase_0 rfl (lv_at hl 1 rfl) ?_
  by_cases c_1 : z0 = 0 ∨ z0 = 1
  · skip
    exfalso; omega
  · skip
    refine th_call (vx_runS (As := [.int (iI z0)]) (rest := []) ⟨hx, hb, hml, hown, hts⟩ (mX0_requireRow_b l hfl z0 ⟨by omega, by omega⟩ c_1) (va_cwS 1 hts gX0_formsWithPhrase_X0_requireRow rfl rfl rfl hdX0_requireRow ⟨Nat.le_of_ble_eq_true rfl, Nat.le_of_ble_eq_true rfl⟩) (xS_pre hG) rfl rfl hl.1 rfl (lv_room (Nat.le_of_ble_eq_true rfl)) dX0_formsWithPhrase_1 ⟨Nat.le_of_ble_eq_true rfl, Nat.le_of_ble_eq_true rfl⟩) (fun ce q9 H1 hz hk hce hcv hcl => ?_)
    exact th_out hout hlocks hz hk hce hcv hcl (Nat.le_refl _) (Nat.le_refl _)

set_option maxHeartbeats 4000000 in
set_option maxRecDepth 100000 in
theorem mX0_placeOfPhrase_x1 (l : Launch) (hfl : l.stackTraces = false) (dC : Nat → ClassId) (dI : Nat → Nat → Nat) (o0 : Nat) (a0 a1 q : Nat → Nat) (w : Nat) (hp0 : Pm a0) (hp1 : Pm a1) (hw : w ≤ 12) (hq : ∀ i, i < w → q i < 12) (hqd : ∀ i j, i < w → j < w → q i = q j → i = j) (z0 z1 : Int) (hz0 : inI z0) (hz1 : inI z1) (hbad : ¬ (z0 = 0 ∨ z0 = 1)) : th l yX0_placeOfPhrase wsX0_placeOfPhrase { frames := 7, cells := 1, slots := 6, locals := 102 } [.ref o0, .int (iI z0), .int (iI z1)] (bX (dC, dI) [(o0, .inr (0, [.long (pk a0), .long (pk a1), .long (pkn q w), .int (iI ((w : Nat) : Int))]))] []) xIO := by
  refine vx_ofW (cc := cX0_placeOfPhrase) (maxL := 3) (ret := (some .int)) (by decide) rfl ?_
  intro P0 e s m args below meth c s₁ B hml hout hv
  obtain ⟨rfl, hP, hK, hG⟩ := hv
  have hx := B.exec
  have hb := B.bytes
  have hr := B.returns
  have hts := atoms_spec (ws := wsX0_placeOfPhrase) B.pre
  have hown : s.vm.findClass RX0 = some m.cls := findClass_of_methodNamed B.named
  have hlocks := B.notSynchronized
  have hl := lv_entry ([.ref o0, .int (iI z0), .int (iI z1)]) (n := 3) (Nat.le_of_ble_eq_true rfl)
  rw [lg_entry_eq]
  generalize (lg_sl ([.ref o0, .int (iI z0), .int (iI z1)]) ++ List.replicate (3 - (lg_sl ([.ref o0, .int (iI z0), .int (iI z1)])).length) Slot.unset).toArray = ls at hl ⊢
  have hl : lv_has ls 3 [(0, .ref o0), (1, .int (iI z0)), (2, .int (iI z1))] := hl
  have hza0 := hz0.1
  have hza1 := hz1.1
  have hzb0 := hz0.2
  have hzb1 := hz1.2
  refine lv_iload_n hx hb dX0_placeOfPhrase_0 rfl (lv_at hl 1 rfl) ?_
  by_cases c_1 : z0 = 0 ∨ z0 = 1
  · skip
    refine rd_call (va_runS (As := [.int (iI z0)]) (rest := []) ⟨hx, hb, hml, hown, hts⟩ (mX0_requireRow l z0 ⟨by omega, by omega⟩ (by omega)) (va_cwS 1 hts gX0_placeOfPhrase_X0_requireRow rfl rfl rfl hdX0_requireRow ⟨Nat.le_of_ble_eq_true rfl, Nat.le_of_ble_eq_true rfl⟩) tt_pre rfl rfl hl.1 rfl (lv_room (Nat.le_of_ble_eq_true rfl)) dX0_placeOfPhrase_1 ⟨Nat.le_of_ble_eq_true rfl, Nat.le_of_ble_eq_true rfl⟩) ?_
    refine lv_iload_n hx hb dX0_placeOfPhrase_4 rfl (lv_at hl 2 rfl) ?_
    refine ib_const hx hb dX0_placeOfPhrase_5 ?_
    refine ib_bi hx hb dX0_placeOfPhrase_6 (by decide) ?_
    by_cases c_8 : 0 ≤ z1 ∧ z1 ≤ 47
    · skip
      exfalso; omega
    · skip
      exfalso; omega
  · skip
    refine th_call (vx_runS (As := [.int (iI z0)]) (rest := []) ⟨hx, hb, hml, hown, hts⟩ (mX0_requireRow_b l hfl z0 ⟨by omega, by omega⟩ c_1) (va_cwS 1 hts gX0_placeOfPhrase_X0_requireRow rfl rfl rfl hdX0_requireRow ⟨Nat.le_of_ble_eq_true rfl, Nat.le_of_ble_eq_true rfl⟩) (xS_pre hG) rfl rfl hl.1 rfl (lv_room (Nat.le_of_ble_eq_true rfl)) dX0_placeOfPhrase_1 ⟨Nat.le_of_ble_eq_true rfl, Nat.le_of_ble_eq_true rfl⟩) (fun ce q9 H1 hz hk hce hcv hcl => ?_)
    exact th_out hout hlocks hz hk hce hcv hcl (Nat.le_refl _) (Nat.le_refl _)

set_option maxHeartbeats 4000000 in
set_option maxRecDepth 100000 in
theorem mX0_placeOfPhrase_x2 (l : Launch) (hfl : l.stackTraces = false) (dC : Nat → ClassId) (dI : Nat → Nat → Nat) (o0 : Nat) (a0 a1 q : Nat → Nat) (w : Nat) (hp0 : Pm a0) (hp1 : Pm a1) (hw : w ≤ 12) (hq : ∀ i, i < w → q i < 12) (hqd : ∀ i j, i < w → j < w → q i = q j → i = j) (z0 z1 : Int) (hz0 : inI z0) (hz1 : inI z1) (hbad : (z0 = 0 ∨ z0 = 1) ∧ ¬ (0 ≤ z1 ∧ z1 ≤ 47)) : th l yX0_placeOfPhrase wsX0_placeOfPhrase { frames := 7, cells := 1, slots := 6, locals := 104 } [.ref o0, .int (iI z0), .int (iI z1)] (bX (dC, dI) [(o0, .inr (0, [.long (pk a0), .long (pk a1), .long (pkn q w), .int (iI ((w : Nat) : Int))]))] []) xIA := by
  refine vx_ofW (cc := cX0_placeOfPhrase) (maxL := 3) (ret := (some .int)) (by decide) rfl ?_
  intro P0 e s m args below meth c s₁ B hml hout hv
  obtain ⟨rfl, hP, hK, hG⟩ := hv
  have hx := B.exec
  have hb := B.bytes
  have hr := B.returns
  have hts := atoms_spec (ws := wsX0_placeOfPhrase) B.pre
  have hown : s.vm.findClass RX0 = some m.cls := findClass_of_methodNamed B.named
  have hlocks := B.notSynchronized
  have hl := lv_entry ([.ref o0, .int (iI z0), .int (iI z1)]) (n := 3) (Nat.le_of_ble_eq_true rfl)
  rw [lg_entry_eq]
  generalize (lg_sl ([.ref o0, .int (iI z0), .int (iI z1)]) ++ List.replicate (3 - (lg_sl ([.ref o0, .int (iI z0), .int (iI z1)])).length) Slot.unset).toArray = ls at hl ⊢
  have hl : lv_has ls 3 [(0, .ref o0), (1, .int (iI z0)), (2, .int (iI z1))] := hl
  have hza0 := hz0.1
  have hza1 := hz1.1
  have hzb0 := hz0.2
  have hzb1 := hz1.2
  refine lv_iload_n hx hb dX0_placeOfPhrase_0 rfl (lv_at hl 1 rfl) ?_
  by_cases c_1 : z0 = 0 ∨ z0 = 1
  · skip
    refine rd_call (va_runS (As := [.int (iI z0)]) (rest := []) ⟨hx, hb, hml, hown, hts⟩ (mX0_requireRow l z0 ⟨by omega, by omega⟩ (by omega)) (va_cwS 1 hts gX0_placeOfPhrase_X0_requireRow rfl rfl rfl hdX0_requireRow ⟨Nat.le_of_ble_eq_true rfl, Nat.le_of_ble_eq_true rfl⟩) tt_pre rfl rfl hl.1 rfl (lv_room (Nat.le_of_ble_eq_true rfl)) dX0_placeOfPhrase_1 ⟨Nat.le_of_ble_eq_true rfl, Nat.le_of_ble_eq_true rfl⟩) ?_
    refine lv_iload_n hx hb dX0_placeOfPhrase_4 rfl (lv_at hl 2 rfl) ?_
    refine ib_const hx hb dX0_placeOfPhrase_5 ?_
    refine ib_bi hx hb dX0_placeOfPhrase_6 (by decide) ?_
    by_cases c_8 : 0 ≤ z1 ∧ z1 ≤ 47
    · skip
      exfalso; omega
    · skip
      refine th_call (vx_runS (As := [.int (iI z1), .int (iI 0), .int (iI 47)]) (rest := []) ⟨hx, hb, hml, hown, hts⟩ (mX0_requireRange_b l hfl z1 0 47 ⟨by omega, by omega⟩ ⟨by omega, by omega⟩ ⟨by omega, by omega⟩ c_8) (va_cwS 3 hts gX0_placeOfPhrase_X0_requireRange rfl rfl rfl hdX0_requireRange ⟨Nat.le_of_ble_eq_true rfl, Nat.le_of_ble_eq_true rfl⟩) (xS_pre hG) rfl rfl hl.1 rfl (lv_room (Nat.le_of_ble_eq_true rfl)) dX0_placeOfPhrase_8 ⟨Nat.le_of_ble_eq_true rfl, Nat.le_of_ble_eq_true rfl⟩) (fun ce q9 H1 hz hk hce hcv hcl => ?_)
      exact th_out hout hlocks hz hk hce hcv hcl (Nat.le_refl _) (Nat.le_refl _)
  · skip
    exfalso; omega

set_option maxHeartbeats 4000000 in
set_option maxRecDepth 100000 in
theorem mX0_complete_x1 (l : Launch) (hfl : l.stackTraces = false) (dC : Nat → ClassId) (dI : Nat → Nat → Nat) (o0 : Nat) (a0 a1 q : Nat → Nat) (w : Nat) (hp0 : Pm a0) (hp1 : Pm a1) (hw : w ≤ 12) (hq : ∀ i, i < w → q i < 12) (hqd : ∀ i j, i < w → j < w → q i = q j → i = j) (z0 : Int) (hz0 : inI z0) (hbad : ¬ (z0 = 0 ∨ z0 = 1)) : th l yX0_complete wsX0_complete { frames := 7, cells := 1, slots := 6, locals := 102 } [.ref o0, .int (iI z0)] (bX (dC, dI) [(o0, .inr (0, [.long (pk a0), .long (pk a1), .long (pkn q w), .int (iI ((w : Nat) : Int))]))] []) xIO := by
  refine vx_ofW (cc := cX0_complete) (maxL := 9) (ret := (some .int)) (by decide) rfl ?_
  intro P0 e s m args below meth c s₁ B hml hout hv
  obtain ⟨rfl, hP, hK, hG⟩ := hv
  have hx := B.exec
  have hb := B.bytes
  have hr := B.returns
  have hts := atoms_spec (ws := wsX0_complete) B.pre
  have hown : s.vm.findClass RX0 = some m.cls := findClass_of_methodNamed B.named
  have hlocks := B.notSynchronized
  have hl := lv_entry ([.ref o0, .int (iI z0)]) (n := 9) (Nat.le_of_ble_eq_true rfl)
  rw [lg_entry_eq]
  generalize (lg_sl ([.ref o0, .int (iI z0)]) ++ List.replicate (9 - (lg_sl ([.ref o0, .int (iI z0)])).length) Slot.unset).toArray = ls at hl ⊢
  have hl : lv_has ls 9 [(0, .ref o0), (1, .int (iI z0))] := hl
  have hza0 := hz0.1
  have hzb0 := hz0.2
  refine lv_iload_n hx hb dX0_complete_0 rfl (lv_at hl 1 rfl) ?_
  by_cases c_1 : z0 = 0 ∨ z0 = 1
  · skip
    exfalso; omega
  · skip
    refine th_call (vx_runS (As := [.int (iI z0)]) (rest := []) ⟨hx, hb, hml, hown, hts⟩ (mX0_requireRow_b l hfl z0 ⟨by omega, by omega⟩ c_1) (va_cwS 1 hts gX0_complete_X0_requireRow rfl rfl rfl hdX0_requireRow ⟨Nat.le_of_ble_eq_true rfl, Nat.le_of_ble_eq_true rfl⟩) (xS_pre hG) rfl rfl hl.1 rfl (lv_room (Nat.le_of_ble_eq_true rfl)) dX0_complete_1 ⟨Nat.le_of_ble_eq_true rfl, Nat.le_of_ble_eq_true rfl⟩) (fun ce q9 H1 hz hk hce hcv hcl => ?_)
    exact th_out hout hlocks hz hk hce hcv hcl (Nat.le_refl _) (Nat.le_refl _)

set_option maxHeartbeats 4000000 in
set_option maxRecDepth 100000 in
theorem mX0_write_x2 (l : Launch) (hfl : l.stackTraces = false) (dC : Nat → ClassId) (dI : Nat → Nat → Nat) (o0 : Nat) (a0 a1 q : Nat → Nat) (w : Nat) (hp0 : Pm a0) (hp1 : Pm a1) (hw : w ≤ 12) (hq : ∀ i, i < w → q i < 12) (hqd : ∀ i j, i < w → j < w → q i = q j → i = j) (t : Nat) (ht : t < 12) (hwr : orN (wtB q t) w = true) : th l yX0_write wsX0_write { frames := 6, cells := 1, slots := 6, locals := 82 } [.ref o0, .int (iI ((t : Nat) : Int))] (bX (dC, dI) [(o0, .inr (0, [.long (pk a0), .long (pk a1), .long (pkn q w), .int (iI ((w : Nat) : Int))]))] []) xIS := by
  refine vx_ofW (cc := cX0_write) (maxL := 2) (ret := (some .int)) (by decide) rfl ?_
  intro P0 e s m args below meth c s₁ B hml hout hv
  obtain ⟨rfl, hP, hK, hG⟩ := hv
  have hx := B.exec
  have hb := B.bytes
  have hr := B.returns
  have hts := atoms_spec (ws := wsX0_write) B.pre
  have hown : s.vm.findClass RX0 = some m.cls := findClass_of_methodNamed B.named
  have hlocks := B.notSynchronized
  have hl := lv_entry ([.ref o0, .int (iI ((t : Nat) : Int))]) (n := 2) (Nat.le_of_ble_eq_true rfl)
  rw [lg_entry_eq]
  generalize (lg_sl ([.ref o0, .int (iI ((t : Nat) : Int))]) ++ List.replicate (2 - (lg_sl ([.ref o0, .int (iI ((t : Nat) : Int))])).length) Slot.unset).toArray = ls at hl ⊢
  have hl : lv_has ls 2 [(0, .ref o0), (1, .int (iI ((t : Nat) : Int)))] := hl
  refine lv_iload_n hx hb dX0_write_0 rfl (lv_at hl 1 rfl) ?_
  refine ib_const hx hb dX0_write_1 ?_
  refine ib_bi hx hb dX0_write_2 (by decide) ?_
  by_cases c_4 : 0 ≤ ((t : Nat) : Int) ∧ ((t : Nat) : Int) ≤ 11
  · skip
    refine rd_call (va_runS (As := [.int (iI ((t : Nat) : Int)), .int (iI 0), .int (iI 11)]) (rest := []) ⟨hx, hb, hml, hown, hts⟩ (mX0_requireRange l ((t : Nat) : Int) 0 11 ⟨by omega, by omega⟩ ⟨by omega, by omega⟩ ⟨by omega, by omega⟩ (by omega)) (va_cwS 3 hts gX0_write_X0_requireRange rfl rfl rfl hdX0_requireRange ⟨Nat.le_of_ble_eq_true rfl, Nat.le_of_ble_eq_true rfl⟩) tt_pre rfl rfl hl.1 rfl (lv_room (Nat.le_of_ble_eq_true rfl)) dX0_write_4 ⟨Nat.le_of_ble_eq_true rfl, Nat.le_of_ble_eq_true rfl⟩) ?_
    refine lv_aload_n hx hb dX0_write_7 rfl (lv_at hl 0 rfl) ?_
    refine lv_iload_n hx hb dX0_write_8 rfl (lv_at hl 1 rfl) ?_
    refine rd_call (va_runV (As := [.int (iI ((t : Nat) : Int))]) (rest := []) ⟨hx, hb, hml, hown, hts⟩ (mX0_phraseHas l dC dI o0 a0 a1 q w hp0 hp1 hw hq hqd t (by omega)) (cwV 1 hts gX0_write_X0_phraseHas rfl rfl rfl hvX0_phraseHas ⟨Nat.le_of_ble_eq_true rfl, Nat.le_of_ble_eq_true rfl⟩) (bW_pre (ci := 0) (q0 := 0) hK hP rfl rfl rfl) rfl rfl hl.1 rfl (lv_room (Nat.le_of_ble_eq_true rfl)) dX0_write_9 ⟨Nat.le_of_ble_eq_true rfl, Nat.le_of_ble_eq_true rfl⟩) ?_
    refine bb_eq (tgt := 25) hx hb dX0_write_12 (by decide) (fun c_12 => absurd c_12 (fun q9 => q9 hwr)) (fun c_12 => ?_)
    obtain ⟨sa, hsa⟩ := hG.str (k := 109) (t := "the phrase has this tone") (by decide +kernel)
    exact vx_throwS (own := RX0) (cls := "java/lang/IllegalStateException") (text := "the phrase has this tone") (names := xRN) (ik := 107) (is := 109) (ic := 111) (A := fun _ => False) hx hb hfl hown (by decide +kernel) (by decide +kernel) (hts _ (by decide +kernel)) (hts _ (by decide +kernel)) hsa (hG.words (fun w h => hts w (List.mem_cons_of_mem _ (List.mem_append_left _ (List.mem_append_right _ h)))) (by decide +kernel)) (by decide +kernel) hG.2.1 hG.2.2.1 va_S.rf (hl.1.trans hml.symm) dX0_write_15 dX0_write_18 dX0_write_19 dX0_write_21 dX0_write_24 (fun x h => (hout x h).elim) (Nat.le_of_ble_eq_true rfl) (Nat.le_of_ble_eq_true rfl) (Nat.le_of_ble_eq_true rfl) (Nat.le_of_ble_eq_true rfl) hlocks (fun t _ hz hk => ⟨rfl, hz, hk⟩) (fun _ h => nomatch h) (Nat.le_of_ble_eq_true rfl) (Nat.le_of_ble_eq_true rfl)
  · skip
    exfalso; omega
