set_option maxHeartbeats 4000000 in
set_option maxRecDepth 100000 in
theorem mX0_interval_ok (l : Launch) (dC : Nat → ClassId) (dI : Nat → Nat → Nat) (o0 : Nat) (a0 a1 q : Nat → Nat) (w : Nat) (hp0 : Pm a0) (hp1 : Pm a1) (hw : w ≤ 12) (hq : ∀ i, i < w → q i < 12) (hqd : ∀ i j, i < w → j < w → q i = q j → i = j) (r i : Nat) (hr9 : r < 2) (hi : i < 11) : rd l yX0_interval wsX0_interval { frames := 3, cells := 0, slots := 0, locals := 64 } [.ref o0, .int (iI ((r : Nat) : Int)), .int (iI ((i : Nat) : Int))] (bW (dC, dI) [(o0, .inr (0, [.long (pk a0), .long (pk a1), .long (pkn q w), .int (iI ((w : Nat) : Int))]))] []) (some (.int (iI ((md (((rw_ r a0 a1 (i + 1) : Nat) : Int) - ((rw_ r a0 a1 i : Nat) : Int)) : Nat) : Int)))) := by
  refine Met.ofW (cc := cX0_interval) (maxL := 3) (ret := (some .int)) (by decide) rfl ?_
  intro P0 e s m args below meth c s₁ B hml hv
  obtain ⟨rfl, hP, hK⟩ := hv
  have hx := B.exec
  have hb := B.bytes
  have hr := B.returns
  have hts := atoms_spec (ws := wsX0_interval) B.pre
  have hown : s.vm.findClass RX0 = some m.cls := findClass_of_methodNamed B.named
  have hlocks := B.notSynchronized
  have hl := lv_entry ([.ref o0, .int (iI ((r : Nat) : Int)), .int (iI ((i : Nat) : Int))]) (n := 3) (Nat.le_of_ble_eq_true rfl)
  rw [lg_entry_eq]
  generalize (lg_sl ([.ref o0, .int (iI ((r : Nat) : Int)), .int (iI ((i : Nat) : Int))]) ++ List.replicate (3 - (lg_sl ([.ref o0, .int (iI ((r : Nat) : Int)), .int (iI ((i : Nat) : Int))])).length) Slot.unset).toArray = ls at hl ⊢
  have hl : lv_has ls 3 [(0, .ref o0), (1, .int (iI ((r : Nat) : Int))), (2, .int (iI ((i : Nat) : Int)))] := hl
  have hR := rw_Pm hp0 hp1 r
  have hR1 := hR.1
  refine lv_iload_n hx hb dX0_interval_0 rfl (lv_at hl 1 rfl) ?_
  refine rd_call (va_runS (As := [.int (iI ((r : Nat) : Int))]) (rest := []) ⟨hx, hb, hml, hown, hts⟩ (mX0_requireRow l ((r : Nat) : Int) ⟨by omega, by omega⟩ (by omega)) (va_cwS 1 hts gX0_interval_X0_requireRow rfl rfl rfl hdX0_requireRow ⟨Nat.le_of_ble_eq_true rfl, Nat.le_of_ble_eq_true rfl⟩) tt_pre rfl rfl hl.1 rfl (lv_room (Nat.le_of_ble_eq_true rfl)) dX0_interval_1 ⟨Nat.le_of_ble_eq_true rfl, Nat.le_of_ble_eq_true rfl⟩) ?_
  refine lv_iload_n hx hb dX0_interval_4 rfl (lv_at hl 2 rfl) ?_
  refine ib_bi hx hb dX0_interval_5 (by decide) ?_
  refine rd_call (va_runS (As := [.int (iI ((i : Nat) : Int)), .int (iI 10)]) (rest := []) ⟨hx, hb, hml, hown, hts⟩ (mX0_requirePlace l ((i : Nat) : Int) 10 ⟨by omega, by omega⟩ ⟨by omega, by omega⟩ (by omega)) (va_cwS 2 hts gX0_interval_X0_requirePlace rfl rfl rfl hdX0_requirePlace ⟨Nat.le_of_ble_eq_true rfl, Nat.le_of_ble_eq_true rfl⟩) tt_pre rfl rfl hl.1 rfl (lv_room (Nat.le_of_ble_eq_true rfl)) dX0_interval_7 ⟨Nat.le_of_ble_eq_true rfl, Nat.le_of_ble_eq_true rfl⟩) ?_
  refine lv_aload_n hx hb dX0_interval_10 rfl (lv_at hl 0 rfl) ?_
  refine lv_iload_n hx hb dX0_interval_11 rfl (lv_at hl 1 rfl) ?_
  refine rd_call (va_runV (As := [.int (iI ((r : Nat) : Int))]) (rest := []) ⟨hx, hb, hml, hown, hts⟩ (mX0_rowAt l dC dI o0 a0 a1 q w hp0 hp1 hw hq hqd r (by omega)) (cwV 1 hts gX0_interval_X0_rowAt rfl rfl rfl hvX0_rowAt ⟨Nat.le_of_ble_eq_true rfl, Nat.le_of_ble_eq_true rfl⟩) (bW_pre (ci := 0) (q0 := 0) hK hP rfl rfl rfl) rfl rfl hl.1 rfl (lv_room (Nat.le_of_ble_eq_true rfl)) dX0_interval_12 ⟨Nat.le_of_ble_eq_true rfl, Nat.le_of_ble_eq_true rfl⟩) ?_
  refine lv_iload_n hx hb dX0_interval_15 rfl (lv_at hl 2 rfl) ?_
  refine rd_call (va_runS (As := [.long (pk (rw_ r a0 a1)), .int (iI ((i : Nat) : Int))]) (rest := []) ⟨hx, hb, hml, hown, hts⟩ (mX0_intervalAt l (pk (rw_ r a0 a1)) i (by omega)) (va_cwS 2 hts gX0_interval_X0_intervalAt rfl rfl rfl hdX0_intervalAt ⟨Nat.le_of_ble_eq_true rfl, Nat.le_of_ble_eq_true rfl⟩) tt_pre rfl rfl hl.1 rfl (lv_room (Nat.le_of_ble_eq_true rfl)) dX0_interval_16 ⟨Nat.le_of_ble_eq_true rfl, Nat.le_of_ble_eq_true rfl⟩) ?_
  have hm_16 := md_lt (((ent (pk (rw_ r a0 a1)) (i + 1) : Nat) : Int) - ((ent (pk (rw_ r a0 a1)) i : Nat) : Int))
  refine st_i (y := iI ((md (((rw_ r a0 a1 (i + 1) : Nat) : Int) - ((rw_ r a0 a1 i : Nat) : Int)) : Nat) : Int)) (congrArg (fun z : Int => iI ((md z : Nat) : Int)) (by rw [ent_pk hR1 (j := i + 1) (by omega), ent_pk hR1 (j := i) (by omega)])) ?_
  exact W.iret hx hb hr (fun t ht _ => ⟨rfl, ht⟩) (fun _ h => nomatch h) dX0_interval_19

set_option maxHeartbeats 4000000 in
set_option maxRecDepth 100000 in
theorem mX0_toneOf_ok (l : Launch) (dC : Nat → ClassId) (dI : Nat → Nat → Nat) (o0 : Nat) (a0 a1 q : Nat → Nat) (w : Nat) (hp0 : Pm a0) (hp1 : Pm a1) (hw : w ≤ 12) (hq : ∀ i, i < w → q i < 12) (hqd : ∀ i j, i < w → j < w → q i = q j → i = j) (r k i j : Nat) (hr9 : r < 2) (hk : k < 4) (hi : i < 12) (hj : j < 12) : rd l yX0_toneOf wsX0_toneOf { frames := 3, cells := 0, slots := 0, locals := 74 } [.ref o0, .int (iI ((r : Nat) : Int)), .int (iI ((k : Nat) : Int)), .int (iI ((i : Nat) : Int)), .int (iI ((j : Nat) : Int))] (bW (dC, dI) [(o0, .inr (0, [.long (pk a0), .long (pk a1), .long (pkn q w), .int (iI ((w : Nat) : Int))]))] []) (some (.int (iI ((fm (rw_ r a0 a1) (12 * k + i) j : Nat) : Int)))) := by
  refine Met.ofW (cc := cX0_toneOf) (maxL := 5) (ret := (some .int)) (by decide) rfl ?_
  intro P0 e s m args below meth c s₁ B hml hv
  obtain ⟨rfl, hP, hK⟩ := hv
  have hx := B.exec
  have hb := B.bytes
  have hr := B.returns
  have hts := atoms_spec (ws := wsX0_toneOf) B.pre
  have hown : s.vm.findClass RX0 = some m.cls := findClass_of_methodNamed B.named
  have hlocks := B.notSynchronized
  have hl := lv_entry ([.ref o0, .int (iI ((r : Nat) : Int)), .int (iI ((k : Nat) : Int)), .int (iI ((i : Nat) : Int)), .int (iI ((j : Nat) : Int))]) (n := 5) (Nat.le_of_ble_eq_true rfl)
  rw [lg_entry_eq]
  generalize (lg_sl ([.ref o0, .int (iI ((r : Nat) : Int)), .int (iI ((k : Nat) : Int)), .int (iI ((i : Nat) : Int)), .int (iI ((j : Nat) : Int))]) ++ List.replicate (5 - (lg_sl ([.ref o0, .int (iI ((r : Nat) : Int)), .int (iI ((k : Nat) : Int)), .int (iI ((i : Nat) : Int)), .int (iI ((j : Nat) : Int))])).length) Slot.unset).toArray = ls at hl ⊢
  have hl : lv_has ls 5 [(0, .ref o0), (1, .int (iI ((r : Nat) : Int))), (2, .int (iI ((k : Nat) : Int))), (3, .int (iI ((i : Nat) : Int))), (4, .int (iI ((j : Nat) : Int)))] := hl
  have hR := rw_Pm hp0 hp1 r
  have hR1 := hR.1
  refine lv_iload_n hx hb dX0_toneOf_0 rfl (lv_at hl 1 rfl) ?_
  refine rd_call (va_runS (As := [.int (iI ((r : Nat) : Int))]) (rest := []) ⟨hx, hb, hml, hown, hts⟩ (mX0_requireRow l ((r : Nat) : Int) ⟨by omega, by omega⟩ (by omega)) (va_cwS 1 hts gX0_toneOf_X0_requireRow rfl rfl rfl hdX0_requireRow ⟨Nat.le_of_ble_eq_true rfl, Nat.le_of_ble_eq_true rfl⟩) tt_pre rfl rfl hl.1 rfl (lv_room (Nat.le_of_ble_eq_true rfl)) dX0_toneOf_1 ⟨Nat.le_of_ble_eq_true rfl, Nat.le_of_ble_eq_true rfl⟩) ?_
  refine lv_iload hx hb dX0_toneOf_4 (lv_at hl 4 rfl) ?_
  refine ib_bi hx hb dX0_toneOf_6 (by decide) ?_
  refine rd_call (va_runS (As := [.int (iI ((j : Nat) : Int)), .int (iI 11)]) (rest := []) ⟨hx, hb, hml, hown, hts⟩ (mX0_requirePlace l ((j : Nat) : Int) 11 ⟨by omega, by omega⟩ ⟨by omega, by omega⟩ (by omega)) (va_cwS 2 hts gX0_toneOf_X0_requirePlace rfl rfl rfl hdX0_requirePlace ⟨Nat.le_of_ble_eq_true rfl, Nat.le_of_ble_eq_true rfl⟩) tt_pre rfl rfl hl.1 rfl (lv_room (Nat.le_of_ble_eq_true rfl)) dX0_toneOf_8 ⟨Nat.le_of_ble_eq_true rfl, Nat.le_of_ble_eq_true rfl⟩) ?_
  refine lv_iload_n hx hb dX0_toneOf_11 rfl (lv_at hl 2 rfl) ?_
  refine lv_iload_n hx hb dX0_toneOf_12 rfl (lv_at hl 3 rfl) ?_
  refine rd_call (va_runS (As := [.int (iI ((k : Nat) : Int)), .int (iI ((i : Nat) : Int))]) (rest := []) ⟨hx, hb, hml, hown, hts⟩ (mX0_requireForm l ((k : Nat) : Int) ((i : Nat) : Int) ⟨by omega, by omega⟩ ⟨by omega, by omega⟩ (by omega)) (va_cwS 2 hts gX0_toneOf_X0_requireForm rfl rfl rfl hdX0_requireForm ⟨Nat.le_of_ble_eq_true rfl, Nat.le_of_ble_eq_true rfl⟩) tt_pre rfl rfl hl.1 rfl (lv_room (Nat.le_of_ble_eq_true rfl)) dX0_toneOf_13 ⟨Nat.le_of_ble_eq_true rfl, Nat.le_of_ble_eq_true rfl⟩) ?_
  refine lv_aload_n hx hb dX0_toneOf_16 rfl (lv_at hl 0 rfl) ?_
  refine lv_iload_n hx hb dX0_toneOf_17 rfl (lv_at hl 1 rfl) ?_
  refine rd_call (va_runV (As := [.int (iI ((r : Nat) : Int))]) (rest := []) ⟨hx, hb, hml, hown, hts⟩ (mX0_rowAt l dC dI o0 a0 a1 q w hp0 hp1 hw hq hqd r (by omega)) (cwV 1 hts gX0_toneOf_X0_rowAt rfl rfl rfl hvX0_rowAt ⟨Nat.le_of_ble_eq_true rfl, Nat.le_of_ble_eq_true rfl⟩) (bW_pre (ci := 0) (q0 := 0) hK hP rfl rfl rfl) rfl rfl hl.1 rfl (lv_room (Nat.le_of_ble_eq_true rfl)) dX0_toneOf_18 ⟨Nat.le_of_ble_eq_true rfl, Nat.le_of_ble_eq_true rfl⟩) ?_
  refine lv_iload_n hx hb dX0_toneOf_21 rfl (lv_at hl 2 rfl) ?_
  refine lv_iload_n hx hb dX0_toneOf_22 rfl (lv_at hl 3 rfl) ?_
  refine rd_call (va_runS (As := [.int (iI ((k : Nat) : Int)), .int (iI ((i : Nat) : Int))]) (rest := [.long (pk (rw_ r a0 a1))]) ⟨hx, hb, hml, hown, hts⟩ (mX0_codeOf l k i) (va_cwS 2 hts gX0_toneOf_X0_codeOf rfl rfl rfl hdX0_codeOf ⟨Nat.le_of_ble_eq_true rfl, Nat.le_of_ble_eq_true rfl⟩) tt_pre rfl rfl hl.1 rfl (lv_room (Nat.le_of_ble_eq_true rfl)) dX0_toneOf_23 ⟨Nat.le_of_ble_eq_true rfl, Nat.le_of_ble_eq_true rfl⟩) ?_
  refine rd_call (va_runS (As := [.long (pk (rw_ r a0 a1)), .int (iI ((12 * k + i : Nat) : Int))]) (rest := []) ⟨hx, hb, hml, hown, hts⟩ (mX0_formWith l (pk (rw_ r a0 a1)) (12 * k + i) (by omega)) (va_cwS 2 hts gX0_toneOf_X0_formWith rfl rfl rfl hdX0_formWith ⟨Nat.le_of_ble_eq_true rfl, Nat.le_of_ble_eq_true rfl⟩) tt_pre rfl rfl hl.1 rfl (lv_room (Nat.le_of_ble_eq_true rfl)) dX0_toneOf_26 ⟨Nat.le_of_ble_eq_true rfl, Nat.le_of_ble_eq_true rfl⟩) ?_
  refine st_l (y := pk (fm (rw_ r a0 a1) (12 * k + i))) (fw_pk hR1 (by omega)) ?_
  refine lv_iload hx hb dX0_toneOf_29 (lv_at hl 4 rfl) ?_
  refine rd_call (va_runS (As := [.long (pk (fm (rw_ r a0 a1) (12 * k + i))), .int (iI ((j : Nat) : Int))]) (rest := []) ⟨hx, hb, hml, hown, hts⟩ (mX0_entryAt l (pk (fm (rw_ r a0 a1) (12 * k + i))) j (by omega)) (va_cwS 2 hts gX0_toneOf_X0_entryAt rfl rfl rfl hdX0_entryAt ⟨Nat.le_of_ble_eq_true rfl, Nat.le_of_ble_eq_true rfl⟩) tt_pre rfl rfl hl.1 rfl (lv_room (Nat.le_of_ble_eq_true rfl)) dX0_toneOf_31 ⟨Nat.le_of_ble_eq_true rfl, Nat.le_of_ble_eq_true rfl⟩) ?_
  have he_31 := ent_lt (pk (fm (rw_ r a0 a1) (12 * k + i))) j
  refine st_i (y := iI ((fm (rw_ r a0 a1) (12 * k + i) j : Nat) : Int)) (congrArg (fun z : Nat => iI ((z : Nat) : Int)) (ent_pk (fm_lt12 _ _) hj)) ?_
  exact W.iret hx hb hr (fun t ht _ => ⟨rfl, ht⟩) (fun _ h => nomatch h) dX0_toneOf_34

set_option maxHeartbeats 4000000 in
set_option maxRecDepth 100000 in
theorem mX0_matrix_ok (l : Launch) (dC : Nat → ClassId) (dI : Nat → Nat → Nat) (o0 : Nat) (a0 a1 q : Nat → Nat) (w : Nat) (hp0 : Pm a0) (hp1 : Pm a1) (hw : w ≤ 12) (hq : ∀ i, i < w → q i < 12) (hqd : ∀ i j, i < w → j < w → q i = q j → i = j) (r i j : Nat) (hr9 : r < 2) (hi : i < 12) (hj : j < 12) : rd l yX0_matrix wsX0_matrix { frames := 2, cells := 0, slots := 0, locals := 42 } [.ref o0, .int (iI ((r : Nat) : Int)), .int (iI ((i : Nat) : Int)), .int (iI ((j : Nat) : Int))] (bW (dC, dI) [(o0, .inr (0, [.long (pk a0), .long (pk a1), .long (pkn q w), .int (iI ((w : Nat) : Int))]))] []) (some (.int (iI ((fm (rw_ r a0 a1) (12 * 0 + fm (rw_ r a0 a1) (12 * 1 + rw_ r a0 a1 0) i) j : Nat) : Int)))) := by
  refine Met.ofW (cc := cX0_matrix) (maxL := 8) (ret := (some .int)) (by decide) rfl ?_
  intro P0 e s m args below meth c s₁ B hml hv
  obtain ⟨rfl, hP, hK⟩ := hv
  have hx := B.exec
  have hb := B.bytes
  have hr := B.returns
  have hts := atoms_spec (ws := wsX0_matrix) B.pre
  have hown : s.vm.findClass RX0 = some m.cls := findClass_of_methodNamed B.named
  have hlocks := B.notSynchronized
  have hl := lv_entry ([.ref o0, .int (iI ((r : Nat) : Int)), .int (iI ((i : Nat) : Int)), .int (iI ((j : Nat) : Int))]) (n := 8) (Nat.le_of_ble_eq_true rfl)
  rw [lg_entry_eq]
  generalize (lg_sl ([.ref o0, .int (iI ((r : Nat) : Int)), .int (iI ((i : Nat) : Int)), .int (iI ((j : Nat) : Int))]) ++ List.replicate (8 - (lg_sl ([.ref o0, .int (iI ((r : Nat) : Int)), .int (iI ((i : Nat) : Int)), .int (iI ((j : Nat) : Int))])).length) Slot.unset).toArray = ls at hl ⊢
  have hl : lv_has ls 8 [(0, .ref o0), (1, .int (iI ((r : Nat) : Int))), (2, .int (iI ((i : Nat) : Int))), (3, .int (iI ((j : Nat) : Int)))] := hl
  have hR := rw_Pm hp0 hp1 r
  have hR1 := hR.1
  have h9a := hR1 0 (by decide)
  have h9b := hR1 i hi
  have h9c := hR1 j hj
  refine lv_iload_n hx hb dX0_matrix_0 rfl (lv_at hl 1 rfl) ?_
  refine rd_call (va_runS (As := [.int (iI ((r : Nat) : Int))]) (rest := []) ⟨hx, hb, hml, hown, hts⟩ (mX0_requireRow l ((r : Nat) : Int) ⟨by omega, by omega⟩ (by omega)) (va_cwS 1 hts gX0_matrix_X0_requireRow rfl rfl rfl hdX0_requireRow ⟨Nat.le_of_ble_eq_true rfl, Nat.le_of_ble_eq_true rfl⟩) tt_pre rfl rfl hl.1 rfl (lv_room (Nat.le_of_ble_eq_true rfl)) dX0_matrix_1 ⟨Nat.le_of_ble_eq_true rfl, Nat.le_of_ble_eq_true rfl⟩) ?_
  refine lv_iload_n hx hb dX0_matrix_4 rfl (lv_at hl 2 rfl) ?_
  refine ib_bi hx hb dX0_matrix_5 (by decide) ?_
  refine rd_call (va_runS (As := [.int (iI ((i : Nat) : Int)), .int (iI 11)]) (rest := []) ⟨hx, hb, hml, hown, hts⟩ (mX0_requirePlace l ((i : Nat) : Int) 11 ⟨by omega, by omega⟩ ⟨by omega, by omega⟩ (by omega)) (va_cwS 2 hts gX0_matrix_X0_requirePlace rfl rfl rfl hdX0_requirePlace ⟨Nat.le_of_ble_eq_true rfl, Nat.le_of_ble_eq_true rfl⟩) tt_pre rfl rfl hl.1 rfl (lv_room (Nat.le_of_ble_eq_true rfl)) dX0_matrix_7 ⟨Nat.le_of_ble_eq_true rfl, Nat.le_of_ble_eq_true rfl⟩) ?_
  refine lv_iload_n hx hb dX0_matrix_10 rfl (lv_at hl 3 rfl) ?_
  refine ib_bi hx hb dX0_matrix_11 (by decide) ?_
  refine rd_call (va_runS (As := [.int (iI ((j : Nat) : Int)), .int (iI 11)]) (rest := []) ⟨hx, hb, hml, hown, hts⟩ (mX0_requirePlace l ((j : Nat) : Int) 11 ⟨by omega, by omega⟩ ⟨by omega, by omega⟩ (by omega)) (va_cwS 2 hts gX0_matrix_X0_requirePlace rfl rfl rfl hdX0_requirePlace ⟨Nat.le_of_ble_eq_true rfl, Nat.le_of_ble_eq_true rfl⟩) tt_pre rfl rfl hl.1 rfl (lv_room (Nat.le_of_ble_eq_true rfl)) dX0_matrix_13 ⟨Nat.le_of_ble_eq_true rfl, Nat.le_of_ble_eq_true rfl⟩) ?_
  refine lv_aload_n hx hb dX0_matrix_16 rfl (lv_at hl 0 rfl) ?_
  refine lv_iload_n hx hb dX0_matrix_17 rfl (lv_at hl 1 rfl) ?_
  refine rd_call (va_runV (As := [.int (iI ((r : Nat) : Int))]) (rest := []) ⟨hx, hb, hml, hown, hts⟩ (mX0_rowAt l dC dI o0 a0 a1 q w hp0 hp1 hw hq hqd r (by omega)) (cwV 1 hts gX0_matrix_X0_rowAt rfl rfl rfl hvX0_rowAt ⟨Nat.le_of_ble_eq_true rfl, Nat.le_of_ble_eq_true rfl⟩) (bW_pre (ci := 0) (q0 := 0) hK hP rfl rfl rfl) rfl rfl hl.1 rfl (lv_room (Nat.le_of_ble_eq_true rfl)) dX0_matrix_18 ⟨Nat.le_of_ble_eq_true rfl, Nat.le_of_ble_eq_true rfl⟩) ?_
  refine lv_lstore (lv' := [(4, .long (pk (rw_ r a0 a1))), (0, .ref o0), (1, .int (iI ((r : Nat) : Int))), (2, .int (iI ((i : Nat) : Int))), (3, .int (iI ((j : Nat) : Int)))]) hx hb dX0_matrix_21 hl (by decide) rfl (fun ls hl => ?_)
  refine lv_lload hx hb dX0_matrix_23 (lv_at hl 0 rfl) ?_
  refine ib_const hx hb dX0_matrix_25 ?_
  refine rd_call (va_runS (As := [.long (pk (rw_ r a0 a1)), .int (iI 0)]) (rest := []) ⟨hx, hb, hml, hown, hts⟩ (mX0_entryAt l (pk (rw_ r a0 a1)) 0 (by omega)) (va_cwS 2 hts gX0_matrix_X0_entryAt rfl rfl rfl hdX0_entryAt ⟨Nat.le_of_ble_eq_true rfl, Nat.le_of_ble_eq_true rfl⟩) tt_pre rfl rfl hl.1 rfl (lv_room (Nat.le_of_ble_eq_true rfl)) dX0_matrix_26 ⟨Nat.le_of_ble_eq_true rfl, Nat.le_of_ble_eq_true rfl⟩) ?_
  have he_26 := ent_lt (pk (rw_ r a0 a1)) 0
  refine st_i (y := iI ((rw_ r a0 a1 0 : Nat) : Int)) (congrArg (fun z : Nat => iI ((z : Nat) : Int)) (ent_pk hR1 (by decide))) ?_
  refine lv_istore (lv' := [(6, .int (iI ((rw_ r a0 a1 0 : Nat) : Int))), (4, .long (pk (rw_ r a0 a1))), (0, .ref o0), (1, .int (iI ((r : Nat) : Int))), (2, .int (iI ((i : Nat) : Int))), (3, .int (iI ((j : Nat) : Int)))]) hx hb dX0_matrix_29 hl (by decide) rfl (fun ls hl => ?_)
  refine lv_iload hx hb dX0_matrix_31 (lv_at hl 0 rfl) ?_
  refine lv_lload hx hb dX0_matrix_33 (lv_at hl 1 rfl) ?_
  refine lv_iload_n hx hb dX0_matrix_35 rfl (lv_at hl 4 rfl) ?_
  refine rd_call (va_runS (As := [.long (pk (rw_ r a0 a1)), .int (iI ((i : Nat) : Int))]) (rest := [.int (iI ((rw_ r a0 a1 0 : Nat) : Int))]) ⟨hx, hb, hml, hown, hts⟩ (mX0_entryAt l (pk (rw_ r a0 a1)) i (by omega)) (va_cwS 2 hts gX0_matrix_X0_entryAt rfl rfl rfl hdX0_entryAt ⟨Nat.le_of_ble_eq_true rfl, Nat.le_of_ble_eq_true rfl⟩) tt_pre rfl rfl hl.1 rfl (lv_room (Nat.le_of_ble_eq_true rfl)) dX0_matrix_36 ⟨Nat.le_of_ble_eq_true rfl, Nat.le_of_ble_eq_true rfl⟩) ?_
  have he_36 := ent_lt (pk (rw_ r a0 a1)) i
  refine st_i (y := iI ((rw_ r a0 a1 i : Nat) : Int)) (congrArg (fun z : Nat => iI ((z : Nat) : Int)) (ent_pk hR1 hi)) ?_
  refine ib_sub (z := ((rw_ r a0 a1 0 : Nat) : Int) - ((rw_ r a0 a1 i : Nat) : Int)) hx hb dX0_matrix_39 (by omega) ?_
  refine lv_iload hx hb dX0_matrix_40 (lv_at hl 0 rfl) ?_
  refine ib_add (z := (((rw_ r a0 a1 0 : Nat) : Int) - ((rw_ r a0 a1 i : Nat) : Int)) + ((rw_ r a0 a1 0 : Nat) : Int)) hx hb dX0_matrix_42 (by omega) ?_
  refine rd_call (va_runS (As := [.int (iI ((((rw_ r a0 a1 0 : Nat) : Int) - ((rw_ r a0 a1 i : Nat) : Int)) + ((rw_ r a0 a1 0 : Nat) : Int)))]) (rest := []) ⟨hx, hb, hml, hown, hts⟩ (mX0_wrap l ((((rw_ r a0 a1 0 : Nat) : Int) - ((rw_ r a0 a1 i : Nat) : Int)) + ((rw_ r a0 a1 0 : Nat) : Int)) ⟨by omega, by omega⟩) (va_cwS 1 hts gX0_matrix_X0_wrap rfl rfl rfl hdX0_wrap ⟨Nat.le_of_ble_eq_true rfl, Nat.le_of_ble_eq_true rfl⟩) tt_pre rfl rfl hl.1 rfl (lv_room (Nat.le_of_ble_eq_true rfl)) dX0_matrix_43 ⟨Nat.le_of_ble_eq_true rfl, Nat.le_of_ble_eq_true rfl⟩) ?_
  have hm_43 := md_lt ((((rw_ r a0 a1 0 : Nat) : Int) - ((rw_ r a0 a1 i : Nat) : Int)) + ((rw_ r a0 a1 0 : Nat) : Int))
  refine lv_istore (lv' := [(7, .int (iI ((md ((((rw_ r a0 a1 0 : Nat) : Int) - ((rw_ r a0 a1 i : Nat) : Int)) + ((rw_ r a0 a1 0 : Nat) : Int)) : Nat) : Int))), (6, .int (iI ((rw_ r a0 a1 0 : Nat) : Int))), (4, .long (pk (rw_ r a0 a1))), (0, .ref o0), (1, .int (iI ((r : Nat) : Int))), (2, .int (iI ((i : Nat) : Int))), (3, .int (iI ((j : Nat) : Int)))]) hx hb dX0_matrix_46 hl (by decide) rfl (fun ls hl => ?_)
  refine lv_lload hx hb dX0_matrix_48 (lv_at hl 2 rfl) ?_
  refine lv_iload_n hx hb dX0_matrix_50 rfl (lv_at hl 6 rfl) ?_
  refine rd_call (va_runS (As := [.long (pk (rw_ r a0 a1)), .int (iI ((j : Nat) : Int))]) (rest := []) ⟨hx, hb, hml, hown, hts⟩ (mX0_entryAt l (pk (rw_ r a0 a1)) j (by omega)) (va_cwS 2 hts gX0_matrix_X0_entryAt rfl rfl rfl hdX0_entryAt ⟨Nat.le_of_ble_eq_true rfl, Nat.le_of_ble_eq_true rfl⟩) tt_pre rfl rfl hl.1 rfl (lv_room (Nat.le_of_ble_eq_true rfl)) dX0_matrix_51 ⟨Nat.le_of_ble_eq_true rfl, Nat.le_of_ble_eq_true rfl⟩) ?_
  have he_51 := ent_lt (pk (rw_ r a0 a1)) j
  refine st_i (y := iI ((rw_ r a0 a1 j : Nat) : Int)) (congrArg (fun z : Nat => iI ((z : Nat) : Int)) (ent_pk hR1 hj)) ?_
  refine lv_iload hx hb dX0_matrix_54 (lv_at hl 1 rfl) ?_
  refine ib_sub (z := ((rw_ r a0 a1 j : Nat) : Int) - ((rw_ r a0 a1 0 : Nat) : Int)) hx hb dX0_matrix_56 (by omega) ?_
  refine lv_iload hx hb dX0_matrix_57 (lv_at hl 0 rfl) ?_
  refine ib_add (z := (((rw_ r a0 a1 j : Nat) : Int) - ((rw_ r a0 a1 0 : Nat) : Int)) + ((md ((((rw_ r a0 a1 0 : Nat) : Int) - ((rw_ r a0 a1 i : Nat) : Int)) + ((rw_ r a0 a1 0 : Nat) : Int)) : Nat) : Int)) hx hb dX0_matrix_59 (by omega) ?_
  refine rd_call (va_runS (As := [.int (iI ((((rw_ r a0 a1 j : Nat) : Int) - ((rw_ r a0 a1 0 : Nat) : Int)) + ((md ((((rw_ r a0 a1 0 : Nat) : Int) - ((rw_ r a0 a1 i : Nat) : Int)) + ((rw_ r a0 a1 0 : Nat) : Int)) : Nat) : Int)))]) (rest := []) ⟨hx, hb, hml, hown, hts⟩ (mX0_wrap l ((((rw_ r a0 a1 j : Nat) : Int) - ((rw_ r a0 a1 0 : Nat) : Int)) + ((md ((((rw_ r a0 a1 0 : Nat) : Int) - ((rw_ r a0 a1 i : Nat) : Int)) + ((rw_ r a0 a1 0 : Nat) : Int)) : Nat) : Int)) ⟨by omega, by omega⟩) (va_cwS 1 hts gX0_matrix_X0_wrap rfl rfl rfl hdX0_wrap ⟨Nat.le_of_ble_eq_true rfl, Nat.le_of_ble_eq_true rfl⟩) tt_pre rfl rfl hl.1 rfl (lv_room (Nat.le_of_ble_eq_true rfl)) dX0_matrix_60 ⟨Nat.le_of_ble_eq_true rfl, Nat.le_of_ble_eq_true rfl⟩) ?_
  have hm_60 := md_lt ((((rw_ r a0 a1 j : Nat) : Int) - ((rw_ r a0 a1 0 : Nat) : Int)) + ((md ((((rw_ r a0 a1 0 : Nat) : Int) - ((rw_ r a0 a1 i : Nat) : Int)) + ((rw_ r a0 a1 0 : Nat) : Int)) : Nat) : Int))
  refine st_i (y := iI ((fm (rw_ r a0 a1) (12 * 0 + fm (rw_ r a0 a1) (12 * 1 + rw_ r a0 a1 0) i) j : Nat) : Int)) (congrArg (fun z : Nat => iI ((z : Nat) : Int)) (mat_fm hR1 hi hj).symm) ?_
  exact W.iret hx hb hr (fun t ht _ => ⟨rfl, ht⟩) (fun _ h => nomatch h) dX0_matrix_63

set_option maxHeartbeats 4000000 in
set_option maxRecDepth 100000 in
theorem mX0_differentForms_ok (l : Launch) (dC : Nat → ClassId) (dI : Nat → Nat → Nat) (o0 : Nat) (a0 a1 q : Nat → Nat) (w : Nat) (hp0 : Pm a0) (hp1 : Pm a1) (hw : w ≤ 12) (hq : ∀ i, i < w → q i < 12) (hqd : ∀ i j, i < w → j < w → q i = q j → i = j) (r : Nat) (hr9 : r < 2) : rd l yX0_differentForms wsX0_differentForms { frames := 3, cells := 0, slots := 0, locals := 74 } [.ref o0, .int (iI ((r : Nat) : Int))] (bW (dC, dI) [(o0, .inr (0, [.long (pk a0), .long (pk a1), .long (pkn q w), .int (iI ((w : Nat) : Int))]))] []) (some (.int (iI ((dfN (rw_ r a0 a1) 48 : Nat) : Int)))) := by
  refine Met.ofW (cc := cX0_differentForms) (maxL := 7) (ret := (some .int)) (by decide) rfl ?_
  intro P0 e s m args below meth c s₁ B hml hv
  obtain ⟨rfl, hP, hK⟩ := hv
  have hx := B.exec
  have hb := B.bytes
  have hr := B.returns
  have hts := atoms_spec (ws := wsX0_differentForms) B.pre
  have hown : s.vm.findClass RX0 = some m.cls := findClass_of_methodNamed B.named
  have hlocks := B.notSynchronized
  have hl := lv_entry ([.ref o0, .int (iI ((r : Nat) : Int))]) (n := 7) (Nat.le_of_ble_eq_true rfl)
  rw [lg_entry_eq]
  generalize (lg_sl ([.ref o0, .int (iI ((r : Nat) : Int))]) ++ List.replicate (7 - (lg_sl ([.ref o0, .int (iI ((r : Nat) : Int))])).length) Slot.unset).toArray = ls at hl ⊢
  have hl : lv_has ls 7 [(0, .ref o0), (1, .int (iI ((r : Nat) : Int)))] := hl
  have hR := rw_Pm hp0 hp1 r
  have hR1 := hR.1
  refine lv_iload_n hx hb dX0_differentForms_0 rfl (lv_at hl 1 rfl) ?_
  refine rd_call (va_runS (As := [.int (iI ((r : Nat) : Int))]) (rest := []) ⟨hx, hb, hml, hown, hts⟩ (mX0_requireRow l ((r : Nat) : Int) ⟨by omega, by omega⟩ (by omega)) (va_cwS 1 hts gX0_differentForms_X0_requireRow rfl rfl rfl hdX0_requireRow ⟨Nat.le_of_ble_eq_true rfl, Nat.le_of_ble_eq_true rfl⟩) tt_pre rfl rfl hl.1 rfl (lv_room (Nat.le_of_ble_eq_true rfl)) dX0_differentForms_1 ⟨Nat.le_of_ble_eq_true rfl, Nat.le_of_ble_eq_true rfl⟩) ?_
  refine lv_aload_n hx hb dX0_differentForms_4 rfl (lv_at hl 0 rfl) ?_
  refine lv_iload_n hx hb dX0_differentForms_5 rfl (lv_at hl 1 rfl) ?_
  refine rd_call (va_runV (As := [.int (iI ((r : Nat) : Int))]) (rest := []) ⟨hx, hb, hml, hown, hts⟩ (mX0_rowAt l dC dI o0 a0 a1 q w hp0 hp1 hw hq hqd r (by omega)) (cwV 1 hts gX0_differentForms_X0_rowAt rfl rfl rfl hvX0_rowAt ⟨Nat.le_of_ble_eq_true rfl, Nat.le_of_ble_eq_true rfl⟩) (bW_pre (ci := 0) (q0 := 0) hK hP rfl rfl rfl) rfl rfl hl.1 rfl (lv_room (Nat.le_of_ble_eq_true rfl)) dX0_differentForms_6 ⟨Nat.le_of_ble_eq_true rfl, Nat.le_of_ble_eq_true rfl⟩) ?_
  refine lv_lstore_n (lv' := [(2, .long (pk (rw_ r a0 a1))), (0, .ref o0), (1, .int (iI ((r : Nat) : Int)))]) hx hb dX0_differentForms_9 rfl hl (by decide) rfl (fun ls hl => ?_)
  refine lv_lload_n hx hb dX0_differentForms_10 rfl (lv_at hl 0 rfl) ?_
  refine ib_const hx hb dX0_differentForms_11 ?_
  refine ib_const hx hb dX0_differentForms_12 ?_
  refine rd_call (va_runS (As := [.int (iI 0), .int (iI 0)]) (rest := [.long (pk (rw_ r a0 a1))]) ⟨hx, hb, hml, hown, hts⟩ (mX0_codeOf l 0 0) (va_cwS 2 hts gX0_differentForms_X0_codeOf rfl rfl rfl hdX0_codeOf ⟨Nat.le_of_ble_eq_true rfl, Nat.le_of_ble_eq_true rfl⟩) tt_pre rfl rfl hl.1 rfl (lv_room (Nat.le_of_ble_eq_true rfl)) dX0_differentForms_13 ⟨Nat.le_of_ble_eq_true rfl, Nat.le_of_ble_eq_true rfl⟩) ?_
  refine rd_call (va_runS (As := [.long (pk (rw_ r a0 a1)), .int (iI ((12 * 0 + 0 : Nat) : Int))]) (rest := []) ⟨hx, hb, hml, hown, hts⟩ (mX0_formWith l (pk (rw_ r a0 a1)) (12 * 0 + 0) (by omega)) (va_cwS 2 hts gX0_differentForms_X0_formWith rfl rfl rfl hdX0_formWith ⟨Nat.le_of_ble_eq_true rfl, Nat.le_of_ble_eq_true rfl⟩) tt_pre rfl rfl hl.1 rfl (lv_room (Nat.le_of_ble_eq_true rfl)) dX0_differentForms_16 ⟨Nat.le_of_ble_eq_true rfl, Nat.le_of_ble_eq_true rfl⟩) ?_
  refine st_l (y := pk (fm (rw_ r a0 a1) 0)) (fw_pk hR1 (by omega)) ?_
  refine lv_lstore (lv' := [(4, .long (pk (fm (rw_ r a0 a1) 0))), (2, .long (pk (rw_ r a0 a1))), (0, .ref o0), (1, .int (iI ((r : Nat) : Int)))]) hx hb dX0_differentForms_19 hl (by decide) rfl (fun ls hl => ?_)
  refine ib_const hx hb dX0_differentForms_21 ?_
  refine ib_const hx hb dX0_differentForms_22 ?_
  refine rd_call (va_runS (As := [.int (iI 2), .int (iI 0)]) (rest := []) ⟨hx, hb, hml, hown, hts⟩ (mX0_codeOf l 2 0) (va_cwS 2 hts gX0_differentForms_X0_codeOf rfl rfl rfl hdX0_codeOf ⟨Nat.le_of_ble_eq_true rfl, Nat.le_of_ble_eq_true rfl⟩) tt_pre rfl rfl hl.1 rfl (lv_room (Nat.le_of_ble_eq_true rfl)) dX0_differentForms_23 ⟨Nat.le_of_ble_eq_true rfl, Nat.le_of_ble_eq_true rfl⟩) ?_
  refine lv_istore (lv' := [(6, .int (iI ((12 * 2 + 0 : Nat) : Int))), (4, .long (pk (fm (rw_ r a0 a1) 0))), (2, .long (pk (rw_ r a0 a1))), (0, .ref o0), (1, .int (iI ((r : Nat) : Int)))]) hx hb dX0_differentForms_26 hl (by decide) rfl (fun ls hl => ?_)
  have lp_28_1 : ∀ (j n : Nat), n + j = 48 → 24 ≤ n → (∀ c, 24 ≤ c → c < n → ¬ pk (fm (rw_ r a0 a1) c) = pk (fm (rw_ r a0 a1) 0)) → ∀ ls : Array Slot, lv_has ls 7 [(0, .ref o0), (1, .int (iI ((r : Nat) : Int))), (2, .long (pk (rw_ r a0 a1))), (4, .long (pk (fm (rw_ r a0 a1) 0))), (6, .int (iI ((n : Nat) : Int)))] → W P0 l e (headSpec wsX0_differentForms { frames := 3, cells := 0, slots := 0, locals := 74 }).room s m ([.ref o0, .int (iI ((r : Nat) : Int))] : List Value).toArray below meth c s.heap [] 0 0 (MQ below (rdQ (some (.int (iI ((dfN (rw_ r a0 a1) 48 : Nat) : Int))))) ([.ref o0, .int (iI ((r : Nat) : Int))] : List Value).toArray s 0 0 (fun _ => False)) (F0 m 28 ls []) := by
    intro j
    induction j with
    | zero =>
      intro n hn_28 hn24 hno ls hl
      refine lv_iload hx hb dX0_differentForms_28 (lv_at hl 4 rfl) ?_
      refine ib_bi hx hb dX0_differentForms_30 (by decide) ?_
      refine ib_icmp_ge (tgt := 56) hx hb dX0_differentForms_32 (by decide) ⟨by omega, by omega⟩ ⟨by omega, by omega⟩ (fun c_32 => ?_) (fun c_32 => absurd c_32 (by omega))
      refine ib_bi hx hb dX0_differentForms_56 (by decide) ?_
      refine st_i (y := iI ((dfN (rw_ r a0 a1) 48 : Nat) : Int)) (congrArg iI (df_48 hR (fun c h1 h2 => hno c h1 (by omega))).symm) ?_
      exact W.iret hx hb hr (fun t ht _ => ⟨rfl, ht⟩) (fun _ h => nomatch h) dX0_differentForms_58
    | succ j ih_28_1 =>
      intro n hn_28 hn24 hno ls hl
      refine lv_iload hx hb dX0_differentForms_28 (lv_at hl 4 rfl) ?_
      refine ib_bi hx hb dX0_differentForms_30 (by decide) ?_
      refine ib_icmp_ge (tgt := 56) hx hb dX0_differentForms_32 (by decide) ⟨by omega, by omega⟩ ⟨by omega, by omega⟩ (fun c_32 => absurd c_32 (by omega)) (fun c_32 => ?_)
      refine lv_lload_n hx hb dX0_differentForms_35 rfl (lv_at hl 2 rfl) ?_
      refine lv_iload hx hb dX0_differentForms_36 (lv_at hl 4 rfl) ?_
      refine rd_call (va_runS (As := [.long (pk (rw_ r a0 a1)), .int (iI ((n : Nat) : Int))]) (rest := []) ⟨hx, hb, hml, hown, hts⟩ (mX0_formWith l (pk (rw_ r a0 a1)) n (by omega)) (va_cwS 2 hts gX0_differentForms_X0_formWith rfl rfl rfl hdX0_formWith ⟨Nat.le_of_ble_eq_true rfl, Nat.le_of_ble_eq_true rfl⟩) tt_pre rfl rfl hl.1 rfl (lv_room (Nat.le_of_ble_eq_true rfl)) dX0_differentForms_38 ⟨Nat.le_of_ble_eq_true rfl, Nat.le_of_ble_eq_true rfl⟩) ?_
      refine st_l (y := pk (fm (rw_ r a0 a1) n)) (fw_pk hR1 (by omega)) ?_
      refine lv_lload hx hb dX0_differentForms_41 (lv_at hl 3 rfl) ?_
      refine W.lcmp hx hb dX0_differentForms_43 ?_
      refine bl_ne (tgt := 50) hx hb dX0_differentForms_44 (by decide) (fun c_44 => ?_) (fun c_44 => ?_)
      · skip
        refine lv_iinc (v := iI ((n + 1 : Nat) : Int)) (lv' := [(6, .int (iI ((n + 1 : Nat) : Int))), (0, .ref o0), (1, .int (iI ((r : Nat) : Int))), (2, .long (pk (rw_ r a0 a1))), (4, .long (pk (fm (rw_ r a0 a1) 0)))]) hx hb dX0_differentForms_50 hl (k := 4) rfl (iI_inc (by omega)) (by decide) rfl (fun ls hl => ?_)
        refine lv_goto (tgt := 28) hx hb dX0_differentForms_53 (by decide) ?_
        exact ih_28_1 (n + 1) (by omega) (by omega) (fun c h1 h2 => by rcases (show c < n ∨ c = n by omega) with h9 | h9; exact hno c h1 h9; rw [h9]; exact c_44) _ (lv_sub hl [1, 2, 3, 4, 0] rfl)
      · skip
        refine ib_bi hx hb dX0_differentForms_47 (by decide) ?_
        refine st_i (y := iI ((dfN (rw_ r a0 a1) 48 : Nat) : Int)) (congrArg iI (df_24 hR hn24 (by omega) c_44).symm) ?_
        exact W.iret hx hb hr (fun t ht _ => ⟨rfl, ht⟩) (fun _ h => nomatch h) dX0_differentForms_49
  exact lp_28_1 24 24 (by omega) (Nat.le_refl 24) (fun c h1 h2 => by omega) _ (lv_sub hl [3, 4, 2, 1, 0] rfl)

set_option maxHeartbeats 4000000 in
set_option maxRecDepth 100000 in
theorem mX0_segment_ok (l : Launch) (dC : Nat → ClassId) (dI : Nat → Nat → Nat) (o0 : Nat) (a0 a1 q : Nat → Nat) (w : Nat) (hp0 : Pm a0) (hp1 : Pm a1) (hw : w ≤ 12) (hq : ∀ i, i < w → q i < 12) (hqd : ∀ i j, i < w → j < w → q i = q j → i = j) (r i k : Nat) (hr9 : r < 2) (hi : i < 12) (hk1 : 1 ≤ k) (hik : i + k ≤ 12) : rd l yX0_segment wsX0_segment { frames := 2, cells := 0, slots := 0, locals := 47 } [.ref o0, .int (iI ((r : Nat) : Int)), .int (iI ((i : Nat) : Int)), .int (iI ((k : Nat) : Int))] (bW (dC, dI) [(o0, .inr (0, [.long (pk a0), .long (pk a1), .long (pkn q w), .int (iI ((w : Nat) : Int))]))] []) (some (.int (iI ((setF (fm (rw_ r a0 a1) (rw_ r a0 a1 0)) i k : Nat) : Int)))) := by
  refine Met.ofW (cc := cX0_segment) (maxL := 4) (ret := (some .int)) (by decide) rfl ?_
  intro P0 e s m args below meth c s₁ B hml hv
  obtain ⟨rfl, hP, hK⟩ := hv
  have hx := B.exec
  have hb := B.bytes
  have hr := B.returns
  have hts := atoms_spec (ws := wsX0_segment) B.pre
  have hown : s.vm.findClass RX0 = some m.cls := findClass_of_methodNamed B.named
  have hlocks := B.notSynchronized
  have hl := lv_entry ([.ref o0, .int (iI ((r : Nat) : Int)), .int (iI ((i : Nat) : Int)), .int (iI ((k : Nat) : Int))]) (n := 4) (Nat.le_of_ble_eq_true rfl)
  rw [lg_entry_eq]
  generalize (lg_sl ([.ref o0, .int (iI ((r : Nat) : Int)), .int (iI ((i : Nat) : Int)), .int (iI ((k : Nat) : Int))]) ++ List.replicate (4 - (lg_sl ([.ref o0, .int (iI ((r : Nat) : Int)), .int (iI ((i : Nat) : Int)), .int (iI ((k : Nat) : Int))])).length) Slot.unset).toArray = ls at hl ⊢
  have hl : lv_has ls 4 [(0, .ref o0), (1, .int (iI ((r : Nat) : Int))), (2, .int (iI ((i : Nat) : Int))), (3, .int (iI ((k : Nat) : Int)))] := hl
  have hR := rw_Pm hp0 hp1 r
  have hR1 := hR.1
  refine lv_iload_n hx hb dX0_segment_0 rfl (lv_at hl 1 rfl) ?_
  refine rd_call (va_runS (As := [.int (iI ((r : Nat) : Int))]) (rest := []) ⟨hx, hb, hml, hown, hts⟩ (mX0_requireRow l ((r : Nat) : Int) ⟨by omega, by omega⟩ (by omega)) (va_cwS 1 hts gX0_segment_X0_requireRow rfl rfl rfl hdX0_requireRow ⟨Nat.le_of_ble_eq_true rfl, Nat.le_of_ble_eq_true rfl⟩) tt_pre rfl rfl hl.1 rfl (lv_room (Nat.le_of_ble_eq_true rfl)) dX0_segment_1 ⟨Nat.le_of_ble_eq_true rfl, Nat.le_of_ble_eq_true rfl⟩) ?_
  refine lv_iload_n hx hb dX0_segment_4 rfl (lv_at hl 2 rfl) ?_
  refine ib_bi hx hb dX0_segment_5 (by decide) ?_
  refine rd_call (va_runS (As := [.int (iI ((i : Nat) : Int)), .int (iI 11)]) (rest := []) ⟨hx, hb, hml, hown, hts⟩ (mX0_requirePlace l ((i : Nat) : Int) 11 ⟨by omega, by omega⟩ ⟨by omega, by omega⟩ (by omega)) (va_cwS 2 hts gX0_segment_X0_requirePlace rfl rfl rfl hdX0_requirePlace ⟨Nat.le_of_ble_eq_true rfl, Nat.le_of_ble_eq_true rfl⟩) tt_pre rfl rfl hl.1 rfl (lv_room (Nat.le_of_ble_eq_true rfl)) dX0_segment_7 ⟨Nat.le_of_ble_eq_true rfl, Nat.le_of_ble_eq_true rfl⟩) ?_
  refine lv_iload_n hx hb dX0_segment_10 rfl (lv_at hl 3 rfl) ?_
  refine ib_const hx hb dX0_segment_11 ?_
  refine ib_bi hx hb dX0_segment_12 (by decide) ?_
  refine lv_iload_n hx hb dX0_segment_14 rfl (lv_at hl 2 rfl) ?_
  refine ib_sub (z := 12 - ((i : Nat) : Int)) hx hb dX0_segment_15 (by omega) ?_
  refine rd_call (va_runS (As := [.int (iI ((k : Nat) : Int)), .int (iI 1), .int (iI (12 - ((i : Nat) : Int)))]) (rest := []) ⟨hx, hb, hml, hown, hts⟩ (mX0_requireRange l ((k : Nat) : Int) 1 (12 - ((i : Nat) : Int)) ⟨by omega, by omega⟩ ⟨by omega, by omega⟩ ⟨by omega, by omega⟩ (by omega)) (va_cwS 3 hts gX0_segment_X0_requireRange rfl rfl rfl hdX0_requireRange ⟨Nat.le_of_ble_eq_true rfl, Nat.le_of_ble_eq_true rfl⟩) tt_pre rfl rfl hl.1 rfl (lv_room (Nat.le_of_ble_eq_true rfl)) dX0_segment_16 ⟨Nat.le_of_ble_eq_true rfl, Nat.le_of_ble_eq_true rfl⟩) ?_
  refine lv_aload_n hx hb dX0_segment_19 rfl (lv_at hl 0 rfl) ?_
  refine lv_iload_n hx hb dX0_segment_20 rfl (lv_at hl 1 rfl) ?_
  refine rd_call (va_runV (As := [.int (iI ((r : Nat) : Int))]) (rest := []) ⟨hx, hb, hml, hown, hts⟩ (mX0_rowAt l dC dI o0 a0 a1 q w hp0 hp1 hw hq hqd r (by omega)) (cwV 1 hts gX0_segment_X0_rowAt rfl rfl rfl hvX0_rowAt ⟨Nat.le_of_ble_eq_true rfl, Nat.le_of_ble_eq_true rfl⟩) (bW_pre (ci := 0) (q0 := 0) hK hP rfl rfl rfl) rfl rfl hl.1 rfl (lv_room (Nat.le_of_ble_eq_true rfl)) dX0_segment_21 ⟨Nat.le_of_ble_eq_true rfl, Nat.le_of_ble_eq_true rfl⟩) ?_
  refine lv_iload_n hx hb dX0_segment_24 rfl (lv_at hl 2 rfl) ?_
  refine lv_iload_n hx hb dX0_segment_25 rfl (lv_at hl 3 rfl) ?_
  refine rd_call (va_runS (As := [.long (pk (rw_ r a0 a1)), .int (iI ((i : Nat) : Int)), .int (iI ((k : Nat) : Int))]) (rest := []) ⟨hx, hb, hml, hown, hts⟩ (mX0_setOf l (pk (rw_ r a0 a1)) i k (by omega)) (va_cwS 3 hts gX0_segment_X0_setOf rfl rfl rfl hdX0_setOf ⟨Nat.le_of_ble_eq_true rfl, Nat.le_of_ble_eq_true rfl⟩) tt_pre rfl rfl hl.1 rfl (lv_room (Nat.le_of_ble_eq_true rfl)) dX0_segment_26 ⟨Nat.le_of_ble_eq_true rfl, Nat.le_of_ble_eq_true rfl⟩) ?_
  have hs_26 := setN_lt (pk (rw_ r a0 a1)) i k
  refine st_i (y := iI ((setF (fm (rw_ r a0 a1) (rw_ r a0 a1 0)) i k : Nat) : Int)) (congrArg (fun z : Nat => iI ((z : Nat) : Int)) (sg_pk hR1 hik)) ?_
  exact W.iret hx hb hr (fun t ht _ => ⟨rfl, ht⟩) (fun _ h => nomatch h) dX0_segment_29

set_option maxHeartbeats 4000000 in
set_option maxRecDepth 100000 in
theorem mX0_classOf_ok (l : Launch) (dC : Nat → ClassId) (dI : Nat → Nat → Nat) (o0 : Nat) (a0 a1 q : Nat → Nat) (w : Nat) (hp0 : Pm a0) (hp1 : Pm a1) (hw : w ≤ 12) (hq : ∀ i, i < w → q i < 12) (hqd : ∀ i j, i < w → j < w → q i = q j → i = j) (sv : Nat) (hs : sv < 4096) : rd l yX0_classOf wsX0_classOf { frames := 4, cells := 0, slots := 0, locals := 87 } [.ref o0, .int (iI ((sv : Nat) : Int))] (bW (dC, dI) [(o0, .inr (0, [.long (pk a0), .long (pk a1), .long (pkn q w), .int (iI ((w : Nat) : Int))]))] []) (some (.int (iI ((lsN sv 12 : Nat) : Int)))) := by
  refine Met.ofW (cc := cX0_classOf) (maxL := 2) (ret := (some .int)) (by decide) rfl ?_
  intro P0 e s m args below meth c s₁ B hml hv
  obtain ⟨rfl, hP, hK⟩ := hv
  have hx := B.exec
  have hb := B.bytes
  have hr := B.returns
  have hts := atoms_spec (ws := wsX0_classOf) B.pre
  have hown : s.vm.findClass RX0 = some m.cls := findClass_of_methodNamed B.named
  have hlocks := B.notSynchronized
  have hl := lv_entry ([.ref o0, .int (iI ((sv : Nat) : Int))]) (n := 2) (Nat.le_of_ble_eq_true rfl)
  rw [lg_entry_eq]
  generalize (lg_sl ([.ref o0, .int (iI ((sv : Nat) : Int))]) ++ List.replicate (2 - (lg_sl ([.ref o0, .int (iI ((sv : Nat) : Int))])).length) Slot.unset).toArray = ls at hl ⊢
  have hl : lv_has ls 2 [(0, .ref o0), (1, .int (iI ((sv : Nat) : Int)))] := hl
  refine lv_iload_n hx hb dX0_classOf_0 rfl (lv_at hl 1 rfl) ?_
  refine ib_const hx hb dX0_classOf_1 ?_
  refine ib_si hx hb dX0_classOf_2 (by decide) ?_
  refine rd_call (va_runS (As := [.int (iI ((sv : Nat) : Int)), .int (iI 0), .int (iI 4095)]) (rest := []) ⟨hx, hb, hml, hown, hts⟩ (mX0_requireRange l ((sv : Nat) : Int) 0 4095 ⟨by omega, by omega⟩ ⟨by omega, by omega⟩ ⟨by omega, by omega⟩ (by omega)) (va_cwS 3 hts gX0_classOf_X0_requireRange rfl rfl rfl hdX0_requireRange ⟨Nat.le_of_ble_eq_true rfl, Nat.le_of_ble_eq_true rfl⟩) tt_pre rfl rfl hl.1 rfl (lv_room (Nat.le_of_ble_eq_true rfl)) dX0_classOf_5 ⟨Nat.le_of_ble_eq_true rfl, Nat.le_of_ble_eq_true rfl⟩) ?_
  refine lv_iload_n hx hb dX0_classOf_8 rfl (lv_at hl 1 rfl) ?_
  refine rd_call (va_runS (As := [.int (iI ((sv : Nat) : Int))]) (rest := []) ⟨hx, hb, hml, hown, hts⟩ (mX0_leastLike l sv (by omega)) (va_cwS 1 hts gX0_classOf_X0_leastLike rfl rfl rfl hdX0_leastLike ⟨Nat.le_of_ble_eq_true rfl, Nat.le_of_ble_eq_true rfl⟩) tt_pre rfl rfl hl.1 rfl (lv_room (Nat.le_of_ble_eq_true rfl)) dX0_classOf_9 ⟨Nat.le_of_ble_eq_true rfl, Nat.le_of_ble_eq_true rfl⟩) ?_
  have hl_9 := llN_le sv 12
  refine st_i (y := iI ((lsN sv 12 : Nat) : Int)) (congrArg (fun z : Nat => iI ((z : Nat) : Int)) (ll_ls hs)) ?_
  exact W.iret hx hb hr (fun t ht _ => ⟨rfl, ht⟩) (fun _ h => nomatch h) dX0_classOf_12

set_option maxHeartbeats 4000000 in
set_option maxRecDepth 100000 in
theorem mX0_pairs_ok (l : Launch) (dC : Nat → ClassId) (dI : Nat → Nat → Nat) (o0 : Nat) (a0 a1 q : Nat → Nat) (w : Nat) (hp0 : Pm a0) (hp1 : Pm a1) (hw : w ≤ 12) (hq : ∀ i, i < w → q i < 12) (hqd : ∀ i j, i < w → j < w → q i = q j → i = j) (sv i : Nat) (hs : sv < 4096) (hi1 : 1 ≤ i) (hi2 : i ≤ 6) : rd l yX0_pairs wsX0_pairs { frames := 1, cells := 0, slots := 0, locals := 22 } [.ref o0, .int (iI ((sv : Nat) : Int)), .int (iI ((i : Nat) : Int))] (bW (dC, dI) [(o0, .inr (0, [.long (pk a0), .long (pk a1), .long (pkn q w), .int (iI ((w : Nat) : Int))]))] []) (some (.int (iI ((prO sv i 12 : Nat) : Int)))) := by
  refine Met.ofW (cc := cX0_pairs) (maxL := 4) (ret := (some .int)) (by decide) rfl ?_
  intro P0 e s m args below meth c s₁ B hml hv
  obtain ⟨rfl, hP, hK⟩ := hv
  have hx := B.exec
  have hb := B.bytes
  have hr := B.returns
  have hts := atoms_spec (ws := wsX0_pairs) B.pre
  have hown : s.vm.findClass RX0 = some m.cls := findClass_of_methodNamed B.named
  have hlocks := B.notSynchronized
  have hl := lv_entry ([.ref o0, .int (iI ((sv : Nat) : Int)), .int (iI ((i : Nat) : Int))]) (n := 4) (Nat.le_of_ble_eq_true rfl)
  rw [lg_entry_eq]
  generalize (lg_sl ([.ref o0, .int (iI ((sv : Nat) : Int)), .int (iI ((i : Nat) : Int))]) ++ List.replicate (4 - (lg_sl ([.ref o0, .int (iI ((sv : Nat) : Int)), .int (iI ((i : Nat) : Int))])).length) Slot.unset).toArray = ls at hl ⊢
  have hl : lv_has ls 4 [(0, .ref o0), (1, .int (iI ((sv : Nat) : Int))), (2, .int (iI ((i : Nat) : Int)))] := hl
  refine lv_iload_n hx hb dX0_pairs_0 rfl (lv_at hl 1 rfl) ?_
  refine ib_const hx hb dX0_pairs_1 ?_
  refine ib_si hx hb dX0_pairs_2 (by decide) ?_
  refine rd_call (va_runS (As := [.int (iI ((sv : Nat) : Int)), .int (iI 0), .int (iI 4095)]) (rest := []) ⟨hx, hb, hml, hown, hts⟩ (mX0_requireRange l ((sv : Nat) : Int) 0 4095 ⟨by omega, by omega⟩ ⟨by omega, by omega⟩ ⟨by omega, by omega⟩ (by omega)) (va_cwS 3 hts gX0_pairs_X0_requireRange rfl rfl rfl hdX0_requireRange ⟨Nat.le_of_ble_eq_true rfl, Nat.le_of_ble_eq_true rfl⟩) tt_pre rfl rfl hl.1 rfl (lv_room (Nat.le_of_ble_eq_true rfl)) dX0_pairs_5 ⟨Nat.le_of_ble_eq_true rfl, Nat.le_of_ble_eq_true rfl⟩) ?_
  refine lv_iload_n hx hb dX0_pairs_8 rfl (lv_at hl 2 rfl) ?_
  refine ib_const hx hb dX0_pairs_9 ?_
  refine ib_bi hx hb dX0_pairs_10 (by decide) ?_
  refine rd_call (va_runS (As := [.int (iI ((i : Nat) : Int)), .int (iI 1), .int (iI 6)]) (rest := []) ⟨hx, hb, hml, hown, hts⟩ (mX0_requireRange l ((i : Nat) : Int) 1 6 ⟨by omega, by omega⟩ ⟨by omega, by omega⟩ ⟨by omega, by omega⟩ (by omega)) (va_cwS 3 hts gX0_pairs_X0_requireRange rfl rfl rfl hdX0_requireRange ⟨Nat.le_of_ble_eq_true rfl, Nat.le_of_ble_eq_true rfl⟩) tt_pre rfl rfl hl.1 rfl (lv_room (Nat.le_of_ble_eq_true rfl)) dX0_pairs_12 ⟨Nat.le_of_ble_eq_true rfl, Nat.le_of_ble_eq_true rfl⟩) ?_
  refine lv_iload_n hx hb dX0_pairs_15 rfl (lv_at hl 1 rfl) ?_
  refine lv_iload_n hx hb dX0_pairs_16 rfl (lv_at hl 1 rfl) ?_
  refine lv_iload_n hx hb dX0_pairs_17 rfl (lv_at hl 2 rfl) ?_
  refine rd_call (va_runS (As := [.int (iI ((sv : Nat) : Int)), .int (iI ((i : Nat) : Int))]) (rest := [.int (iI ((sv : Nat) : Int))]) ⟨hx, hb, hml, hown, hts⟩ (mX0_transposed l sv i (by omega) (by omega)) (va_cwS 2 hts gX0_pairs_X0_transposed rfl rfl rfl hdX0_transposed ⟨Nat.le_of_ble_eq_true rfl, Nat.le_of_ble_eq_true rfl⟩) tt_pre rfl rfl hl.1 rfl (lv_room (Nat.le_of_ble_eq_true rfl)) dX0_pairs_18 ⟨Nat.le_of_ble_eq_true rfl, Nat.le_of_ble_eq_true rfl⟩) ?_
  have ht_18 := trN_lt sv i
  refine lv_iand hx hb dX0_pairs_21 ?_
  refine st_i (y := iI ((sv &&& trN sv i : Nat) : Int)) (ir_and _ _) ?_
  have han := Nat.and_le_left (n := sv) (m := trN sv i)
  refine rd_call (va_runS (As := [.int (iI ((sv &&& trN sv i : Nat) : Int))]) (rest := []) ⟨hx, hb, hml, hown, hts⟩ (mJ6_bitCount_0f7a4 l (sv &&& trN sv i) (by omega)) (va_cwS 1 hts gX0_pairs_J6_bitCount_0f7a4 rfl rfl rfl hdJ6_bitCount_0f7a4 ⟨Nat.le_of_ble_eq_true rfl, Nat.le_of_ble_eq_true rfl⟩) tt_pre rfl rfl hl.1 rfl (lv_room (Nat.le_of_ble_eq_true rfl)) dX0_pairs_22 ⟨Nat.le_of_ble_eq_true rfl, Nat.le_of_ble_eq_true rfl⟩) ?_
  have hp_22 := popN_le (sv &&& trN sv i)
  refine lv_istore_n (lv' := [(3, .int (iI ((popN (sv &&& trN sv i) : Nat) : Int))), (0, .ref o0), (1, .int (iI ((sv : Nat) : Int))), (2, .int (iI ((i : Nat) : Int)))]) hx hb dX0_pairs_25 rfl hl (by decide) rfl (fun ls hl => ?_)
  refine lv_iload_n hx hb dX0_pairs_26 rfl (lv_at hl 3 rfl) ?_
  refine ib_bi hx hb dX0_pairs_27 (by decide) ?_
  refine ib_icmp_ne (tgt := 38) hx hb dX0_pairs_29 (by decide) ⟨by omega, by omega⟩ ⟨by omega, by omega⟩ (fun c_29 => ?_) (fun c_29 => ?_)
  · skip
    refine lv_iload_n hx hb dX0_pairs_38 rfl (lv_at hl 0 rfl) ?_
    refine st_i (y := iI ((prO sv i 12 : Nat) : Int)) (congrArg (fun z : Nat => iI ((z : Nat) : Int)) (pr_i hs hi1 hi2 (by omega))) ?_
    exact W.iret hx hb hr (fun t ht _ => ⟨rfl, ht⟩) (fun _ h => nomatch h) dX0_pairs_39
  · skip
    refine lv_iload_n hx hb dX0_pairs_32 rfl (lv_at hl 0 rfl) ?_
    refine ib_const hx hb dX0_pairs_33 ?_
    refine ib_div (z := (((popN (sv &&& trN sv i)) / 2 : Nat) : Int)) hx hb dX0_pairs_34 (by omega) (by omega) (by omega) (by omega) (by first | omega | rfl) ?_
    refine lv_goto (tgt := 39) hx hb dX0_pairs_35 (by decide) ?_
    refine st_i (y := iI ((prO sv i 12 : Nat) : Int)) (congrArg (fun z : Nat => iI ((z : Nat) : Int)) (pr_6 hs (by omega))) ?_
    exact W.iret hx hb hr (fun t ht _ => ⟨rfl, ht⟩) (fun _ h => nomatch h) dX0_pairs_39

set_option maxHeartbeats 4000000 in
set_option maxRecDepth 100000 in
theorem mX0_combining_ok (l : Launch) (dC : Nat → ClassId) (dI : Nat → Nat → Nat) (o0 : Nat) (a0 a1 q : Nat → Nat) (w : Nat) (hp0 : Pm a0) (hp1 : Pm a1) (hw : w ≤ 12) (hq : ∀ i, i < w → q i < 12) (hqd : ∀ i j, i < w → j < w → q i = q j → i = j) (r : Nat) (hr9 : r < 2) : rd l yX0_combining wsX0_combining { frames := 3, cells := 0, slots := 0, locals := 74 } [.ref o0, .int (iI ((r : Nat) : Int))] (bW (dC, dI) [(o0, .inr (0, [.long (pk a0), .long (pk a1), .long (pkn q w), .int (iI ((w : Nat) : Int))]))] []) (some (.long (cmL (rw_ r a0 a1) 48))) := by
  refine Met.ofW (cc := cX0_combining) (maxL := 8) (ret := (some .long)) (by decide) rfl ?_
  intro P0 e s m args below meth c s₁ B hml hv
  obtain ⟨rfl, hP, hK⟩ := hv
  have hx := B.exec
  have hb := B.bytes
  have hr := B.returns
  have hts := atoms_spec (ws := wsX0_combining) B.pre
  have hown : s.vm.findClass RX0 = some m.cls := findClass_of_methodNamed B.named
  have hlocks := B.notSynchronized
  have hl := lv_entry ([.ref o0, .int (iI ((r : Nat) : Int))]) (n := 8) (Nat.le_of_ble_eq_true rfl)
  rw [lg_entry_eq]
  generalize (lg_sl ([.ref o0, .int (iI ((r : Nat) : Int))]) ++ List.replicate (8 - (lg_sl ([.ref o0, .int (iI ((r : Nat) : Int))])).length) Slot.unset).toArray = ls at hl ⊢
  have hl : lv_has ls 8 [(0, .ref o0), (1, .int (iI ((r : Nat) : Int)))] := hl
  have hR := rw_Pm hp0 hp1 r
  have hR1 := hR.1
  refine lv_iload_n hx hb dX0_combining_0 rfl (lv_at hl 1 rfl) ?_
  refine rd_call (va_runS (As := [.int (iI ((r : Nat) : Int))]) (rest := []) ⟨hx, hb, hml, hown, hts⟩ (mX0_requireRow l ((r : Nat) : Int) ⟨by omega, by omega⟩ (by omega)) (va_cwS 1 hts gX0_combining_X0_requireRow rfl rfl rfl hdX0_requireRow ⟨Nat.le_of_ble_eq_true rfl, Nat.le_of_ble_eq_true rfl⟩) tt_pre rfl rfl hl.1 rfl (lv_room (Nat.le_of_ble_eq_true rfl)) dX0_combining_1 ⟨Nat.le_of_ble_eq_true rfl, Nat.le_of_ble_eq_true rfl⟩) ?_
  refine lv_aload_n hx hb dX0_combining_4 rfl (lv_at hl 0 rfl) ?_
  refine lv_iload_n hx hb dX0_combining_5 rfl (lv_at hl 1 rfl) ?_
  refine rd_call (va_runV (As := [.int (iI ((r : Nat) : Int))]) (rest := []) ⟨hx, hb, hml, hown, hts⟩ (mX0_rowAt l dC dI o0 a0 a1 q w hp0 hp1 hw hq hqd r (by omega)) (cwV 1 hts gX0_combining_X0_rowAt rfl rfl rfl hvX0_rowAt ⟨Nat.le_of_ble_eq_true rfl, Nat.le_of_ble_eq_true rfl⟩) (bW_pre (ci := 0) (q0 := 0) hK hP rfl rfl rfl) rfl rfl hl.1 rfl (lv_room (Nat.le_of_ble_eq_true rfl)) dX0_combining_6 ⟨Nat.le_of_ble_eq_true rfl, Nat.le_of_ble_eq_true rfl⟩) ?_
  refine lv_lstore_n (lv' := [(2, .long (pk (rw_ r a0 a1))), (0, .ref o0), (1, .int (iI ((r : Nat) : Int)))]) hx hb dX0_combining_9 rfl hl (by decide) rfl (fun ls hl => ?_)
  refine lv_lload_n hx hb dX0_combining_10 rfl (lv_at hl 0 rfl) ?_
  refine ib_const hx hb dX0_combining_11 ?_
  refine ib_bi hx hb dX0_combining_12 (by decide) ?_
  refine rd_call (va_runS (As := [.long (pk (rw_ r a0 a1)), .int (iI 0), .int (iI 6)]) (rest := []) ⟨hx, hb, hml, hown, hts⟩ (mX0_setOf l (pk (rw_ r a0 a1)) 0 6 (by omega)) (va_cwS 3 hts gX0_combining_X0_setOf rfl rfl rfl hdX0_setOf ⟨Nat.le_of_ble_eq_true rfl, Nat.le_of_ble_eq_true rfl⟩) tt_pre rfl rfl hl.1 rfl (lv_room (Nat.le_of_ble_eq_true rfl)) dX0_combining_14 ⟨Nat.le_of_ble_eq_true rfl, Nat.le_of_ble_eq_true rfl⟩) ?_
  have hs_14 := setN_lt (pk (rw_ r a0 a1)) 0 6
  refine st_i (y := iI ((setF (fm (rw_ r a0 a1) (rw_ r a0 a1 0)) 0 6 : Nat) : Int)) (congrArg (fun z : Nat => iI ((z : Nat) : Int)) (sg_pk hR1 (by decide))) ?_
  refine lv_istore (lv' := [(4, .int (iI ((setF (fm (rw_ r a0 a1) (rw_ r a0 a1 0)) 0 6 : Nat) : Int))), (2, .long (pk (rw_ r a0 a1))), (0, .ref o0), (1, .int (iI ((r : Nat) : Int)))]) hx hb dX0_combining_17 hl (by decide) rfl (fun ls hl => ?_)
  refine lv_lconst (v := 0) hx hb dX0_combining_19 (by decide) ?_
  refine lv_lstore (lv' := [(5, .long (0 : Int64)), (4, .int (iI ((setF (fm (rw_ r a0 a1) (rw_ r a0 a1 0)) 0 6 : Nat) : Int))), (2, .long (pk (rw_ r a0 a1))), (0, .ref o0), (1, .int (iI ((r : Nat) : Int)))]) hx hb dX0_combining_20 hl (by decide) rfl (fun ls hl => ?_)
  refine ib_const hx hb dX0_combining_22 ?_
  refine lv_istore (lv' := [(7, .int (iI 0)), (5, .long (0 : Int64)), (4, .int (iI ((setF (fm (rw_ r a0 a1) (rw_ r a0 a1 0)) 0 6 : Nat) : Int))), (2, .long (pk (rw_ r a0 a1))), (0, .ref o0), (1, .int (iI ((r : Nat) : Int)))]) hx hb dX0_combining_23 hl (by decide) rfl (fun ls hl => ?_)
  have lp_25_1 : ∀ (j n : Nat), n + j = 48 → ∀ ls : Array Slot, lv_has ls 8 [(0, .ref o0), (1, .int (iI ((r : Nat) : Int))), (2, .long (pk (rw_ r a0 a1))), (4, .int (iI ((setF (fm (rw_ r a0 a1) (rw_ r a0 a1 0)) 0 6 : Nat) : Int))), (5, .long (cmL (rw_ r a0 a1) n)), (7, .int (iI ((n : Nat) : Int)))] → W P0 l e (headSpec wsX0_combining { frames := 3, cells := 0, slots := 0, locals := 74 }).room s m ([.ref o0, .int (iI ((r : Nat) : Int))] : List Value).toArray below meth c s.heap [] 0 0 (MQ below (rdQ (some (.long (cmL (rw_ r a0 a1) 48)))) ([.ref o0, .int (iI ((r : Nat) : Int))] : List Value).toArray s 0 0 (fun _ => False)) (F0 m 25 ls []) := by
    intro j
    induction j with
    | zero =>
      intro n hn_25  ls hl
      refine lv_iload hx hb dX0_combining_25 (lv_at hl 5 rfl) ?_
      refine ib_bi hx hb dX0_combining_27 (by decide) ?_
      refine ib_icmp_ge (tgt := 65) hx hb dX0_combining_29 (by decide) ⟨by omega, by omega⟩ ⟨by omega, by omega⟩ (fun c_29 => ?_) (fun c_29 => absurd c_29 (by omega))
      refine lv_lload hx hb dX0_combining_65 (lv_at hl 4 rfl) ?_
      refine st_l (y := cmL (rw_ r a0 a1) 48) (congrArg (cmL (rw_ r a0 a1)) (show n = 48 by omega)) ?_
      exact W.lret hx hb hr (fun t ht _ => ⟨rfl, ht⟩) (fun _ h => nomatch h) dX0_combining_67
    | succ j ih_25_1 =>
      intro n hn_25  ls hl
      refine lv_iload hx hb dX0_combining_25 (lv_at hl 5 rfl) ?_
      refine ib_bi hx hb dX0_combining_27 (by decide) ?_
      refine ib_icmp_ge (tgt := 65) hx hb dX0_combining_29 (by decide) ⟨by omega, by omega⟩ ⟨by omega, by omega⟩ (fun c_29 => absurd c_29 (by omega)) (fun c_29 => ?_)
      refine lv_iload hx hb dX0_combining_32 (lv_at hl 3 rfl) ?_
      refine lv_lload_n hx hb dX0_combining_34 rfl (lv_at hl 2 rfl) ?_
      refine lv_iload hx hb dX0_combining_35 (lv_at hl 5 rfl) ?_
      refine rd_call (va_runS (As := [.long (pk (rw_ r a0 a1)), .int (iI ((n : Nat) : Int))]) (rest := [.int (iI ((setF (fm (rw_ r a0 a1) (rw_ r a0 a1 0)) 0 6 : Nat) : Int))]) ⟨hx, hb, hml, hown, hts⟩ (mX0_formWith l (pk (rw_ r a0 a1)) n (by omega)) (va_cwS 2 hts gX0_combining_X0_formWith rfl rfl rfl hdX0_formWith ⟨Nat.le_of_ble_eq_true rfl, Nat.le_of_ble_eq_true rfl⟩) tt_pre rfl rfl hl.1 rfl (lv_room (Nat.le_of_ble_eq_true rfl)) dX0_combining_37 ⟨Nat.le_of_ble_eq_true rfl, Nat.le_of_ble_eq_true rfl⟩) ?_
      refine st_l (y := pk (fm (rw_ r a0 a1) n)) (fw_pk hR1 (by omega)) ?_
      refine ib_const hx hb dX0_combining_40 ?_
      refine ib_bi hx hb dX0_combining_41 (by decide) ?_
      refine rd_call (va_runS (As := [.long (pk (fm (rw_ r a0 a1) n)), .int (iI 0), .int (iI 6)]) (rest := [.int (iI ((setF (fm (rw_ r a0 a1) (rw_ r a0 a1 0)) 0 6 : Nat) : Int))]) ⟨hx, hb, hml, hown, hts⟩ (mX0_setOf l (pk (fm (rw_ r a0 a1) n)) 0 6 (by omega)) (va_cwS 3 hts gX0_combining_X0_setOf rfl rfl rfl hdX0_setOf ⟨Nat.le_of_ble_eq_true rfl, Nat.le_of_ble_eq_true rfl⟩) tt_pre rfl rfl hl.1 rfl (lv_room (Nat.le_of_ble_eq_true rfl)) dX0_combining_43 ⟨Nat.le_of_ble_eq_true rfl, Nat.le_of_ble_eq_true rfl⟩) ?_
      have hs_43 := setN_lt (pk (fm (rw_ r a0 a1) n)) 0 6
      refine st_i (y := iI ((setF (fm (rw_ r a0 a1) n) 0 6 : Nat) : Int)) (congrArg (fun z : Nat => iI ((z : Nat) : Int)) (setN_pk (fm_lt12 _ _) (by decide))) ?_
      refine lv_iand hx hb dX0_combining_46 ?_
      refine st_i (y := iI ((setF (fm (rw_ r a0 a1) (rw_ r a0 a1 0)) 0 6 &&& setF (fm (rw_ r a0 a1) n) 0 6 : Nat) : Int)) (ir_and _ _) ?_
      have hsb := setF_lt (fm_lt (rw_ r a0 a1) (rw_ r a0 a1 0)) 0 6
      have hab := Nat.and_le_left (n := setF (fm (rw_ r a0 a1) (rw_ r a0 a1 0)) 0 6) (m := setF (fm (rw_ r a0 a1) n) 0 6)
      refine ib_if_ne (tgt := 59) hx hb dX0_combining_47 (by decide) ⟨by omega, by omega⟩ (fun c_47 => ?_) (fun c_47 => ?_)
      · skip
        refine lv_iinc (v := iI ((n + 1 : Nat) : Int)) (lv' := [(7, .int (iI ((n + 1 : Nat) : Int))), (0, .ref o0), (1, .int (iI ((r : Nat) : Int))), (2, .long (pk (rw_ r a0 a1))), (4, .int (iI ((setF (fm (rw_ r a0 a1) (rw_ r a0 a1 0)) 0 6 : Nat) : Int))), (5, .long (cmL (rw_ r a0 a1) n))]) hx hb dX0_combining_59 hl (k := 5) rfl (iI_inc (by omega)) (by decide) rfl (fun ls hl => ?_)
        refine lv_goto (tgt := 25) hx hb dX0_combining_62 (by decide) ?_
        have hl : lv_has ls 8 [(7, .int (iI ((n + 1 : Nat) : Int))), (0, .ref o0), (1, .int (iI ((r : Nat) : Int))), (2, .long (pk (rw_ r a0 a1))), (4, .int (iI ((setF (fm (rw_ r a0 a1) (rw_ r a0 a1 0)) 0 6 : Nat) : Int))), (5, .long (cmL (rw_ r a0 a1) (n + 1)))] := by
          have e9 : cmL (rw_ r a0 a1) n = cmL (rw_ r a0 a1) (n + 1) := (cm_f (and0_f c_47))
          rw [← e9]; exact hl
        exact ih_25_1 (n + 1) (by omega)  _ (lv_sub hl [1, 2, 3, 4, 5, 0] rfl)
      · skip
        refine lv_lload hx hb dX0_combining_50 (lv_at hl 4 rfl) ?_
        refine lv_lconst (v := 1) hx hb dX0_combining_52 (by decide) ?_
        refine lv_iload hx hb dX0_combining_53 (lv_at hl 5 rfl) ?_
        refine lv_lshl hx hb dX0_combining_55 rfl ?_
        refine st_l (y := bitL n) (rfl) ?_
        refine lv_lor hx hb dX0_combining_56 ?_
        refine lv_lstore (lv' := [(5, .long ((cmL (rw_ r a0 a1) n) ||| (bitL n))), (0, .ref o0), (1, .int (iI ((r : Nat) : Int))), (2, .long (pk (rw_ r a0 a1))), (4, .int (iI ((setF (fm (rw_ r a0 a1) (rw_ r a0 a1 0)) 0 6 : Nat) : Int))), (7, .int (iI ((n : Nat) : Int)))]) hx hb dX0_combining_57 hl (by decide) rfl (fun ls hl => ?_)
        refine lv_iinc (v := iI ((n + 1 : Nat) : Int)) (lv' := [(7, .int (iI ((n + 1 : Nat) : Int))), (5, .long ((cmL (rw_ r a0 a1) n) ||| (bitL n))), (0, .ref o0), (1, .int (iI ((r : Nat) : Int))), (2, .long (pk (rw_ r a0 a1))), (4, .int (iI ((setF (fm (rw_ r a0 a1) (rw_ r a0 a1 0)) 0 6 : Nat) : Int)))]) hx hb dX0_combining_59 hl (k := 5) rfl (iI_inc (by omega)) (by decide) rfl (fun ls hl => ?_)
        refine lv_goto (tgt := 25) hx hb dX0_combining_62 (by decide) ?_
        have hl : lv_has ls 8 [(7, .int (iI ((n + 1 : Nat) : Int))), (5, .long (cmL (rw_ r a0 a1) (n + 1))), (0, .ref o0), (1, .int (iI ((r : Nat) : Int))), (2, .long (pk (rw_ r a0 a1))), (4, .int (iI ((setF (fm (rw_ r a0 a1) (rw_ r a0 a1 0)) 0 6 : Nat) : Int)))] := by
          have e9 : (cmL (rw_ r a0 a1) n) ||| (bitL n) = cmL (rw_ r a0 a1) (n + 1) := (if_pos (and0_t c_47)).symm
          rw [← e9]; exact hl
        exact ih_25_1 (n + 1) (by omega)  _ (lv_sub hl [2, 3, 4, 5, 1, 0] rfl)
  exact lp_25_1 48 0 (by omega)  _ (lv_sub hl [4, 5, 3, 2, 1, 0] rfl)

set_option maxHeartbeats 4000000 in
set_option maxRecDepth 100000 in
theorem mX0_isDerived_ok1 (l : Launch) (dC : Nat → ClassId) (dI : Nat → Nat → Nat) (o0 : Nat) (a0 a1 q : Nat → Nat) (w : Nat) (hp0 : Pm a0) (hp1 : Pm a1) (hw : w ≤ 12) (hq : ∀ i, i < w → q i < 12) (hqd : ∀ i j, i < w → j < w → q i = q j → i = j) (r : Nat) (hr9 : r < 2) : rd l yX0_isDerived wsX0_isDerived { frames := 4, cells := 0, slots := 0, locals := 87 } [.ref o0, .int (iI ((r : Nat) : Int)), .int (iI 1)] (bW (dC, dI) [(o0, .inr (0, [.long (pk a0), .long (pk a1), .long (pkn q w), .int (iI ((w : Nat) : Int))]))] []) (some (.int (iI (bI (alN (deB (rw_ r a0 a1) 1) 12 = true))))) := by
  refine Met.ofW (cc := cX0_isDerived) (maxL := 8) (ret := (some .boolean)) (by decide) rfl ?_
  intro P0 e s m args below meth c s₁ B hml hv
  obtain ⟨rfl, hP, hK⟩ := hv
  have hx := B.exec
  have hb := B.bytes
  have hr := B.returns
  have hts := atoms_spec (ws := wsX0_isDerived) B.pre
  have hown : s.vm.findClass RX0 = some m.cls := findClass_of_methodNamed B.named
  have hlocks := B.notSynchronized
  have hl := lv_entry ([.ref o0, .int (iI ((r : Nat) : Int)), .int (iI 1)]) (n := 8) (Nat.le_of_ble_eq_true rfl)
  rw [lg_entry_eq]
  generalize (lg_sl ([.ref o0, .int (iI ((r : Nat) : Int)), .int (iI 1)]) ++ List.replicate (8 - (lg_sl ([.ref o0, .int (iI ((r : Nat) : Int)), .int (iI 1)])).length) Slot.unset).toArray = ls at hl ⊢
  have hl : lv_has ls 8 [(0, .ref o0), (1, .int (iI ((r : Nat) : Int))), (2, .int (iI 1))] := hl
  have hR := rw_Pm hp0 hp1 r
  have hR1 := hR.1
  refine lv_iload_n hx hb dX0_isDerived_0 rfl (lv_at hl 1 rfl) ?_
  refine rd_call (va_runS (As := [.int (iI ((r : Nat) : Int))]) (rest := []) ⟨hx, hb, hml, hown, hts⟩ (mX0_requireRow l ((r : Nat) : Int) ⟨by omega, by omega⟩ (by omega)) (va_cwS 1 hts gX0_isDerived_X0_requireRow rfl rfl rfl hdX0_requireRow ⟨Nat.le_of_ble_eq_true rfl, Nat.le_of_ble_eq_true rfl⟩) tt_pre rfl rfl hl.1 rfl (lv_room (Nat.le_of_ble_eq_true rfl)) dX0_isDerived_1 ⟨Nat.le_of_ble_eq_true rfl, Nat.le_of_ble_eq_true rfl⟩) ?_
  refine lv_iload_n hx hb dX0_isDerived_4 rfl (lv_at hl 2 rfl) ?_
  refine rd_call (va_runS (As := [.int (iI 1)]) (rest := []) ⟨hx, hb, hml, hown, hts⟩ (mX0_requireSize l 1 ⟨by omega, by omega⟩ (by omega)) (va_cwS 1 hts gX0_isDerived_X0_requireSize rfl rfl rfl hdX0_requireSize ⟨Nat.le_of_ble_eq_true rfl, Nat.le_of_ble_eq_true rfl⟩) tt_pre rfl rfl hl.1 rfl (lv_room (Nat.le_of_ble_eq_true rfl)) dX0_isDerived_5 ⟨Nat.le_of_ble_eq_true rfl, Nat.le_of_ble_eq_true rfl⟩) ?_
  refine lv_aload_n hx hb dX0_isDerived_8 rfl (lv_at hl 0 rfl) ?_
  refine lv_iload_n hx hb dX0_isDerived_9 rfl (lv_at hl 1 rfl) ?_
  refine rd_call (va_runV (As := [.int (iI ((r : Nat) : Int))]) (rest := []) ⟨hx, hb, hml, hown, hts⟩ (mX0_rowAt l dC dI o0 a0 a1 q w hp0 hp1 hw hq hqd r (by omega)) (cwV 1 hts gX0_isDerived_X0_rowAt rfl rfl rfl hvX0_rowAt ⟨Nat.le_of_ble_eq_true rfl, Nat.le_of_ble_eq_true rfl⟩) (bW_pre (ci := 0) (q0 := 0) hK hP rfl rfl rfl) rfl rfl hl.1 rfl (lv_room (Nat.le_of_ble_eq_true rfl)) dX0_isDerived_10 ⟨Nat.le_of_ble_eq_true rfl, Nat.le_of_ble_eq_true rfl⟩) ?_
  refine lv_lstore_n (lv' := [(3, .long (pk (rw_ r a0 a1))), (0, .ref o0), (1, .int (iI ((r : Nat) : Int))), (2, .int (iI 1))]) hx hb dX0_isDerived_13 rfl hl (by decide) rfl (fun ls hl => ?_)
  refine lv_lload_n hx hb dX0_isDerived_14 rfl (lv_at hl 0 rfl) ?_
  refine ib_const hx hb dX0_isDerived_15 ?_
  refine lv_iload_n hx hb dX0_isDerived_16 rfl (lv_at hl 3 rfl) ?_
  refine rd_call (va_runS (As := [.long (pk (rw_ r a0 a1)), .int (iI 0), .int (iI 1)]) (rest := []) ⟨hx, hb, hml, hown, hts⟩ (mX0_setOf l (pk (rw_ r a0 a1)) 0 1 (by omega)) (va_cwS 3 hts gX0_isDerived_X0_setOf rfl rfl rfl hdX0_setOf ⟨Nat.le_of_ble_eq_true rfl, Nat.le_of_ble_eq_true rfl⟩) tt_pre rfl rfl hl.1 rfl (lv_room (Nat.le_of_ble_eq_true rfl)) dX0_isDerived_17 ⟨Nat.le_of_ble_eq_true rfl, Nat.le_of_ble_eq_true rfl⟩) ?_
  have hs_17 := setN_lt (pk (rw_ r a0 a1)) 0 1
  refine st_i (y := iI ((setF (fm (rw_ r a0 a1) (rw_ r a0 a1 0)) 0 1 : Nat) : Int)) (congrArg (fun z : Nat => iI ((z : Nat) : Int)) (sg_pk hR1 (by decide))) ?_
  have hs_a := setF_lt (fm_lt (rw_ r a0 a1) (rw_ r a0 a1 0)) 0 1
  refine rd_call (va_runS (As := [.int (iI ((setF (fm (rw_ r a0 a1) (rw_ r a0 a1 0)) 0 1 : Nat) : Int))]) (rest := []) ⟨hx, hb, hml, hown, hts⟩ (mX0_leastLike l (setF (fm (rw_ r a0 a1) (rw_ r a0 a1 0)) 0 1) (by omega)) (va_cwS 1 hts gX0_isDerived_X0_leastLike rfl rfl rfl hdX0_leastLike ⟨Nat.le_of_ble_eq_true rfl, Nat.le_of_ble_eq_true rfl⟩) tt_pre rfl rfl hl.1 rfl (lv_room (Nat.le_of_ble_eq_true rfl)) dX0_isDerived_20 ⟨Nat.le_of_ble_eq_true rfl, Nat.le_of_ble_eq_true rfl⟩) ?_
  have hl_20 := llN_le (setF (fm (rw_ r a0 a1) (rw_ r a0 a1 0)) 0 1) 12
  refine st_i (y := iI ((lsN (setF (fm (rw_ r a0 a1) (rw_ r a0 a1 0)) 0 1) 12 : Nat) : Int)) (congrArg (fun z : Nat => iI ((z : Nat) : Int)) (ll_ls (setF_lt (fm_lt _ _) _ _))) ?_
  refine lv_istore (lv' := [(5, .int (iI ((lsN (setF (fm (rw_ r a0 a1) (rw_ r a0 a1 0)) 0 1) 12 : Nat) : Int))), (3, .long (pk (rw_ r a0 a1))), (0, .ref o0), (1, .int (iI ((r : Nat) : Int))), (2, .int (iI 1))]) hx hb dX0_isDerived_23 hl (by decide) rfl (fun ls hl => ?_)
  refine ib_const hx hb dX0_isDerived_25 ?_
  refine lv_istore (lv' := [(6, .int (iI 1)), (5, .int (iI ((lsN (setF (fm (rw_ r a0 a1) (rw_ r a0 a1 0)) 0 1) 12 : Nat) : Int))), (3, .long (pk (rw_ r a0 a1))), (0, .ref o0), (1, .int (iI ((r : Nat) : Int))), (2, .int (iI 1))]) hx hb dX0_isDerived_26 hl (by decide) rfl (fun ls hl => ?_)
  have lp_28_1 : ∀ (j n : Nat), n + j = 12 → 1 ≤ n → (∀ i, i < n → i * 1 < 12 → deB (rw_ r a0 a1) 1 i = true) → ∀ ls : Array Slot, lv_has ls 8 [(0, .ref o0), (1, .int (iI ((r : Nat) : Int))), (2, .int (iI 1)), (3, .long (pk (rw_ r a0 a1))), (5, .int (iI ((lsN (setF (fm (rw_ r a0 a1) (rw_ r a0 a1 0)) 0 1) 12 : Nat) : Int))), (6, .int (iI ((n : Nat) : Int)))] → W P0 l e (headSpec wsX0_isDerived { frames := 4, cells := 0, slots := 0, locals := 87 }).room s m ([.ref o0, .int (iI ((r : Nat) : Int)), .int (iI 1)] : List Value).toArray below meth c s.heap [] 0 0 (MQ below (rdQ (some (.int (iI (bI (alN (deB (rw_ r a0 a1) 1) 12 = true)))))) ([.ref o0, .int (iI ((r : Nat) : Int)), .int (iI 1)] : List Value).toArray s 0 0 (fun _ => False)) (F0 m 28 ls []) := by
    intro j
    induction j with
    | zero =>
      intro n hn_28 hn1 hdr ls hl
      have hla := lsN_le (setF (fm (rw_ r a0 a1) (rw_ r a0 a1 0)) 0 1) 12
      have hsa := setF_lt (fm_lt (rw_ r a0 a1) (rw_ r a0 a1 0)) 0 1
      refine lv_iload hx hb dX0_isDerived_28 (lv_at hl 5 rfl) ?_
      refine ib_bi hx hb dX0_isDerived_30 (by decide) ?_
      refine ib_icmp_ge (tgt := 71) hx hb dX0_isDerived_32 (by decide) ⟨by omega, by omega⟩ ⟨by omega, by omega⟩ (fun c_32 => ?_) (fun c_32 => absurd c_32 (by omega))
      refine ib_const hx hb dX0_isDerived_71 ?_
      refine st_i (y := iI (bI (alN (deB (rw_ r a0 a1) 1) 12 = true))) (congrArg iI (bI_t (al_of (fun i hi => hdr i (by omega) (by omega)))).symm) ?_
      exact W.zret hx hb hr (bI_nar _) (fun t ht _ => ⟨rfl, ht⟩) (fun _ h => nomatch h) dX0_isDerived_72
    | succ j ih_28_1 =>
      intro n hn_28 hn1 hdr ls hl
      have hla := lsN_le (setF (fm (rw_ r a0 a1) (rw_ r a0 a1 0)) 0 1) 12
      have hsa := setF_lt (fm_lt (rw_ r a0 a1) (rw_ r a0 a1 0)) 0 1
      refine lv_iload hx hb dX0_isDerived_28 (lv_at hl 5 rfl) ?_
      refine ib_bi hx hb dX0_isDerived_30 (by decide) ?_
      refine ib_icmp_ge (tgt := 71) hx hb dX0_isDerived_32 (by decide) ⟨by omega, by omega⟩ ⟨by omega, by omega⟩ (fun c_32 => absurd c_32 (by omega)) (fun c_32 => ?_)
      refine lv_iload hx hb dX0_isDerived_35 (lv_at hl 5 rfl) ?_
      refine lv_iload_n hx hb dX0_isDerived_37 rfl (lv_at hl 2 rfl) ?_
      refine ib_mul (z := ((n * 1 : Nat) : Int)) hx hb dX0_isDerived_38 (by first | omega | rfl | (push_cast; rfl)) ?_
      refine lv_istore (lv' := [(7, .int (iI ((n * 1 : Nat) : Int))), (0, .ref o0), (1, .int (iI ((r : Nat) : Int))), (2, .int (iI 1)), (3, .long (pk (rw_ r a0 a1))), (5, .int (iI ((lsN (setF (fm (rw_ r a0 a1) (rw_ r a0 a1 0)) 0 1) 12 : Nat) : Int))), (6, .int (iI ((n : Nat) : Int)))]) hx hb dX0_isDerived_39 hl (by decide) rfl (fun ls hl => ?_)
      refine lv_iload hx hb dX0_isDerived_41 (lv_at hl 0 rfl) ?_
      refine ib_bi hx hb dX0_isDerived_43 (by decide) ?_
      refine ib_icmp_ge (tgt := 65) hx hb dX0_isDerived_45 (by decide) ⟨by omega, by omega⟩ ⟨by omega, by omega⟩ (fun c_45 => ?_) (fun c_45 => ?_)
      · skip
        refine lv_iinc (v := iI ((n + 1 : Nat) : Int)) (lv' := [(6, .int (iI ((n + 1 : Nat) : Int))), (7, .int (iI ((n * 1 : Nat) : Int))), (0, .ref o0), (1, .int (iI ((r : Nat) : Int))), (2, .int (iI 1)), (3, .long (pk (rw_ r a0 a1))), (5, .int (iI ((lsN (setF (fm (rw_ r a0 a1) (rw_ r a0 a1 0)) 0 1) 12 : Nat) : Int)))]) hx hb dX0_isDerived_65 hl (k := 6) rfl (iI_inc (by omega)) (by decide) rfl (fun ls hl => ?_)
        refine lv_goto (tgt := 28) hx hb dX0_isDerived_68 (by decide) ?_
        exact ih_28_1 (n + 1) (by omega) (by omega) (fun i hi hz9 => by rcases (show i < n ∨ i = n by omega) with h9 | h9; exact hdr i h9 hz9; omega) _ (lv_sub hl [2, 3, 4, 5, 6, 0] rfl)
      · skip
        refine lv_lload_n hx hb dX0_isDerived_48 rfl (lv_at hl 4 rfl) ?_
        refine lv_iload hx hb dX0_isDerived_49 (lv_at hl 0 rfl) ?_
        refine lv_iload_n hx hb dX0_isDerived_51 rfl (lv_at hl 3 rfl) ?_
        refine rd_call (va_runS (As := [.long (pk (rw_ r a0 a1)), .int (iI ((n * 1 : Nat) : Int)), .int (iI 1)]) (rest := []) ⟨hx, hb, hml, hown, hts⟩ (mX0_setOf l (pk (rw_ r a0 a1)) (n * 1) 1 (by omega)) (va_cwS 3 hts gX0_isDerived_X0_setOf rfl rfl rfl hdX0_setOf ⟨Nat.le_of_ble_eq_true rfl, Nat.le_of_ble_eq_true rfl⟩) tt_pre rfl rfl hl.1 rfl (lv_room (Nat.le_of_ble_eq_true rfl)) dX0_isDerived_52 ⟨Nat.le_of_ble_eq_true rfl, Nat.le_of_ble_eq_true rfl⟩) ?_
        have hs_52 := setN_lt (pk (rw_ r a0 a1)) (n * 1) 1
        refine st_i (y := iI ((setF (fm (rw_ r a0 a1) (rw_ r a0 a1 0)) (n * 1) 1 : Nat) : Int)) (congrArg (fun z : Nat => iI ((z : Nat) : Int)) (sg_pk hR1 (by omega))) ?_
        have hs_b := setF_lt (fm_lt (rw_ r a0 a1) (rw_ r a0 a1 0)) (n * 1) 1
        refine rd_call (va_runS (As := [.int (iI ((setF (fm (rw_ r a0 a1) (rw_ r a0 a1 0)) (n * 1) 1 : Nat) : Int))]) (rest := []) ⟨hx, hb, hml, hown, hts⟩ (mX0_leastLike l (setF (fm (rw_ r a0 a1) (rw_ r a0 a1 0)) (n * 1) 1) (by omega)) (va_cwS 1 hts gX0_isDerived_X0_leastLike rfl rfl rfl hdX0_leastLike ⟨Nat.le_of_ble_eq_true rfl, Nat.le_of_ble_eq_true rfl⟩) tt_pre rfl rfl hl.1 rfl (lv_room (Nat.le_of_ble_eq_true rfl)) dX0_isDerived_55 ⟨Nat.le_of_ble_eq_true rfl, Nat.le_of_ble_eq_true rfl⟩) ?_
        have hl_55 := llN_le (setF (fm (rw_ r a0 a1) (rw_ r a0 a1 0)) (n * 1) 1) 12
        refine st_i (y := iI ((lsN (setF (fm (rw_ r a0 a1) (rw_ r a0 a1 0)) (n * 1) 1) 12 : Nat) : Int)) (congrArg (fun z : Nat => iI ((z : Nat) : Int)) (ll_ls (setF_lt (fm_lt _ _) _ _))) ?_
        refine lv_iload hx hb dX0_isDerived_58 (lv_at hl 5 rfl) ?_
        have hlb := lsN_le (setF (fm (rw_ r a0 a1) (rw_ r a0 a1 0)) (n * 1) 1) 12
        refine ib_icmp_eq (tgt := 65) hx hb dX0_isDerived_60 (by decide) ⟨by omega, by omega⟩ ⟨by omega, by omega⟩ (fun c_60 => ?_) (fun c_60 => ?_)
        · skip
          refine lv_iinc (v := iI ((n + 1 : Nat) : Int)) (lv' := [(6, .int (iI ((n + 1 : Nat) : Int))), (7, .int (iI ((n * 1 : Nat) : Int))), (0, .ref o0), (1, .int (iI ((r : Nat) : Int))), (2, .int (iI 1)), (3, .long (pk (rw_ r a0 a1))), (5, .int (iI ((lsN (setF (fm (rw_ r a0 a1) (rw_ r a0 a1 0)) 0 1) 12 : Nat) : Int)))]) hx hb dX0_isDerived_65 hl (k := 6) rfl (iI_inc (by omega)) (by decide) rfl (fun ls hl => ?_)
          refine lv_goto (tgt := 28) hx hb dX0_isDerived_68 (by decide) ?_
          exact ih_28_1 (n + 1) (by omega) (by omega) (fun i hi hz9 => by rcases (show i < n ∨ i = n by omega) with h9 | h9; exact hdr i h9 hz9; exact de_eq h9 (by omega)) _ (lv_sub hl [2, 3, 4, 5, 6, 0] rfl)
        · skip
          refine ib_const hx hb dX0_isDerived_63 ?_
          refine st_i (y := iI (bI (alN (deB (rw_ r a0 a1) 1) 12 = true))) (congrArg iI (bI_f (de_no (n := n) (show n < 12 by omega) (by omega))).symm) ?_
          exact W.zret hx hb hr (bI_nar _) (fun t ht _ => ⟨rfl, ht⟩) (fun _ h => nomatch h) dX0_isDerived_64
  exact lp_28_1 11 1 (by omega) (Nat.le_refl 1) (fun i hi _ => by rw [show i = 0 by omega]; exact decide_eq_true rfl) _ (lv_sub hl [3, 4, 5, 2, 1, 0] rfl)

set_option maxHeartbeats 4000000 in
set_option maxRecDepth 100000 in
theorem mX0_isDerived_ok2 (l : Launch) (dC : Nat → ClassId) (dI : Nat → Nat → Nat) (o0 : Nat) (a0 a1 q : Nat → Nat) (w : Nat) (hp0 : Pm a0) (hp1 : Pm a1) (hw : w ≤ 12) (hq : ∀ i, i < w → q i < 12) (hqd : ∀ i j, i < w → j < w → q i = q j → i = j) (r : Nat) (hr9 : r < 2) : rd l yX0_isDerived wsX0_isDerived { frames := 4, cells := 0, slots := 0, locals := 87 } [.ref o0, .int (iI ((r : Nat) : Int)), .int (iI 2)] (bW (dC, dI) [(o0, .inr (0, [.long (pk a0), .long (pk a1), .long (pkn q w), .int (iI ((w : Nat) : Int))]))] []) (some (.int (iI (bI (alN (deB (rw_ r a0 a1) 2) 6 = true))))) := by
  refine Met.ofW (cc := cX0_isDerived) (maxL := 8) (ret := (some .boolean)) (by decide) rfl ?_
  intro P0 e s m args below meth c s₁ B hml hv
  obtain ⟨rfl, hP, hK⟩ := hv
  have hx := B.exec
  have hb := B.bytes
  have hr := B.returns
  have hts := atoms_spec (ws := wsX0_isDerived) B.pre
  have hown : s.vm.findClass RX0 = some m.cls := findClass_of_methodNamed B.named
  have hlocks := B.notSynchronized
  have hl := lv_entry ([.ref o0, .int (iI ((r : Nat) : Int)), .int (iI 2)]) (n := 8) (Nat.le_of_ble_eq_true rfl)
  rw [lg_entry_eq]
  generalize (lg_sl ([.ref o0, .int (iI ((r : Nat) : Int)), .int (iI 2)]) ++ List.replicate (8 - (lg_sl ([.ref o0, .int (iI ((r : Nat) : Int)), .int (iI 2)])).length) Slot.unset).toArray = ls at hl ⊢
  have hl : lv_has ls 8 [(0, .ref o0), (1, .int (iI ((r : Nat) : Int))), (2, .int (iI 2))] := hl
  have hR := rw_Pm hp0 hp1 r
  have hR1 := hR.1
  refine lv_iload_n hx hb dX0_isDerived_0 rfl (lv_at hl 1 rfl) ?_
  refine rd_call (va_runS (As := [.int (iI ((r : Nat) : Int))]) (rest := []) ⟨hx, hb, hml, hown, hts⟩ (mX0_requireRow l ((r : Nat) : Int) ⟨by omega, by omega⟩ (by omega)) (va_cwS 1 hts gX0_isDerived_X0_requireRow rfl rfl rfl hdX0_requireRow ⟨Nat.le_of_ble_eq_true rfl, Nat.le_of_ble_eq_true rfl⟩) tt_pre rfl rfl hl.1 rfl (lv_room (Nat.le_of_ble_eq_true rfl)) dX0_isDerived_1 ⟨Nat.le_of_ble_eq_true rfl, Nat.le_of_ble_eq_true rfl⟩) ?_
  refine lv_iload_n hx hb dX0_isDerived_4 rfl (lv_at hl 2 rfl) ?_
  refine rd_call (va_runS (As := [.int (iI 2)]) (rest := []) ⟨hx, hb, hml, hown, hts⟩ (mX0_requireSize l 2 ⟨by omega, by omega⟩ (by omega)) (va_cwS 1 hts gX0_isDerived_X0_requireSize rfl rfl rfl hdX0_requireSize ⟨Nat.le_of_ble_eq_true rfl, Nat.le_of_ble_eq_true rfl⟩) tt_pre rfl rfl hl.1 rfl (lv_room (Nat.le_of_ble_eq_true rfl)) dX0_isDerived_5 ⟨Nat.le_of_ble_eq_true rfl, Nat.le_of_ble_eq_true rfl⟩) ?_
  refine lv_aload_n hx hb dX0_isDerived_8 rfl (lv_at hl 0 rfl) ?_
  refine lv_iload_n hx hb dX0_isDerived_9 rfl (lv_at hl 1 rfl) ?_
  refine rd_call (va_runV (As := [.int (iI ((r : Nat) : Int))]) (rest := []) ⟨hx, hb, hml, hown, hts⟩ (mX0_rowAt l dC dI o0 a0 a1 q w hp0 hp1 hw hq hqd r (by omega)) (cwV 1 hts gX0_isDerived_X0_rowAt rfl rfl rfl hvX0_rowAt ⟨Nat.le_of_ble_eq_true rfl, Nat.le_of_ble_eq_true rfl⟩) (bW_pre (ci := 0) (q0 := 0) hK hP rfl rfl rfl) rfl rfl hl.1 rfl (lv_room (Nat.le_of_ble_eq_true rfl)) dX0_isDerived_10 ⟨Nat.le_of_ble_eq_true rfl, Nat.le_of_ble_eq_true rfl⟩) ?_
  refine lv_lstore_n (lv' := [(3, .long (pk (rw_ r a0 a1))), (0, .ref o0), (1, .int (iI ((r : Nat) : Int))), (2, .int (iI 2))]) hx hb dX0_isDerived_13 rfl hl (by decide) rfl (fun ls hl => ?_)
  refine lv_lload_n hx hb dX0_isDerived_14 rfl (lv_at hl 0 rfl) ?_
  refine ib_const hx hb dX0_isDerived_15 ?_
  refine lv_iload_n hx hb dX0_isDerived_16 rfl (lv_at hl 3 rfl) ?_
  refine rd_call (va_runS (As := [.long (pk (rw_ r a0 a1)), .int (iI 0), .int (iI 2)]) (rest := []) ⟨hx, hb, hml, hown, hts⟩ (mX0_setOf l (pk (rw_ r a0 a1)) 0 2 (by omega)) (va_cwS 3 hts gX0_isDerived_X0_setOf rfl rfl rfl hdX0_setOf ⟨Nat.le_of_ble_eq_true rfl, Nat.le_of_ble_eq_true rfl⟩) tt_pre rfl rfl hl.1 rfl (lv_room (Nat.le_of_ble_eq_true rfl)) dX0_isDerived_17 ⟨Nat.le_of_ble_eq_true rfl, Nat.le_of_ble_eq_true rfl⟩) ?_
  have hs_17 := setN_lt (pk (rw_ r a0 a1)) 0 2
  refine st_i (y := iI ((setF (fm (rw_ r a0 a1) (rw_ r a0 a1 0)) 0 2 : Nat) : Int)) (congrArg (fun z : Nat => iI ((z : Nat) : Int)) (sg_pk hR1 (by decide))) ?_
  have hs_a := setF_lt (fm_lt (rw_ r a0 a1) (rw_ r a0 a1 0)) 0 2
  refine rd_call (va_runS (As := [.int (iI ((setF (fm (rw_ r a0 a1) (rw_ r a0 a1 0)) 0 2 : Nat) : Int))]) (rest := []) ⟨hx, hb, hml, hown, hts⟩ (mX0_leastLike l (setF (fm (rw_ r a0 a1) (rw_ r a0 a1 0)) 0 2) (by omega)) (va_cwS 1 hts gX0_isDerived_X0_leastLike rfl rfl rfl hdX0_leastLike ⟨Nat.le_of_ble_eq_true rfl, Nat.le_of_ble_eq_true rfl⟩) tt_pre rfl rfl hl.1 rfl (lv_room (Nat.le_of_ble_eq_true rfl)) dX0_isDerived_20 ⟨Nat.le_of_ble_eq_true rfl, Nat.le_of_ble_eq_true rfl⟩) ?_
  have hl_20 := llN_le (setF (fm (rw_ r a0 a1) (rw_ r a0 a1 0)) 0 2) 12
  refine st_i (y := iI ((lsN (setF (fm (rw_ r a0 a1) (rw_ r a0 a1 0)) 0 2) 12 : Nat) : Int)) (congrArg (fun z : Nat => iI ((z : Nat) : Int)) (ll_ls (setF_lt (fm_lt _ _) _ _))) ?_
  refine lv_istore (lv' := [(5, .int (iI ((lsN (setF (fm (rw_ r a0 a1) (rw_ r a0 a1 0)) 0 2) 12 : Nat) : Int))), (3, .long (pk (rw_ r a0 a1))), (0, .ref o0), (1, .int (iI ((r : Nat) : Int))), (2, .int (iI 2))]) hx hb dX0_isDerived_23 hl (by decide) rfl (fun ls hl => ?_)
  refine ib_const hx hb dX0_isDerived_25 ?_
  refine lv_istore (lv' := [(6, .int (iI 1)), (5, .int (iI ((lsN (setF (fm (rw_ r a0 a1) (rw_ r a0 a1 0)) 0 2) 12 : Nat) : Int))), (3, .long (pk (rw_ r a0 a1))), (0, .ref o0), (1, .int (iI ((r : Nat) : Int))), (2, .int (iI 2))]) hx hb dX0_isDerived_26 hl (by decide) rfl (fun ls hl => ?_)
  have lp_28_1 : ∀ (j n : Nat), n + j = 12 → 1 ≤ n → (∀ i, i < n → i * 2 < 12 → deB (rw_ r a0 a1) 2 i = true) → ∀ ls : Array Slot, lv_has ls 8 [(0, .ref o0), (1, .int (iI ((r : Nat) : Int))), (2, .int (iI 2)), (3, .long (pk (rw_ r a0 a1))), (5, .int (iI ((lsN (setF (fm (rw_ r a0 a1) (rw_ r a0 a1 0)) 0 2) 12 : Nat) : Int))), (6, .int (iI ((n : Nat) : Int)))] → W P0 l e (headSpec wsX0_isDerived { frames := 4, cells := 0, slots := 0, locals := 87 }).room s m ([.ref o0, .int (iI ((r : Nat) : Int)), .int (iI 2)] : List Value).toArray below meth c s.heap [] 0 0 (MQ below (rdQ (some (.int (iI (bI (alN (deB (rw_ r a0 a1) 2) 6 = true)))))) ([.ref o0, .int (iI ((r : Nat) : Int)), .int (iI 2)] : List Value).toArray s 0 0 (fun _ => False)) (F0 m 28 ls []) := by
    intro j
    induction j with
    | zero =>
      intro n hn_28 hn1 hdr ls hl
      have hla := lsN_le (setF (fm (rw_ r a0 a1) (rw_ r a0 a1 0)) 0 2) 12
      have hsa := setF_lt (fm_lt (rw_ r a0 a1) (rw_ r a0 a1 0)) 0 2
      refine lv_iload hx hb dX0_isDerived_28 (lv_at hl 5 rfl) ?_
      refine ib_bi hx hb dX0_isDerived_30 (by decide) ?_
      refine ib_icmp_ge (tgt := 71) hx hb dX0_isDerived_32 (by decide) ⟨by omega, by omega⟩ ⟨by omega, by omega⟩ (fun c_32 => ?_) (fun c_32 => absurd c_32 (by omega))
      refine ib_const hx hb dX0_isDerived_71 ?_
      refine st_i (y := iI (bI (alN (deB (rw_ r a0 a1) 2) 6 = true))) (congrArg iI (bI_t (al_of (fun i hi => hdr i (by omega) (by omega)))).symm) ?_
      exact W.zret hx hb hr (bI_nar _) (fun t ht _ => ⟨rfl, ht⟩) (fun _ h => nomatch h) dX0_isDerived_72
    | succ j ih_28_1 =>
      intro n hn_28 hn1 hdr ls hl
      have hla := lsN_le (setF (fm (rw_ r a0 a1) (rw_ r a0 a1 0)) 0 2) 12
      have hsa := setF_lt (fm_lt (rw_ r a0 a1) (rw_ r a0 a1 0)) 0 2
      refine lv_iload hx hb dX0_isDerived_28 (lv_at hl 5 rfl) ?_
      refine ib_bi hx hb dX0_isDerived_30 (by decide) ?_
      refine ib_icmp_ge (tgt := 71) hx hb dX0_isDerived_32 (by decide) ⟨by omega, by omega⟩ ⟨by omega, by omega⟩ (fun c_32 => absurd c_32 (by omega)) (fun c_32 => ?_)
      refine lv_iload hx hb dX0_isDerived_35 (lv_at hl 5 rfl) ?_
      refine lv_iload_n hx hb dX0_isDerived_37 rfl (lv_at hl 2 rfl) ?_
      refine ib_mul (z := ((n * 2 : Nat) : Int)) hx hb dX0_isDerived_38 (by first | omega | rfl | (push_cast; rfl)) ?_
      refine lv_istore (lv' := [(7, .int (iI ((n * 2 : Nat) : Int))), (0, .ref o0), (1, .int (iI ((r : Nat) : Int))), (2, .int (iI 2)), (3, .long (pk (rw_ r a0 a1))), (5, .int (iI ((lsN (setF (fm (rw_ r a0 a1) (rw_ r a0 a1 0)) 0 2) 12 : Nat) : Int))), (6, .int (iI ((n : Nat) : Int)))]) hx hb dX0_isDerived_39 hl (by decide) rfl (fun ls hl => ?_)
      refine lv_iload hx hb dX0_isDerived_41 (lv_at hl 0 rfl) ?_
      refine ib_bi hx hb dX0_isDerived_43 (by decide) ?_
      refine ib_icmp_ge (tgt := 65) hx hb dX0_isDerived_45 (by decide) ⟨by omega, by omega⟩ ⟨by omega, by omega⟩ (fun c_45 => ?_) (fun c_45 => ?_)
      · skip
        refine lv_iinc (v := iI ((n + 1 : Nat) : Int)) (lv' := [(6, .int (iI ((n + 1 : Nat) : Int))), (7, .int (iI ((n * 2 : Nat) : Int))), (0, .ref o0), (1, .int (iI ((r : Nat) : Int))), (2, .int (iI 2)), (3, .long (pk (rw_ r a0 a1))), (5, .int (iI ((lsN (setF (fm (rw_ r a0 a1) (rw_ r a0 a1 0)) 0 2) 12 : Nat) : Int)))]) hx hb dX0_isDerived_65 hl (k := 6) rfl (iI_inc (by omega)) (by decide) rfl (fun ls hl => ?_)
        refine lv_goto (tgt := 28) hx hb dX0_isDerived_68 (by decide) ?_
        exact ih_28_1 (n + 1) (by omega) (by omega) (fun i hi hz9 => by rcases (show i < n ∨ i = n by omega) with h9 | h9; exact hdr i h9 hz9; omega) _ (lv_sub hl [2, 3, 4, 5, 6, 0] rfl)
      · skip
        refine lv_lload_n hx hb dX0_isDerived_48 rfl (lv_at hl 4 rfl) ?_
        refine lv_iload hx hb dX0_isDerived_49 (lv_at hl 0 rfl) ?_
        refine lv_iload_n hx hb dX0_isDerived_51 rfl (lv_at hl 3 rfl) ?_
        refine rd_call (va_runS (As := [.long (pk (rw_ r a0 a1)), .int (iI ((n * 2 : Nat) : Int)), .int (iI 2)]) (rest := []) ⟨hx, hb, hml, hown, hts⟩ (mX0_setOf l (pk (rw_ r a0 a1)) (n * 2) 2 (by omega)) (va_cwS 3 hts gX0_isDerived_X0_setOf rfl rfl rfl hdX0_setOf ⟨Nat.le_of_ble_eq_true rfl, Nat.le_of_ble_eq_true rfl⟩) tt_pre rfl rfl hl.1 rfl (lv_room (Nat.le_of_ble_eq_true rfl)) dX0_isDerived_52 ⟨Nat.le_of_ble_eq_true rfl, Nat.le_of_ble_eq_true rfl⟩) ?_
        have hs_52 := setN_lt (pk (rw_ r a0 a1)) (n * 2) 2
        refine st_i (y := iI ((setF (fm (rw_ r a0 a1) (rw_ r a0 a1 0)) (n * 2) 2 : Nat) : Int)) (congrArg (fun z : Nat => iI ((z : Nat) : Int)) (sg_pk hR1 (by omega))) ?_
        have hs_b := setF_lt (fm_lt (rw_ r a0 a1) (rw_ r a0 a1 0)) (n * 2) 2
        refine rd_call (va_runS (As := [.int (iI ((setF (fm (rw_ r a0 a1) (rw_ r a0 a1 0)) (n * 2) 2 : Nat) : Int))]) (rest := []) ⟨hx, hb, hml, hown, hts⟩ (mX0_leastLike l (setF (fm (rw_ r a0 a1) (rw_ r a0 a1 0)) (n * 2) 2) (by omega)) (va_cwS 1 hts gX0_isDerived_X0_leastLike rfl rfl rfl hdX0_leastLike ⟨Nat.le_of_ble_eq_true rfl, Nat.le_of_ble_eq_true rfl⟩) tt_pre rfl rfl hl.1 rfl (lv_room (Nat.le_of_ble_eq_true rfl)) dX0_isDerived_55 ⟨Nat.le_of_ble_eq_true rfl, Nat.le_of_ble_eq_true rfl⟩) ?_
        have hl_55 := llN_le (setF (fm (rw_ r a0 a1) (rw_ r a0 a1 0)) (n * 2) 2) 12
        refine st_i (y := iI ((lsN (setF (fm (rw_ r a0 a1) (rw_ r a0 a1 0)) (n * 2) 2) 12 : Nat) : Int)) (congrArg (fun z : Nat => iI ((z : Nat) : Int)) (ll_ls (setF_lt (fm_lt _ _) _ _))) ?_
        refine lv_iload hx hb dX0_isDerived_58 (lv_at hl 5 rfl) ?_
        have hlb := lsN_le (setF (fm (rw_ r a0 a1) (rw_ r a0 a1 0)) (n * 2) 2) 12
        refine ib_icmp_eq (tgt := 65) hx hb dX0_isDerived_60 (by decide) ⟨by omega, by omega⟩ ⟨by omega, by omega⟩ (fun c_60 => ?_) (fun c_60 => ?_)
        · skip
          refine lv_iinc (v := iI ((n + 1 : Nat) : Int)) (lv' := [(6, .int (iI ((n + 1 : Nat) : Int))), (7, .int (iI ((n * 2 : Nat) : Int))), (0, .ref o0), (1, .int (iI ((r : Nat) : Int))), (2, .int (iI 2)), (3, .long (pk (rw_ r a0 a1))), (5, .int (iI ((lsN (setF (fm (rw_ r a0 a1) (rw_ r a0 a1 0)) 0 2) 12 : Nat) : Int)))]) hx hb dX0_isDerived_65 hl (k := 6) rfl (iI_inc (by omega)) (by decide) rfl (fun ls hl => ?_)
          refine lv_goto (tgt := 28) hx hb dX0_isDerived_68 (by decide) ?_
          exact ih_28_1 (n + 1) (by omega) (by omega) (fun i hi hz9 => by rcases (show i < n ∨ i = n by omega) with h9 | h9; exact hdr i h9 hz9; exact de_eq h9 (by omega)) _ (lv_sub hl [2, 3, 4, 5, 6, 0] rfl)
        · skip
          refine ib_const hx hb dX0_isDerived_63 ?_
          refine st_i (y := iI (bI (alN (deB (rw_ r a0 a1) 2) 6 = true))) (congrArg iI (bI_f (de_no (n := n) (show n < 6 by omega) (by omega))).symm) ?_
          exact W.zret hx hb hr (bI_nar _) (fun t ht _ => ⟨rfl, ht⟩) (fun _ h => nomatch h) dX0_isDerived_64
  exact lp_28_1 11 1 (by omega) (Nat.le_refl 1) (fun i hi _ => by rw [show i = 0 by omega]; exact decide_eq_true rfl) _ (lv_sub hl [3, 4, 5, 2, 1, 0] rfl)

set_option maxHeartbeats 4000000 in
set_option maxRecDepth 100000 in
theorem mX0_isDerived_ok3 (l : Launch) (dC : Nat → ClassId) (dI : Nat → Nat → Nat) (o0 : Nat) (a0 a1 q : Nat → Nat) (w : Nat) (hp0 : Pm a0) (hp1 : Pm a1) (hw : w ≤ 12) (hq : ∀ i, i < w → q i < 12) (hqd : ∀ i j, i < w → j < w → q i = q j → i = j) (r : Nat) (hr9 : r < 2) : rd l yX0_isDerived wsX0_isDerived { frames := 4, cells := 0, slots := 0, locals := 87 } [.ref o0, .int (iI ((r : Nat) : Int)), .int (iI 3)] (bW (dC, dI) [(o0, .inr (0, [.long (pk a0), .long (pk a1), .long (pkn q w), .int (iI ((w : Nat) : Int))]))] []) (some (.int (iI (bI (alN (deB (rw_ r a0 a1) 3) 4 = true))))) := by
  refine Met.ofW (cc := cX0_isDerived) (maxL := 8) (ret := (some .boolean)) (by decide) rfl ?_
  intro P0 e s m args below meth c s₁ B hml hv
  obtain ⟨rfl, hP, hK⟩ := hv
  have hx := B.exec
  have hb := B.bytes
  have hr := B.returns
  have hts := atoms_spec (ws := wsX0_isDerived) B.pre
  have hown : s.vm.findClass RX0 = some m.cls := findClass_of_methodNamed B.named
  have hlocks := B.notSynchronized
  have hl := lv_entry ([.ref o0, .int (iI ((r : Nat) : Int)), .int (iI 3)]) (n := 8) (Nat.le_of_ble_eq_true rfl)
  rw [lg_entry_eq]
  generalize (lg_sl ([.ref o0, .int (iI ((r : Nat) : Int)), .int (iI 3)]) ++ List.replicate (8 - (lg_sl ([.ref o0, .int (iI ((r : Nat) : Int)), .int (iI 3)])).length) Slot.unset).toArray = ls at hl ⊢
  have hl : lv_has ls 8 [(0, .ref o0), (1, .int (iI ((r : Nat) : Int))), (2, .int (iI 3))] := hl
  have hR := rw_Pm hp0 hp1 r
  have hR1 := hR.1
  refine lv_iload_n hx hb dX0_isDerived_0 rfl (lv_at hl 1 rfl) ?_
  refine rd_call (va_runS (As := [.int (iI ((r : Nat) : Int))]) (rest := []) ⟨hx, hb, hml, hown, hts⟩ (mX0_requireRow l ((r : Nat) : Int) ⟨by omega, by omega⟩ (by omega)) (va_cwS 1 hts gX0_isDerived_X0_requireRow rfl rfl rfl hdX0_requireRow ⟨Nat.le_of_ble_eq_true rfl, Nat.le_of_ble_eq_true rfl⟩) tt_pre rfl rfl hl.1 rfl (lv_room (Nat.le_of_ble_eq_true rfl)) dX0_isDerived_1 ⟨Nat.le_of_ble_eq_true rfl, Nat.le_of_ble_eq_true rfl⟩) ?_
  refine lv_iload_n hx hb dX0_isDerived_4 rfl (lv_at hl 2 rfl) ?_
  refine rd_call (va_runS (As := [.int (iI 3)]) (rest := []) ⟨hx, hb, hml, hown, hts⟩ (mX0_requireSize l 3 ⟨by omega, by omega⟩ (by omega)) (va_cwS 1 hts gX0_isDerived_X0_requireSize rfl rfl rfl hdX0_requireSize ⟨Nat.le_of_ble_eq_true rfl, Nat.le_of_ble_eq_true rfl⟩) tt_pre rfl rfl hl.1 rfl (lv_room (Nat.le_of_ble_eq_true rfl)) dX0_isDerived_5 ⟨Nat.le_of_ble_eq_true rfl, Nat.le_of_ble_eq_true rfl⟩) ?_
  refine lv_aload_n hx hb dX0_isDerived_8 rfl (lv_at hl 0 rfl) ?_
  refine lv_iload_n hx hb dX0_isDerived_9 rfl (lv_at hl 1 rfl) ?_
  refine rd_call (va_runV (As := [.int (iI ((r : Nat) : Int))]) (rest := []) ⟨hx, hb, hml, hown, hts⟩ (mX0_rowAt l dC dI o0 a0 a1 q w hp0 hp1 hw hq hqd r (by omega)) (cwV 1 hts gX0_isDerived_X0_rowAt rfl rfl rfl hvX0_rowAt ⟨Nat.le_of_ble_eq_true rfl, Nat.le_of_ble_eq_true rfl⟩) (bW_pre (ci := 0) (q0 := 0) hK hP rfl rfl rfl) rfl rfl hl.1 rfl (lv_room (Nat.le_of_ble_eq_true rfl)) dX0_isDerived_10 ⟨Nat.le_of_ble_eq_true rfl, Nat.le_of_ble_eq_true rfl⟩) ?_
  refine lv_lstore_n (lv' := [(3, .long (pk (rw_ r a0 a1))), (0, .ref o0), (1, .int (iI ((r : Nat) : Int))), (2, .int (iI 3))]) hx hb dX0_isDerived_13 rfl hl (by decide) rfl (fun ls hl => ?_)
  refine lv_lload_n hx hb dX0_isDerived_14 rfl (lv_at hl 0 rfl) ?_
  refine ib_const hx hb dX0_isDerived_15 ?_
  refine lv_iload_n hx hb dX0_isDerived_16 rfl (lv_at hl 3 rfl) ?_
  refine rd_call (va_runS (As := [.long (pk (rw_ r a0 a1)), .int (iI 0), .int (iI 3)]) (rest := []) ⟨hx, hb, hml, hown, hts⟩ (mX0_setOf l (pk (rw_ r a0 a1)) 0 3 (by omega)) (va_cwS 3 hts gX0_isDerived_X0_setOf rfl rfl rfl hdX0_setOf ⟨Nat.le_of_ble_eq_true rfl, Nat.le_of_ble_eq_true rfl⟩) tt_pre rfl rfl hl.1 rfl (lv_room (Nat.le_of_ble_eq_true rfl)) dX0_isDerived_17 ⟨Nat.le_of_ble_eq_true rfl, Nat.le_of_ble_eq_true rfl⟩) ?_
  have hs_17 := setN_lt (pk (rw_ r a0 a1)) 0 3
  refine st_i (y := iI ((setF (fm (rw_ r a0 a1) (rw_ r a0 a1 0)) 0 3 : Nat) : Int)) (congrArg (fun z : Nat => iI ((z : Nat) : Int)) (sg_pk hR1 (by decide))) ?_
  have hs_a := setF_lt (fm_lt (rw_ r a0 a1) (rw_ r a0 a1 0)) 0 3
  refine rd_call (va_runS (As := [.int (iI ((setF (fm (rw_ r a0 a1) (rw_ r a0 a1 0)) 0 3 : Nat) : Int))]) (rest := []) ⟨hx, hb, hml, hown, hts⟩ (mX0_leastLike l (setF (fm (rw_ r a0 a1) (rw_ r a0 a1 0)) 0 3) (by omega)) (va_cwS 1 hts gX0_isDerived_X0_leastLike rfl rfl rfl hdX0_leastLike ⟨Nat.le_of_ble_eq_true rfl, Nat.le_of_ble_eq_true rfl⟩) tt_pre rfl rfl hl.1 rfl (lv_room (Nat.le_of_ble_eq_true rfl)) dX0_isDerived_20 ⟨Nat.le_of_ble_eq_true rfl, Nat.le_of_ble_eq_true rfl⟩) ?_
  have hl_20 := llN_le (setF (fm (rw_ r a0 a1) (rw_ r a0 a1 0)) 0 3) 12
  refine st_i (y := iI ((lsN (setF (fm (rw_ r a0 a1) (rw_ r a0 a1 0)) 0 3) 12 : Nat) : Int)) (congrArg (fun z : Nat => iI ((z : Nat) : Int)) (ll_ls (setF_lt (fm_lt _ _) _ _))) ?_
  refine lv_istore (lv' := [(5, .int (iI ((lsN (setF (fm (rw_ r a0 a1) (rw_ r a0 a1 0)) 0 3) 12 : Nat) : Int))), (3, .long (pk (rw_ r a0 a1))), (0, .ref o0), (1, .int (iI ((r : Nat) : Int))), (2, .int (iI 3))]) hx hb dX0_isDerived_23 hl (by decide) rfl (fun ls hl => ?_)
  refine ib_const hx hb dX0_isDerived_25 ?_
  refine lv_istore (lv' := [(6, .int (iI 1)), (5, .int (iI ((lsN (setF (fm (rw_ r a0 a1) (rw_ r a0 a1 0)) 0 3) 12 : Nat) : Int))), (3, .long (pk (rw_ r a0 a1))), (0, .ref o0), (1, .int (iI ((r : Nat) : Int))), (2, .int (iI 3))]) hx hb dX0_isDerived_26 hl (by decide) rfl (fun ls hl => ?_)
  have lp_28_1 : ∀ (j n : Nat), n + j = 12 → 1 ≤ n → (∀ i, i < n → i * 3 < 12 → deB (rw_ r a0 a1) 3 i = true) → ∀ ls : Array Slot, lv_has ls 8 [(0, .ref o0), (1, .int (iI ((r : Nat) : Int))), (2, .int (iI 3)), (3, .long (pk (rw_ r a0 a1))), (5, .int (iI ((lsN (setF (fm (rw_ r a0 a1) (rw_ r a0 a1 0)) 0 3) 12 : Nat) : Int))), (6, .int (iI ((n : Nat) : Int)))] → W P0 l e (headSpec wsX0_isDerived { frames := 4, cells := 0, slots := 0, locals := 87 }).room s m ([.ref o0, .int (iI ((r : Nat) : Int)), .int (iI 3)] : List Value).toArray below meth c s.heap [] 0 0 (MQ below (rdQ (some (.int (iI (bI (alN (deB (rw_ r a0 a1) 3) 4 = true)))))) ([.ref o0, .int (iI ((r : Nat) : Int)), .int (iI 3)] : List Value).toArray s 0 0 (fun _ => False)) (F0 m 28 ls []) := by
    intro j
    induction j with
    | zero =>
      intro n hn_28 hn1 hdr ls hl
      have hla := lsN_le (setF (fm (rw_ r a0 a1) (rw_ r a0 a1 0)) 0 3) 12
      have hsa := setF_lt (fm_lt (rw_ r a0 a1) (rw_ r a0 a1 0)) 0 3
      refine lv_iload hx hb dX0_isDerived_28 (lv_at hl 5 rfl) ?_
      refine ib_bi hx hb dX0_isDerived_30 (by decide) ?_
      refine ib_icmp_ge (tgt := 71) hx hb dX0_isDerived_32 (by decide) ⟨by omega, by omega⟩ ⟨by omega, by omega⟩ (fun c_32 => ?_) (fun c_32 => absurd c_32 (by omega))
      refine ib_const hx hb dX0_isDerived_71 ?_
      refine st_i (y := iI (bI (alN (deB (rw_ r a0 a1) 3) 4 = true))) (congrArg iI (bI_t (al_of (fun i hi => hdr i (by omega) (by omega)))).symm) ?_
      exact W.zret hx hb hr (bI_nar _) (fun t ht _ => ⟨rfl, ht⟩) (fun _ h => nomatch h) dX0_isDerived_72
    | succ j ih_28_1 =>
      intro n hn_28 hn1 hdr ls hl
      have hla := lsN_le (setF (fm (rw_ r a0 a1) (rw_ r a0 a1 0)) 0 3) 12
      have hsa := setF_lt (fm_lt (rw_ r a0 a1) (rw_ r a0 a1 0)) 0 3
      refine lv_iload hx hb dX0_isDerived_28 (lv_at hl 5 rfl) ?_
      refine ib_bi hx hb dX0_isDerived_30 (by decide) ?_
      refine ib_icmp_ge (tgt := 71) hx hb dX0_isDerived_32 (by decide) ⟨by omega, by omega⟩ ⟨by omega, by omega⟩ (fun c_32 => absurd c_32 (by omega)) (fun c_32 => ?_)
      refine lv_iload hx hb dX0_isDerived_35 (lv_at hl 5 rfl) ?_
      refine lv_iload_n hx hb dX0_isDerived_37 rfl (lv_at hl 2 rfl) ?_
      refine ib_mul (z := ((n * 3 : Nat) : Int)) hx hb dX0_isDerived_38 (by first | omega | rfl | (push_cast; rfl)) ?_
      refine lv_istore (lv' := [(7, .int (iI ((n * 3 : Nat) : Int))), (0, .ref o0), (1, .int (iI ((r : Nat) : Int))), (2, .int (iI 3)), (3, .long (pk (rw_ r a0 a1))), (5, .int (iI ((lsN (setF (fm (rw_ r a0 a1) (rw_ r a0 a1 0)) 0 3) 12 : Nat) : Int))), (6, .int (iI ((n : Nat) : Int)))]) hx hb dX0_isDerived_39 hl (by decide) rfl (fun ls hl => ?_)
      refine lv_iload hx hb dX0_isDerived_41 (lv_at hl 0 rfl) ?_
      refine ib_bi hx hb dX0_isDerived_43 (by decide) ?_
      refine ib_icmp_ge (tgt := 65) hx hb dX0_isDerived_45 (by decide) ⟨by omega, by omega⟩ ⟨by omega, by omega⟩ (fun c_45 => ?_) (fun c_45 => ?_)
      · skip
        refine lv_iinc (v := iI ((n + 1 : Nat) : Int)) (lv' := [(6, .int (iI ((n + 1 : Nat) : Int))), (7, .int (iI ((n * 3 : Nat) : Int))), (0, .ref o0), (1, .int (iI ((r : Nat) : Int))), (2, .int (iI 3)), (3, .long (pk (rw_ r a0 a1))), (5, .int (iI ((lsN (setF (fm (rw_ r a0 a1) (rw_ r a0 a1 0)) 0 3) 12 : Nat) : Int)))]) hx hb dX0_isDerived_65 hl (k := 6) rfl (iI_inc (by omega)) (by decide) rfl (fun ls hl => ?_)
        refine lv_goto (tgt := 28) hx hb dX0_isDerived_68 (by decide) ?_
        exact ih_28_1 (n + 1) (by omega) (by omega) (fun i hi hz9 => by rcases (show i < n ∨ i = n by omega) with h9 | h9; exact hdr i h9 hz9; omega) _ (lv_sub hl [2, 3, 4, 5, 6, 0] rfl)
      · skip
        refine lv_lload_n hx hb dX0_isDerived_48 rfl (lv_at hl 4 rfl) ?_
        refine lv_iload hx hb dX0_isDerived_49 (lv_at hl 0 rfl) ?_
        refine lv_iload_n hx hb dX0_isDerived_51 rfl (lv_at hl 3 rfl) ?_
        refine rd_call (va_runS (As := [.long (pk (rw_ r a0 a1)), .int (iI ((n * 3 : Nat) : Int)), .int (iI 3)]) (rest := []) ⟨hx, hb, hml, hown, hts⟩ (mX0_setOf l (pk (rw_ r a0 a1)) (n * 3) 3 (by omega)) (va_cwS 3 hts gX0_isDerived_X0_setOf rfl rfl rfl hdX0_setOf ⟨Nat.le_of_ble_eq_true rfl, Nat.le_of_ble_eq_true rfl⟩) tt_pre rfl rfl hl.1 rfl (lv_room (Nat.le_of_ble_eq_true rfl)) dX0_isDerived_52 ⟨Nat.le_of_ble_eq_true rfl, Nat.le_of_ble_eq_true rfl⟩) ?_
        have hs_52 := setN_lt (pk (rw_ r a0 a1)) (n * 3) 3
        refine st_i (y := iI ((setF (fm (rw_ r a0 a1) (rw_ r a0 a1 0)) (n * 3) 3 : Nat) : Int)) (congrArg (fun z : Nat => iI ((z : Nat) : Int)) (sg_pk hR1 (by omega))) ?_
        have hs_b := setF_lt (fm_lt (rw_ r a0 a1) (rw_ r a0 a1 0)) (n * 3) 3
        refine rd_call (va_runS (As := [.int (iI ((setF (fm (rw_ r a0 a1) (rw_ r a0 a1 0)) (n * 3) 3 : Nat) : Int))]) (rest := []) ⟨hx, hb, hml, hown, hts⟩ (mX0_leastLike l (setF (fm (rw_ r a0 a1) (rw_ r a0 a1 0)) (n * 3) 3) (by omega)) (va_cwS 1 hts gX0_isDerived_X0_leastLike rfl rfl rfl hdX0_leastLike ⟨Nat.le_of_ble_eq_true rfl, Nat.le_of_ble_eq_true rfl⟩) tt_pre rfl rfl hl.1 rfl (lv_room (Nat.le_of_ble_eq_true rfl)) dX0_isDerived_55 ⟨Nat.le_of_ble_eq_true rfl, Nat.le_of_ble_eq_true rfl⟩) ?_
        have hl_55 := llN_le (setF (fm (rw_ r a0 a1) (rw_ r a0 a1 0)) (n * 3) 3) 12
        refine st_i (y := iI ((lsN (setF (fm (rw_ r a0 a1) (rw_ r a0 a1 0)) (n * 3) 3) 12 : Nat) : Int)) (congrArg (fun z : Nat => iI ((z : Nat) : Int)) (ll_ls (setF_lt (fm_lt _ _) _ _))) ?_
        refine lv_iload hx hb dX0_isDerived_58 (lv_at hl 5 rfl) ?_
        have hlb := lsN_le (setF (fm (rw_ r a0 a1) (rw_ r a0 a1 0)) (n * 3) 3) 12
        refine ib_icmp_eq (tgt := 65) hx hb dX0_isDerived_60 (by decide) ⟨by omega, by omega⟩ ⟨by omega, by omega⟩ (fun c_60 => ?_) (fun c_60 => ?_)
        · skip
          refine lv_iinc (v := iI ((n + 1 : Nat) : Int)) (lv' := [(6, .int (iI ((n + 1 : Nat) : Int))), (7, .int (iI ((n * 3 : Nat) : Int))), (0, .ref o0), (1, .int (iI ((r : Nat) : Int))), (2, .int (iI 3)), (3, .long (pk (rw_ r a0 a1))), (5, .int (iI ((lsN (setF (fm (rw_ r a0 a1) (rw_ r a0 a1 0)) 0 3) 12 : Nat) : Int)))]) hx hb dX0_isDerived_65 hl (k := 6) rfl (iI_inc (by omega)) (by decide) rfl (fun ls hl => ?_)
          refine lv_goto (tgt := 28) hx hb dX0_isDerived_68 (by decide) ?_
          exact ih_28_1 (n + 1) (by omega) (by omega) (fun i hi hz9 => by rcases (show i < n ∨ i = n by omega) with h9 | h9; exact hdr i h9 hz9; exact de_eq h9 (by omega)) _ (lv_sub hl [2, 3, 4, 5, 6, 0] rfl)
        · skip
          refine ib_const hx hb dX0_isDerived_63 ?_
          refine st_i (y := iI (bI (alN (deB (rw_ r a0 a1) 3) 4 = true))) (congrArg iI (bI_f (de_no (n := n) (show n < 4 by omega) (by omega))).symm) ?_
          exact W.zret hx hb hr (bI_nar _) (fun t ht _ => ⟨rfl, ht⟩) (fun _ h => nomatch h) dX0_isDerived_64
  exact lp_28_1 11 1 (by omega) (Nat.le_refl 1) (fun i hi _ => by rw [show i = 0 by omega]; exact decide_eq_true rfl) _ (lv_sub hl [3, 4, 5, 2, 1, 0] rfl)

set_option maxHeartbeats 4000000 in
set_option maxRecDepth 100000 in
theorem mX0_isDerived_ok4 (l : Launch) (dC : Nat → ClassId) (dI : Nat → Nat → Nat) (o0 : Nat) (a0 a1 q : Nat → Nat) (w : Nat) (hp0 : Pm a0) (hp1 : Pm a1) (hw : w ≤ 12) (hq : ∀ i, i < w → q i < 12) (hqd : ∀ i j, i < w → j < w → q i = q j → i = j) (r : Nat) (hr9 : r < 2) : rd l yX0_isDerived wsX0_isDerived { frames := 4, cells := 0, slots := 0, locals := 87 } [.ref o0, .int (iI ((r : Nat) : Int)), .int (iI 4)] (bW (dC, dI) [(o0, .inr (0, [.long (pk a0), .long (pk a1), .long (pkn q w), .int (iI ((w : Nat) : Int))]))] []) (some (.int (iI (bI (alN (deB (rw_ r a0 a1) 4) 3 = true))))) := by
  refine Met.ofW (cc := cX0_isDerived) (maxL := 8) (ret := (some .boolean)) (by decide) rfl ?_
  intro P0 e s m args below meth c s₁ B hml hv
  obtain ⟨rfl, hP, hK⟩ := hv
  have hx := B.exec
  have hb := B.bytes
  have hr := B.returns
  have hts := atoms_spec (ws := wsX0_isDerived) B.pre
  have hown : s.vm.findClass RX0 = some m.cls := findClass_of_methodNamed B.named
  have hlocks := B.notSynchronized
  have hl := lv_entry ([.ref o0, .int (iI ((r : Nat) : Int)), .int (iI 4)]) (n := 8) (Nat.le_of_ble_eq_true rfl)
  rw [lg_entry_eq]
  generalize (lg_sl ([.ref o0, .int (iI ((r : Nat) : Int)), .int (iI 4)]) ++ List.replicate (8 - (lg_sl ([.ref o0, .int (iI ((r : Nat) : Int)), .int (iI 4)])).length) Slot.unset).toArray = ls at hl ⊢
  have hl : lv_has ls 8 [(0, .ref o0), (1, .int (iI ((r : Nat) : Int))), (2, .int (iI 4))] := hl
  have hR := rw_Pm hp0 hp1 r
  have hR1 := hR.1
  refine lv_iload_n hx hb dX0_isDerived_0 rfl (lv_at hl 1 rfl) ?_
  refine rd_call (va_runS (As := [.int (iI ((r : Nat) : Int))]) (rest := []) ⟨hx, hb, hml, hown, hts⟩ (mX0_requireRow l ((r : Nat) : Int) ⟨by omega, by omega⟩ (by omega)) (va_cwS 1 hts gX0_isDerived_X0_requireRow rfl rfl rfl hdX0_requireRow ⟨Nat.le_of_ble_eq_true rfl, Nat.le_of_ble_eq_true rfl⟩) tt_pre rfl rfl hl.1 rfl (lv_room (Nat.le_of_ble_eq_true rfl)) dX0_isDerived_1 ⟨Nat.le_of_ble_eq_true rfl, Nat.le_of_ble_eq_true rfl⟩) ?_
  refine lv_iload_n hx hb dX0_isDerived_4 rfl (lv_at hl 2 rfl) ?_
  refine rd_call (va_runS (As := [.int (iI 4)]) (rest := []) ⟨hx, hb, hml, hown, hts⟩ (mX0_requireSize l 4 ⟨by omega, by omega⟩ (by omega)) (va_cwS 1 hts gX0_isDerived_X0_requireSize rfl rfl rfl hdX0_requireSize ⟨Nat.le_of_ble_eq_true rfl, Nat.le_of_ble_eq_true rfl⟩) tt_pre rfl rfl hl.1 rfl (lv_room (Nat.le_of_ble_eq_true rfl)) dX0_isDerived_5 ⟨Nat.le_of_ble_eq_true rfl, Nat.le_of_ble_eq_true rfl⟩) ?_
  refine lv_aload_n hx hb dX0_isDerived_8 rfl (lv_at hl 0 rfl) ?_
  refine lv_iload_n hx hb dX0_isDerived_9 rfl (lv_at hl 1 rfl) ?_
  refine rd_call (va_runV (As := [.int (iI ((r : Nat) : Int))]) (rest := []) ⟨hx, hb, hml, hown, hts⟩ (mX0_rowAt l dC dI o0 a0 a1 q w hp0 hp1 hw hq hqd r (by omega)) (cwV 1 hts gX0_isDerived_X0_rowAt rfl rfl rfl hvX0_rowAt ⟨Nat.le_of_ble_eq_true rfl, Nat.le_of_ble_eq_true rfl⟩) (bW_pre (ci := 0) (q0 := 0) hK hP rfl rfl rfl) rfl rfl hl.1 rfl (lv_room (Nat.le_of_ble_eq_true rfl)) dX0_isDerived_10 ⟨Nat.le_of_ble_eq_true rfl, Nat.le_of_ble_eq_true rfl⟩) ?_
  refine lv_lstore_n (lv' := [(3, .long (pk (rw_ r a0 a1))), (0, .ref o0), (1, .int (iI ((r : Nat) : Int))), (2, .int (iI 4))]) hx hb dX0_isDerived_13 rfl hl (by decide) rfl (fun ls hl => ?_)
  refine lv_lload_n hx hb dX0_isDerived_14 rfl (lv_at hl 0 rfl) ?_
  refine ib_const hx hb dX0_isDerived_15 ?_
  refine lv_iload_n hx hb dX0_isDerived_16 rfl (lv_at hl 3 rfl) ?_
  refine rd_call (va_runS (As := [.long (pk (rw_ r a0 a1)), .int (iI 0), .int (iI 4)]) (rest := []) ⟨hx, hb, hml, hown, hts⟩ (mX0_setOf l (pk (rw_ r a0 a1)) 0 4 (by omega)) (va_cwS 3 hts gX0_isDerived_X0_setOf rfl rfl rfl hdX0_setOf ⟨Nat.le_of_ble_eq_true rfl, Nat.le_of_ble_eq_true rfl⟩) tt_pre rfl rfl hl.1 rfl (lv_room (Nat.le_of_ble_eq_true rfl)) dX0_isDerived_17 ⟨Nat.le_of_ble_eq_true rfl, Nat.le_of_ble_eq_true rfl⟩) ?_
  have hs_17 := setN_lt (pk (rw_ r a0 a1)) 0 4
  refine st_i (y := iI ((setF (fm (rw_ r a0 a1) (rw_ r a0 a1 0)) 0 4 : Nat) : Int)) (congrArg (fun z : Nat => iI ((z : Nat) : Int)) (sg_pk hR1 (by decide))) ?_
  have hs_a := setF_lt (fm_lt (rw_ r a0 a1) (rw_ r a0 a1 0)) 0 4
  refine rd_call (va_runS (As := [.int (iI ((setF (fm (rw_ r a0 a1) (rw_ r a0 a1 0)) 0 4 : Nat) : Int))]) (rest := []) ⟨hx, hb, hml, hown, hts⟩ (mX0_leastLike l (setF (fm (rw_ r a0 a1) (rw_ r a0 a1 0)) 0 4) (by omega)) (va_cwS 1 hts gX0_isDerived_X0_leastLike rfl rfl rfl hdX0_leastLike ⟨Nat.le_of_ble_eq_true rfl, Nat.le_of_ble_eq_true rfl⟩) tt_pre rfl rfl hl.1 rfl (lv_room (Nat.le_of_ble_eq_true rfl)) dX0_isDerived_20 ⟨Nat.le_of_ble_eq_true rfl, Nat.le_of_ble_eq_true rfl⟩) ?_
  have hl_20 := llN_le (setF (fm (rw_ r a0 a1) (rw_ r a0 a1 0)) 0 4) 12
  refine st_i (y := iI ((lsN (setF (fm (rw_ r a0 a1) (rw_ r a0 a1 0)) 0 4) 12 : Nat) : Int)) (congrArg (fun z : Nat => iI ((z : Nat) : Int)) (ll_ls (setF_lt (fm_lt _ _) _ _))) ?_
  refine lv_istore (lv' := [(5, .int (iI ((lsN (setF (fm (rw_ r a0 a1) (rw_ r a0 a1 0)) 0 4) 12 : Nat) : Int))), (3, .long (pk (rw_ r a0 a1))), (0, .ref o0), (1, .int (iI ((r : Nat) : Int))), (2, .int (iI 4))]) hx hb dX0_isDerived_23 hl (by decide) rfl (fun ls hl => ?_)
  refine ib_const hx hb dX0_isDerived_25 ?_
  refine lv_istore (lv' := [(6, .int (iI 1)), (5, .int (iI ((lsN (setF (fm (rw_ r a0 a1) (rw_ r a0 a1 0)) 0 4) 12 : Nat) : Int))), (3, .long (pk (rw_ r a0 a1))), (0, .ref o0), (1, .int (iI ((r : Nat) : Int))), (2, .int (iI 4))]) hx hb dX0_isDerived_26 hl (by decide) rfl (fun ls hl => ?_)
  have lp_28_1 : ∀ (j n : Nat), n + j = 12 → 1 ≤ n → (∀ i, i < n → i * 4 < 12 → deB (rw_ r a0 a1) 4 i = true) → ∀ ls : Array Slot, lv_has ls 8 [(0, .ref o0), (1, .int (iI ((r : Nat) : Int))), (2, .int (iI 4)), (3, .long (pk (rw_ r a0 a1))), (5, .int (iI ((lsN (setF (fm (rw_ r a0 a1) (rw_ r a0 a1 0)) 0 4) 12 : Nat) : Int))), (6, .int (iI ((n : Nat) : Int)))] → W P0 l e (headSpec wsX0_isDerived { frames := 4, cells := 0, slots := 0, locals := 87 }).room s m ([.ref o0, .int (iI ((r : Nat) : Int)), .int (iI 4)] : List Value).toArray below meth c s.heap [] 0 0 (MQ below (rdQ (some (.int (iI (bI (alN (deB (rw_ r a0 a1) 4) 3 = true)))))) ([.ref o0, .int (iI ((r : Nat) : Int)), .int (iI 4)] : List Value).toArray s 0 0 (fun _ => False)) (F0 m 28 ls []) := by
    intro j
    induction j with
    | zero =>
      intro n hn_28 hn1 hdr ls hl
      have hla := lsN_le (setF (fm (rw_ r a0 a1) (rw_ r a0 a1 0)) 0 4) 12
      have hsa := setF_lt (fm_lt (rw_ r a0 a1) (rw_ r a0 a1 0)) 0 4
      refine lv_iload hx hb dX0_isDerived_28 (lv_at hl 5 rfl) ?_
      refine ib_bi hx hb dX0_isDerived_30 (by decide) ?_
      refine ib_icmp_ge (tgt := 71) hx hb dX0_isDerived_32 (by decide) ⟨by omega, by omega⟩ ⟨by omega, by omega⟩ (fun c_32 => ?_) (fun c_32 => absurd c_32 (by omega))
      refine ib_const hx hb dX0_isDerived_71 ?_
      refine st_i (y := iI (bI (alN (deB (rw_ r a0 a1) 4) 3 = true))) (congrArg iI (bI_t (al_of (fun i hi => hdr i (by omega) (by omega)))).symm) ?_
      exact W.zret hx hb hr (bI_nar _) (fun t ht _ => ⟨rfl, ht⟩) (fun _ h => nomatch h) dX0_isDerived_72
    | succ j ih_28_1 =>
      intro n hn_28 hn1 hdr ls hl
      have hla := lsN_le (setF (fm (rw_ r a0 a1) (rw_ r a0 a1 0)) 0 4) 12
      have hsa := setF_lt (fm_lt (rw_ r a0 a1) (rw_ r a0 a1 0)) 0 4
      refine lv_iload hx hb dX0_isDerived_28 (lv_at hl 5 rfl) ?_
      refine ib_bi hx hb dX0_isDerived_30 (by decide) ?_
      refine ib_icmp_ge (tgt := 71) hx hb dX0_isDerived_32 (by decide) ⟨by omega, by omega⟩ ⟨by omega, by omega⟩ (fun c_32 => absurd c_32 (by omega)) (fun c_32 => ?_)
      refine lv_iload hx hb dX0_isDerived_35 (lv_at hl 5 rfl) ?_
      refine lv_iload_n hx hb dX0_isDerived_37 rfl (lv_at hl 2 rfl) ?_
      refine ib_mul (z := ((n * 4 : Nat) : Int)) hx hb dX0_isDerived_38 (by first | omega | rfl | (push_cast; rfl)) ?_
      refine lv_istore (lv' := [(7, .int (iI ((n * 4 : Nat) : Int))), (0, .ref o0), (1, .int (iI ((r : Nat) : Int))), (2, .int (iI 4)), (3, .long (pk (rw_ r a0 a1))), (5, .int (iI ((lsN (setF (fm (rw_ r a0 a1) (rw_ r a0 a1 0)) 0 4) 12 : Nat) : Int))), (6, .int (iI ((n : Nat) : Int)))]) hx hb dX0_isDerived_39 hl (by decide) rfl (fun ls hl => ?_)
      refine lv_iload hx hb dX0_isDerived_41 (lv_at hl 0 rfl) ?_
      refine ib_bi hx hb dX0_isDerived_43 (by decide) ?_
      refine ib_icmp_ge (tgt := 65) hx hb dX0_isDerived_45 (by decide) ⟨by omega, by omega⟩ ⟨by omega, by omega⟩ (fun c_45 => ?_) (fun c_45 => ?_)
      · skip
        refine lv_iinc (v := iI ((n + 1 : Nat) : Int)) (lv' := [(6, .int (iI ((n + 1 : Nat) : Int))), (7, .int (iI ((n * 4 : Nat) : Int))), (0, .ref o0), (1, .int (iI ((r : Nat) : Int))), (2, .int (iI 4)), (3, .long (pk (rw_ r a0 a1))), (5, .int (iI ((lsN (setF (fm (rw_ r a0 a1) (rw_ r a0 a1 0)) 0 4) 12 : Nat) : Int)))]) hx hb dX0_isDerived_65 hl (k := 6) rfl (iI_inc (by omega)) (by decide) rfl (fun ls hl => ?_)
        refine lv_goto (tgt := 28) hx hb dX0_isDerived_68 (by decide) ?_
        exact ih_28_1 (n + 1) (by omega) (by omega) (fun i hi hz9 => by rcases (show i < n ∨ i = n by omega) with h9 | h9; exact hdr i h9 hz9; omega) _ (lv_sub hl [2, 3, 4, 5, 6, 0] rfl)
      · skip
        refine lv_lload_n hx hb dX0_isDerived_48 rfl (lv_at hl 4 rfl) ?_
        refine lv_iload hx hb dX0_isDerived_49 (lv_at hl 0 rfl) ?_
        refine lv_iload_n hx hb dX0_isDerived_51 rfl (lv_at hl 3 rfl) ?_
        refine rd_call (va_runS (As := [.long (pk (rw_ r a0 a1)), .int (iI ((n * 4 : Nat) : Int)), .int (iI 4)]) (rest := []) ⟨hx, hb, hml, hown, hts⟩ (mX0_setOf l (pk (rw_ r a0 a1)) (n * 4) 4 (by omega)) (va_cwS 3 hts gX0_isDerived_X0_setOf rfl rfl rfl hdX0_setOf ⟨Nat.le_of_ble_eq_true rfl, Nat.le_of_ble_eq_true rfl⟩) tt_pre rfl rfl hl.1 rfl (lv_room (Nat.le_of_ble_eq_true rfl)) dX0_isDerived_52 ⟨Nat.le_of_ble_eq_true rfl, Nat.le_of_ble_eq_true rfl⟩) ?_
        have hs_52 := setN_lt (pk (rw_ r a0 a1)) (n * 4) 4
        refine st_i (y := iI ((setF (fm (rw_ r a0 a1) (rw_ r a0 a1 0)) (n * 4) 4 : Nat) : Int)) (congrArg (fun z : Nat => iI ((z : Nat) : Int)) (sg_pk hR1 (by omega))) ?_
        have hs_b := setF_lt (fm_lt (rw_ r a0 a1) (rw_ r a0 a1 0)) (n * 4) 4
        refine rd_call (va_runS (As := [.int (iI ((setF (fm (rw_ r a0 a1) (rw_ r a0 a1 0)) (n * 4) 4 : Nat) : Int))]) (rest := []) ⟨hx, hb, hml, hown, hts⟩ (mX0_leastLike l (setF (fm (rw_ r a0 a1) (rw_ r a0 a1 0)) (n * 4) 4) (by omega)) (va_cwS 1 hts gX0_isDerived_X0_leastLike rfl rfl rfl hdX0_leastLike ⟨Nat.le_of_ble_eq_true rfl, Nat.le_of_ble_eq_true rfl⟩) tt_pre rfl rfl hl.1 rfl (lv_room (Nat.le_of_ble_eq_true rfl)) dX0_isDerived_55 ⟨Nat.le_of_ble_eq_true rfl, Nat.le_of_ble_eq_true rfl⟩) ?_
        have hl_55 := llN_le (setF (fm (rw_ r a0 a1) (rw_ r a0 a1 0)) (n * 4) 4) 12
        refine st_i (y := iI ((lsN (setF (fm (rw_ r a0 a1) (rw_ r a0 a1 0)) (n * 4) 4) 12 : Nat) : Int)) (congrArg (fun z : Nat => iI ((z : Nat) : Int)) (ll_ls (setF_lt (fm_lt _ _) _ _))) ?_
        refine lv_iload hx hb dX0_isDerived_58 (lv_at hl 5 rfl) ?_
        have hlb := lsN_le (setF (fm (rw_ r a0 a1) (rw_ r a0 a1 0)) (n * 4) 4) 12
        refine ib_icmp_eq (tgt := 65) hx hb dX0_isDerived_60 (by decide) ⟨by omega, by omega⟩ ⟨by omega, by omega⟩ (fun c_60 => ?_) (fun c_60 => ?_)
        · skip
          refine lv_iinc (v := iI ((n + 1 : Nat) : Int)) (lv' := [(6, .int (iI ((n + 1 : Nat) : Int))), (7, .int (iI ((n * 4 : Nat) : Int))), (0, .ref o0), (1, .int (iI ((r : Nat) : Int))), (2, .int (iI 4)), (3, .long (pk (rw_ r a0 a1))), (5, .int (iI ((lsN (setF (fm (rw_ r a0 a1) (rw_ r a0 a1 0)) 0 4) 12 : Nat) : Int)))]) hx hb dX0_isDerived_65 hl (k := 6) rfl (iI_inc (by omega)) (by decide) rfl (fun ls hl => ?_)
          refine lv_goto (tgt := 28) hx hb dX0_isDerived_68 (by decide) ?_
          exact ih_28_1 (n + 1) (by omega) (by omega) (fun i hi hz9 => by rcases (show i < n ∨ i = n by omega) with h9 | h9; exact hdr i h9 hz9; exact de_eq h9 (by omega)) _ (lv_sub hl [2, 3, 4, 5, 6, 0] rfl)
        · skip
          refine ib_const hx hb dX0_isDerived_63 ?_
          refine st_i (y := iI (bI (alN (deB (rw_ r a0 a1) 4) 3 = true))) (congrArg iI (bI_f (de_no (n := n) (show n < 3 by omega) (by omega))).symm) ?_
          exact W.zret hx hb hr (bI_nar _) (fun t ht _ => ⟨rfl, ht⟩) (fun _ h => nomatch h) dX0_isDerived_64
  exact lp_28_1 11 1 (by omega) (Nat.le_refl 1) (fun i hi _ => by rw [show i = 0 by omega]; exact decide_eq_true rfl) _ (lv_sub hl [3, 4, 5, 2, 1, 0] rfl)
