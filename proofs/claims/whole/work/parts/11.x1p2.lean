set_option maxHeartbeats 4000000 in
set_option maxRecDepth 100000 in
theorem mX1_tone_x1 (l : Launch) (dC : Nat → ClassId) (dI : Nat → Nat → Nat) (cI : ClassId) (m0 t0 k0 p0 : Nat) (a0 a1 K q : Nat → Nat) (th : Int32) (w : Nat) (h0 : lt12 a0) (h1 : lt12 a1) (hw : w ≤ 12) (hq : ∀ i, i < w → q i < 12) (z0 z1 : Int) (hz0 : inI z0) (hz1 : inI z1) (hbad : ¬ ((z0 = 0 ∨ z0 = 1) ∧ (0 ≤ z1 ∧ z1 ≤ 11))) : wr l yX1_tone wsX1_tone { frames := 2, cells := 0, slots := 0, locals := 42 } [.ref m0, .int (iI z0), .int (iI z1)] (dC, dI) [(m0, .inr (1, [.int th, .ref t0, .ref k0, .ref p0, .int (iI ((w : Nat) : Int))])), (t0, .inl (cI, 24, .inl (fun j => iI ((tb a0 a1 j : Nat) : Int)))), (k0, .inl (cI, 12, .inl (fun j => iI ((K j : Nat) : Int)))), (p0, .inl (cI, 12, .inl (fun j => iI ((q j : Nat) : Int))))] [(cI, .int)] [(m0, .inr (1, [.int (iI 1), .ref t0, .ref k0, .ref p0, .int (iI ((w : Nat) : Int))])), (t0, .inl (cI, 24, .inl (fun j => iI ((tb a0 a1 j : Nat) : Int)))), (k0, .inl (cI, 12, .inl (fun j => iI ((K j : Nat) : Int)))), (p0, .inl (cI, 12, .inl (fun j => iI ((q j : Nat) : Int))))] (some (.int (iI 0))) := by
  refine Met.ofW (cc := cX1_tone) (maxL := 3) (ret := (some .int)) (by decide) rfl ?_
  intro P0 e s m args below meth c s₁ B hml hv
  obtain ⟨rfl, hP, hK, hD0⟩ := hv
  have hx := B.exec
  have hb := B.bytes
  have hr := B.returns
  have hts := atoms_spec (ws := wsX1_tone) B.pre
  have hown : s.vm.findClass RX1 = some m.cls := findClass_of_methodNamed B.named
  have hlocks := B.notSynchronized
  have hinX : ∀ w ∈ u_ws RX1 TX1 5, w ∈ wsX1_tone := by decide +kernel
  have hD : va_D (inW [(m0, .inr (1, [.int th, .ref t0, .ref k0, .ref p0, .int (iI ((w : Nat) : Int))])), (t0, .inl (cI, 24, .inl (fun j => iI ((tb a0 a1 j : Nat) : Int)))), (k0, .inl (cI, 12, .inl (fun j => iI ((K j : Nat) : Int)))), (p0, .inl (cI, 12, .inl (fun j => iI ((q j : Nat) : Int))))]) [(m0, .inr (1, [.int th, .ref t0, .ref k0, .ref p0, .int (iI ((w : Nat) : Int))])), (t0, .inl (cI, 24, .inl (fun j => iI ((tb a0 a1 j : Nat) : Int)))), (k0, .inl (cI, 12, .inl (fun j => iI ((K j : Nat) : Int)))), (p0, .inl (cI, 12, .inl (fun j => iI ((q j : Nat) : Int))))] := va_D_in hD0
  have hS : va_S (inW [(m0, .inr (1, [.int th, .ref t0, .ref k0, .ref p0, .int (iI ((w : Nat) : Int))])), (t0, .inl (cI, 24, .inl (fun j => iI ((tb a0 a1 j : Nat) : Int)))), (k0, .inl (cI, 12, .inl (fun j => iI ((K j : Nat) : Int)))), (p0, .inl (cI, 12, .inl (fun j => iI ((q j : Nat) : Int))))]) s.heap s.heap [] := va_S.rf
  have hl := lv_entry ([.ref m0, .int (iI z0), .int (iI z1)]) (n := 3) (Nat.le_of_ble_eq_true rfl)
  rw [lg_entry_eq]
  generalize (lg_sl ([.ref m0, .int (iI z0), .int (iI z1)]) ++ List.replicate (3 - (lg_sl ([.ref m0, .int (iI z0), .int (iI z1)])).length) Slot.unset).toArray = ls at hl ⊢
  have hl : lv_has ls 3 [(0, .ref m0), (1, .int (iI z0)), (2, .int (iI z1))] := hl
  have hza0 := hz0.1
  have hza1 := hz1.1
  have hzb0 := hz0.2
  have hzb1 := hz1.2
  refine lv_aload_n hx hb dX1_tone_0 rfl (lv_at hl 0 rfl) ?_
  refine lv_iload_n hx hb dX1_tone_1 rfl (lv_at hl 1 rfl) ?_
  refine rd_call (va_runS (As := [.int (iI z0)]) (rest := [.ref m0]) ⟨hx, hb, hml, hown, hts⟩ (mX1_isRow l z0 ⟨by omega, by omega⟩) (va_cwS 1 hts gX1_tone_X1_isRow rfl rfl rfl hdX1_isRow ⟨Nat.le_of_ble_eq_true rfl, Nat.le_of_ble_eq_true rfl⟩) tt_pre rfl rfl hl.1 rfl (lv_room (Nat.le_of_ble_eq_true rfl)) dX1_tone_2 ⟨Nat.le_of_ble_eq_true rfl, Nat.le_of_ble_eq_true rfl⟩) ?_
  refine bb_eq (tgt := 19) hx hb dX1_tone_5 (by decide) (fun c_5 => ?_) (fun c_5 => ?_)
  · skip
    refine ib_const hx hb dX1_tone_19 ?_
    refine wr_call (va_runV (As := [.int (iI 1)]) (rest := []) ⟨hx, hb, hml, hown, hts⟩ (mX1_goesWell l dC dI cI m0 t0 k0 p0 a0 a1 K q th w h0 h1 hw hq 1 ⟨by omega, by omega⟩) (cwV 1 hts gX1_tone_X1_goesWell rfl rfl rfl hvX1_goesWell ⟨Nat.le_of_ble_eq_true rfl, Nat.le_of_ble_eq_true rfl⟩) (bD_pre (ci := 1) (q0 := 0) hK hP hD rfl rfl rfl) rfl rfl hl.1 rfl (lv_room (Nat.le_of_ble_eq_true rfl)) dX1_tone_20 ⟨Nat.le_of_ble_eq_true rfl, Nat.le_of_ble_eq_true rfl⟩) hS (fun q9 h => inW_same (w := [(m0, .inr (1, [.int th, .ref t0, .ref k0, .ref p0, .int (iI ((w : Nat) : Int))])), (t0, .inl (cI, 24, .inl (fun j => iI ((tb a0 a1 j : Nat) : Int)))), (k0, .inl (cI, 12, .inl (fun j => iI ((K j : Nat) : Int)))), (p0, .inl (cI, 12, .inl (fun j => iI ((q j : Nat) : Int))))]) (w' := [(m0, .inr (1, [.int th, .ref t0, .ref k0, .ref p0, .int (iI ((w : Nat) : Int))])), (t0, .inl (cI, 24, .inl (fun j => iI ((tb a0 a1 j : Nat) : Int)))), (k0, .inl (cI, 12, .inl (fun j => iI ((K j : Nat) : Int)))), (p0, .inl (cI, 12, .inl (fun j => iI ((q j : Nat) : Int))))]) rfl h) (fun H locs hP hz hk hS => ?_)
    have hD : va_D (inW [(m0, .inr (1, [.int th, .ref t0, .ref k0, .ref p0, .int (iI ((w : Nat) : Int))])), (t0, .inl (cI, 24, .inl (fun j => iI ((tb a0 a1 j : Nat) : Int)))), (k0, .inl (cI, 12, .inl (fun j => iI ((K j : Nat) : Int)))), (p0, .inl (cI, 12, .inl (fun j => iI ((q j : Nat) : Int))))]) [(m0, .inr (1, [.int (iI 1), .ref t0, .ref k0, .ref p0, .int (iI ((w : Nat) : Int))])), (t0, .inl (cI, 24, .inl (fun j => iI ((tb a0 a1 j : Nat) : Int)))), (k0, .inl (cI, 12, .inl (fun j => iI ((K j : Nat) : Int)))), (p0, .inl (cI, 12, .inl (fun j => iI ((q j : Nat) : Int))))] := va_D_same (w := [(m0, .inr (1, [.int th, .ref t0, .ref k0, .ref p0, .int (iI ((w : Nat) : Int))])), (t0, .inl (cI, 24, .inl (fun j => iI ((tb a0 a1 j : Nat) : Int)))), (k0, .inl (cI, 12, .inl (fun j => iI ((K j : Nat) : Int)))), (p0, .inl (cI, 12, .inl (fun j => iI ((q j : Nat) : Int))))]) rfl hD
    refine st_i (y := iI 0) (congrArg iI (bI_f (by decide))) ?_
    refine ib_if_eq (tgt := 35) hx hb dX1_tone_23 (by decide) ⟨by omega, by omega⟩ (fun c_23 => ?_) (fun c_23 => absurd c_23 (by decide))
    refine ib_const hx hb dX1_tone_35 ?_
    exact W.iret hx hb hr (fun t ht _ => ⟨rfl, by rw [ht]; exact hP, hS.F ht⟩) hS.2.2 dX1_tone_36
  · skip
    refine lv_iload_n hx hb dX1_tone_8 rfl (lv_at hl 2 rfl) ?_
    refine rd_call (va_runS (As := [.int (iI z1)]) (rest := [.ref m0]) ⟨hx, hb, hml, hown, hts⟩ (mX1_isTone l z1 ⟨by omega, by omega⟩) (va_cwS 1 hts gX1_tone_X1_isTone rfl rfl rfl hdX1_isTone ⟨Nat.le_of_ble_eq_true rfl, Nat.le_of_ble_eq_true rfl⟩) tt_pre rfl rfl hl.1 rfl (lv_room (Nat.le_of_ble_eq_true rfl)) dX1_tone_9 ⟨Nat.le_of_ble_eq_true rfl, Nat.le_of_ble_eq_true rfl⟩) ?_
    refine bb_eq (tgt := 19) hx hb dX1_tone_12 (by decide) (fun c_12 => ?_) (fun c_12 => ?_)
    · skip
      refine ib_const hx hb dX1_tone_19 ?_
      refine wr_call (va_runV (As := [.int (iI 1)]) (rest := []) ⟨hx, hb, hml, hown, hts⟩ (mX1_goesWell l dC dI cI m0 t0 k0 p0 a0 a1 K q th w h0 h1 hw hq 1 ⟨by omega, by omega⟩) (cwV 1 hts gX1_tone_X1_goesWell rfl rfl rfl hvX1_goesWell ⟨Nat.le_of_ble_eq_true rfl, Nat.le_of_ble_eq_true rfl⟩) (bD_pre (ci := 1) (q0 := 0) hK hP hD rfl rfl rfl) rfl rfl hl.1 rfl (lv_room (Nat.le_of_ble_eq_true rfl)) dX1_tone_20 ⟨Nat.le_of_ble_eq_true rfl, Nat.le_of_ble_eq_true rfl⟩) hS (fun q9 h => inW_same (w := [(m0, .inr (1, [.int th, .ref t0, .ref k0, .ref p0, .int (iI ((w : Nat) : Int))])), (t0, .inl (cI, 24, .inl (fun j => iI ((tb a0 a1 j : Nat) : Int)))), (k0, .inl (cI, 12, .inl (fun j => iI ((K j : Nat) : Int)))), (p0, .inl (cI, 12, .inl (fun j => iI ((q j : Nat) : Int))))]) (w' := [(m0, .inr (1, [.int th, .ref t0, .ref k0, .ref p0, .int (iI ((w : Nat) : Int))])), (t0, .inl (cI, 24, .inl (fun j => iI ((tb a0 a1 j : Nat) : Int)))), (k0, .inl (cI, 12, .inl (fun j => iI ((K j : Nat) : Int)))), (p0, .inl (cI, 12, .inl (fun j => iI ((q j : Nat) : Int))))]) rfl h) (fun H locs hP hz hk hS => ?_)
      have hD : va_D (inW [(m0, .inr (1, [.int th, .ref t0, .ref k0, .ref p0, .int (iI ((w : Nat) : Int))])), (t0, .inl (cI, 24, .inl (fun j => iI ((tb a0 a1 j : Nat) : Int)))), (k0, .inl (cI, 12, .inl (fun j => iI ((K j : Nat) : Int)))), (p0, .inl (cI, 12, .inl (fun j => iI ((q j : Nat) : Int))))]) [(m0, .inr (1, [.int (iI 1), .ref t0, .ref k0, .ref p0, .int (iI ((w : Nat) : Int))])), (t0, .inl (cI, 24, .inl (fun j => iI ((tb a0 a1 j : Nat) : Int)))), (k0, .inl (cI, 12, .inl (fun j => iI ((K j : Nat) : Int)))), (p0, .inl (cI, 12, .inl (fun j => iI ((q j : Nat) : Int))))] := va_D_same (w := [(m0, .inr (1, [.int th, .ref t0, .ref k0, .ref p0, .int (iI ((w : Nat) : Int))])), (t0, .inl (cI, 24, .inl (fun j => iI ((tb a0 a1 j : Nat) : Int)))), (k0, .inl (cI, 12, .inl (fun j => iI ((K j : Nat) : Int)))), (p0, .inl (cI, 12, .inl (fun j => iI ((q j : Nat) : Int))))]) rfl hD
      refine st_i (y := iI 0) (congrArg iI (bI_f (by decide))) ?_
      refine ib_if_eq (tgt := 35) hx hb dX1_tone_23 (by decide) ⟨by omega, by omega⟩ (fun c_23 => ?_) (fun c_23 => absurd c_23 (by decide))
      refine ib_const hx hb dX1_tone_35 ?_
      exact W.iret hx hb hr (fun t ht _ => ⟨rfl, by rw [ht]; exact hP, hS.F ht⟩) hS.2.2 dX1_tone_36
    · skip
      refine ib_const hx hb dX1_tone_15 ?_
      refine lv_goto (tgt := 20) hx hb dX1_tone_16 (by decide) ?_
      exfalso; omega

set_option maxHeartbeats 4000000 in
set_option maxRecDepth 100000 in
theorem mX1_interval_ok (l : Launch) (dC : Nat → ClassId) (dI : Nat → Nat → Nat) (cI : ClassId) (m0 t0 k0 p0 : Nat) (a0 a1 K q : Nat → Nat) (th : Int32) (w : Nat) (h0 : lt12 a0) (h1 : lt12 a1) (hw : w ≤ 12) (hq : ∀ i, i < w → q i < 12) (r i : Nat) (hr9 : r < 2) (hi : i < 11) : wr l yX1_interval wsX1_interval { frames := 2, cells := 0, slots := 0, locals := 44 } [.ref m0, .int (iI ((r : Nat) : Int)), .int (iI ((i : Nat) : Int))] (dC, dI) [(m0, .inr (1, [.int th, .ref t0, .ref k0, .ref p0, .int (iI ((w : Nat) : Int))])), (t0, .inl (cI, 24, .inl (fun j => iI ((tb a0 a1 j : Nat) : Int)))), (k0, .inl (cI, 12, .inl (fun j => iI ((K j : Nat) : Int)))), (p0, .inl (cI, 12, .inl (fun j => iI ((q j : Nat) : Int))))] [(cI, .int)] [(m0, .inr (1, [.int (iI 0), .ref t0, .ref k0, .ref p0, .int (iI ((w : Nat) : Int))])), (t0, .inl (cI, 24, .inl (fun j => iI ((tb a0 a1 j : Nat) : Int)))), (k0, .inl (cI, 12, .inl (fun j => iI ((K j : Nat) : Int)))), (p0, .inl (cI, 12, .inl (fun j => iI ((q j : Nat) : Int))))] (some (.int (iI ((md (((rw_ r a0 a1 (i + 1) : Nat) : Int) - ((rw_ r a0 a1 i : Nat) : Int)) : Nat) : Int)))) := by
  refine Met.ofW (cc := cX1_interval) (maxL := 3) (ret := (some .int)) (by decide) rfl ?_
  intro P0 e s m args below meth c s₁ B hml hv
  obtain ⟨rfl, hP, hK, hD0⟩ := hv
  have hx := B.exec
  have hb := B.bytes
  have hr := B.returns
  have hts := atoms_spec (ws := wsX1_interval) B.pre
  have hown : s.vm.findClass RX1 = some m.cls := findClass_of_methodNamed B.named
  have hlocks := B.notSynchronized
  have hinX : ∀ w ∈ u_ws RX1 TX1 5, w ∈ wsX1_interval := by decide +kernel
  have hD : va_D (inW [(m0, .inr (1, [.int th, .ref t0, .ref k0, .ref p0, .int (iI ((w : Nat) : Int))])), (t0, .inl (cI, 24, .inl (fun j => iI ((tb a0 a1 j : Nat) : Int)))), (k0, .inl (cI, 12, .inl (fun j => iI ((K j : Nat) : Int)))), (p0, .inl (cI, 12, .inl (fun j => iI ((q j : Nat) : Int))))]) [(m0, .inr (1, [.int th, .ref t0, .ref k0, .ref p0, .int (iI ((w : Nat) : Int))])), (t0, .inl (cI, 24, .inl (fun j => iI ((tb a0 a1 j : Nat) : Int)))), (k0, .inl (cI, 12, .inl (fun j => iI ((K j : Nat) : Int)))), (p0, .inl (cI, 12, .inl (fun j => iI ((q j : Nat) : Int))))] := va_D_in hD0
  have hS : va_S (inW [(m0, .inr (1, [.int th, .ref t0, .ref k0, .ref p0, .int (iI ((w : Nat) : Int))])), (t0, .inl (cI, 24, .inl (fun j => iI ((tb a0 a1 j : Nat) : Int)))), (k0, .inl (cI, 12, .inl (fun j => iI ((K j : Nat) : Int)))), (p0, .inl (cI, 12, .inl (fun j => iI ((q j : Nat) : Int))))]) s.heap s.heap [] := va_S.rf
  have hl := lv_entry ([.ref m0, .int (iI ((r : Nat) : Int)), .int (iI ((i : Nat) : Int))]) (n := 3) (Nat.le_of_ble_eq_true rfl)
  rw [lg_entry_eq]
  generalize (lg_sl ([.ref m0, .int (iI ((r : Nat) : Int)), .int (iI ((i : Nat) : Int))]) ++ List.replicate (3 - (lg_sl ([.ref m0, .int (iI ((r : Nat) : Int)), .int (iI ((i : Nat) : Int))])).length) Slot.unset).toArray = ls at hl ⊢
  have hl : lv_has ls 3 [(0, .ref m0), (1, .int (iI ((r : Nat) : Int))), (2, .int (iI ((i : Nat) : Int)))] := hl
  refine lv_aload_n hx hb dX1_interval_0 rfl (lv_at hl 0 rfl) ?_
  refine lv_iload_n hx hb dX1_interval_1 rfl (lv_at hl 1 rfl) ?_
  refine rd_call (va_runS (As := [.int (iI ((r : Nat) : Int))]) (rest := [.ref m0]) ⟨hx, hb, hml, hown, hts⟩ (mX1_isRow l ((r : Nat) : Int) ⟨by omega, by omega⟩) (va_cwS 1 hts gX1_interval_X1_isRow rfl rfl rfl hdX1_isRow ⟨Nat.le_of_ble_eq_true rfl, Nat.le_of_ble_eq_true rfl⟩) tt_pre rfl rfl hl.1 rfl (lv_room (Nat.le_of_ble_eq_true rfl)) dX1_interval_2 ⟨Nat.le_of_ble_eq_true rfl, Nat.le_of_ble_eq_true rfl⟩) ?_
  refine bb_eq (tgt := 22) hx hb dX1_interval_5 (by decide) (fun c_5 => absurd c_5 (by omega)) (fun c_5 => ?_)
  refine lv_iload_n hx hb dX1_interval_8 rfl (lv_at hl 2 rfl) ?_
  refine ib_const hx hb dX1_interval_9 ?_
  refine ib_bi hx hb dX1_interval_10 (by decide) ?_
  refine rd_call (va_runS (As := [.int (iI ((i : Nat) : Int)), .int (iI 0), .int (iI 10)]) (rest := [.ref m0]) ⟨hx, hb, hml, hown, hts⟩ (mX1_in l ((i : Nat) : Int) 0 10 ⟨by omega, by omega⟩ ⟨by omega, by omega⟩ ⟨by omega, by omega⟩) (va_cwS 3 hts gX1_interval_X1_in rfl rfl rfl hdX1_in ⟨Nat.le_of_ble_eq_true rfl, Nat.le_of_ble_eq_true rfl⟩) tt_pre rfl rfl hl.1 rfl (lv_room (Nat.le_of_ble_eq_true rfl)) dX1_interval_12 ⟨Nat.le_of_ble_eq_true rfl, Nat.le_of_ble_eq_true rfl⟩) ?_
  refine bb_eq (tgt := 22) hx hb dX1_interval_15 (by decide) (fun c_15 => absurd c_15 (by omega)) (fun c_15 => ?_)
  refine ib_const hx hb dX1_interval_18 ?_
  refine lv_goto (tgt := 23) hx hb dX1_interval_19 (by decide) ?_
  refine wr_call (va_runV (As := [.int (iI 0)]) (rest := []) ⟨hx, hb, hml, hown, hts⟩ (mX1_goesWell l dC dI cI m0 t0 k0 p0 a0 a1 K q th w h0 h1 hw hq 0 ⟨by omega, by omega⟩) (cwV 1 hts gX1_interval_X1_goesWell rfl rfl rfl hvX1_goesWell ⟨Nat.le_of_ble_eq_true rfl, Nat.le_of_ble_eq_true rfl⟩) (bD_pre (ci := 1) (q0 := 0) hK hP hD rfl rfl rfl) rfl rfl hl.1 rfl (lv_room (Nat.le_of_ble_eq_true rfl)) dX1_interval_23 ⟨Nat.le_of_ble_eq_true rfl, Nat.le_of_ble_eq_true rfl⟩) hS (fun q9 h => inW_same (w := [(m0, .inr (1, [.int th, .ref t0, .ref k0, .ref p0, .int (iI ((w : Nat) : Int))])), (t0, .inl (cI, 24, .inl (fun j => iI ((tb a0 a1 j : Nat) : Int)))), (k0, .inl (cI, 12, .inl (fun j => iI ((K j : Nat) : Int)))), (p0, .inl (cI, 12, .inl (fun j => iI ((q j : Nat) : Int))))]) (w' := [(m0, .inr (1, [.int th, .ref t0, .ref k0, .ref p0, .int (iI ((w : Nat) : Int))])), (t0, .inl (cI, 24, .inl (fun j => iI ((tb a0 a1 j : Nat) : Int)))), (k0, .inl (cI, 12, .inl (fun j => iI ((K j : Nat) : Int)))), (p0, .inl (cI, 12, .inl (fun j => iI ((q j : Nat) : Int))))]) rfl h) (fun H locs hP hz hk hS => ?_)
  have hD : va_D (inW [(m0, .inr (1, [.int th, .ref t0, .ref k0, .ref p0, .int (iI ((w : Nat) : Int))])), (t0, .inl (cI, 24, .inl (fun j => iI ((tb a0 a1 j : Nat) : Int)))), (k0, .inl (cI, 12, .inl (fun j => iI ((K j : Nat) : Int)))), (p0, .inl (cI, 12, .inl (fun j => iI ((q j : Nat) : Int))))]) [(m0, .inr (1, [.int (iI 0), .ref t0, .ref k0, .ref p0, .int (iI ((w : Nat) : Int))])), (t0, .inl (cI, 24, .inl (fun j => iI ((tb a0 a1 j : Nat) : Int)))), (k0, .inl (cI, 12, .inl (fun j => iI ((K j : Nat) : Int)))), (p0, .inl (cI, 12, .inl (fun j => iI ((q j : Nat) : Int))))] := va_D_same (w := [(m0, .inr (1, [.int th, .ref t0, .ref k0, .ref p0, .int (iI ((w : Nat) : Int))])), (t0, .inl (cI, 24, .inl (fun j => iI ((tb a0 a1 j : Nat) : Int)))), (k0, .inl (cI, 12, .inl (fun j => iI ((K j : Nat) : Int)))), (p0, .inl (cI, 12, .inl (fun j => iI ((q j : Nat) : Int))))]) rfl hD
  refine st_i (y := iI 1) (congrArg iI (bI_t (by decide))) ?_
  refine ib_if_eq (tgt := 38) hx hb dX1_interval_26 (by decide) ⟨by omega, by omega⟩ (fun c_26 => absurd c_26 (by decide)) (fun c_26 => ?_)
  refine lv_aload_n hx hb dX1_interval_29 rfl (lv_at hl 0 rfl) ?_
  refine lv_iload_n hx hb dX1_interval_30 rfl (lv_at hl 1 rfl) ?_
  refine lv_iload_n hx hb dX1_interval_31 rfl (lv_at hl 2 rfl) ?_
  refine rd_call (va_runV (As := [.int (iI ((r : Nat) : Int)), .int (iI ((i : Nat) : Int))]) (rest := []) ⟨hx, hb, hml, hown, hts⟩ (mX1_step l dC dI cI m0 t0 k0 p0 a0 a1 K q (iI 0) w h0 h1 hw hq r i (by omega) (by omega)) (cwV 2 hts gX1_interval_X1_step rfl rfl rfl hvX1_step ⟨Nat.le_of_ble_eq_true rfl, Nat.le_of_ble_eq_true rfl⟩) (bW_pre (ci := 1) (q0 := 0) hK hP rfl rfl rfl) rfl rfl hl.1 rfl (lv_room (Nat.le_of_ble_eq_true rfl)) dX1_interval_32 ⟨Nat.le_of_ble_eq_true rfl, Nat.le_of_ble_eq_true rfl⟩) ?_
  have hm_32 := md_lt (((rw_ r a0 a1 (i + 1) : Nat) : Int) - ((rw_ r a0 a1 i : Nat) : Int))
  refine lv_goto (tgt := 39) hx hb dX1_interval_35 (by decide) ?_
  exact W.iret hx hb hr (fun t ht _ => ⟨rfl, by rw [ht]; exact hP, hS.F ht⟩) hS.2.2 dX1_interval_39

set_option maxHeartbeats 4000000 in
set_option maxRecDepth 100000 in
theorem mX1_interval_x1 (l : Launch) (dC : Nat → ClassId) (dI : Nat → Nat → Nat) (cI : ClassId) (m0 t0 k0 p0 : Nat) (a0 a1 K q : Nat → Nat) (th : Int32) (w : Nat) (h0 : lt12 a0) (h1 : lt12 a1) (hw : w ≤ 12) (hq : ∀ i, i < w → q i < 12) (z0 z1 : Int) (hz0 : inI z0) (hz1 : inI z1) (hbad : ¬ ((z0 = 0 ∨ z0 = 1) ∧ (0 ≤ z1 ∧ z1 ≤ 10))) : wr l yX1_interval wsX1_interval { frames := 1, cells := 0, slots := 0, locals := 22 } [.ref m0, .int (iI z0), .int (iI z1)] (dC, dI) [(m0, .inr (1, [.int th, .ref t0, .ref k0, .ref p0, .int (iI ((w : Nat) : Int))])), (t0, .inl (cI, 24, .inl (fun j => iI ((tb a0 a1 j : Nat) : Int)))), (k0, .inl (cI, 12, .inl (fun j => iI ((K j : Nat) : Int)))), (p0, .inl (cI, 12, .inl (fun j => iI ((q j : Nat) : Int))))] [(cI, .int)] [(m0, .inr (1, [.int (iI 1), .ref t0, .ref k0, .ref p0, .int (iI ((w : Nat) : Int))])), (t0, .inl (cI, 24, .inl (fun j => iI ((tb a0 a1 j : Nat) : Int)))), (k0, .inl (cI, 12, .inl (fun j => iI ((K j : Nat) : Int)))), (p0, .inl (cI, 12, .inl (fun j => iI ((q j : Nat) : Int))))] (some (.int (iI 0))) := by
  refine Met.ofW (cc := cX1_interval) (maxL := 3) (ret := (some .int)) (by decide) rfl ?_
  intro P0 e s m args below meth c s₁ B hml hv
  obtain ⟨rfl, hP, hK, hD0⟩ := hv
  have hx := B.exec
  have hb := B.bytes
  have hr := B.returns
  have hts := atoms_spec (ws := wsX1_interval) B.pre
  have hown : s.vm.findClass RX1 = some m.cls := findClass_of_methodNamed B.named
  have hlocks := B.notSynchronized
  have hinX : ∀ w ∈ u_ws RX1 TX1 5, w ∈ wsX1_interval := by decide +kernel
  have hD : va_D (inW [(m0, .inr (1, [.int th, .ref t0, .ref k0, .ref p0, .int (iI ((w : Nat) : Int))])), (t0, .inl (cI, 24, .inl (fun j => iI ((tb a0 a1 j : Nat) : Int)))), (k0, .inl (cI, 12, .inl (fun j => iI ((K j : Nat) : Int)))), (p0, .inl (cI, 12, .inl (fun j => iI ((q j : Nat) : Int))))]) [(m0, .inr (1, [.int th, .ref t0, .ref k0, .ref p0, .int (iI ((w : Nat) : Int))])), (t0, .inl (cI, 24, .inl (fun j => iI ((tb a0 a1 j : Nat) : Int)))), (k0, .inl (cI, 12, .inl (fun j => iI ((K j : Nat) : Int)))), (p0, .inl (cI, 12, .inl (fun j => iI ((q j : Nat) : Int))))] := va_D_in hD0
  have hS : va_S (inW [(m0, .inr (1, [.int th, .ref t0, .ref k0, .ref p0, .int (iI ((w : Nat) : Int))])), (t0, .inl (cI, 24, .inl (fun j => iI ((tb a0 a1 j : Nat) : Int)))), (k0, .inl (cI, 12, .inl (fun j => iI ((K j : Nat) : Int)))), (p0, .inl (cI, 12, .inl (fun j => iI ((q j : Nat) : Int))))]) s.heap s.heap [] := va_S.rf
  have hl := lv_entry ([.ref m0, .int (iI z0), .int (iI z1)]) (n := 3) (Nat.le_of_ble_eq_true rfl)
  rw [lg_entry_eq]
  generalize (lg_sl ([.ref m0, .int (iI z0), .int (iI z1)]) ++ List.replicate (3 - (lg_sl ([.ref m0, .int (iI z0), .int (iI z1)])).length) Slot.unset).toArray = ls at hl ⊢
  have hl : lv_has ls 3 [(0, .ref m0), (1, .int (iI z0)), (2, .int (iI z1))] := hl
  have hza0 := hz0.1
  have hza1 := hz1.1
  have hzb0 := hz0.2
  have hzb1 := hz1.2
  refine lv_aload_n hx hb dX1_interval_0 rfl (lv_at hl 0 rfl) ?_
  refine lv_iload_n hx hb dX1_interval_1 rfl (lv_at hl 1 rfl) ?_
  refine rd_call (va_runS (As := [.int (iI z0)]) (rest := [.ref m0]) ⟨hx, hb, hml, hown, hts⟩ (mX1_isRow l z0 ⟨by omega, by omega⟩) (va_cwS 1 hts gX1_interval_X1_isRow rfl rfl rfl hdX1_isRow ⟨Nat.le_of_ble_eq_true rfl, Nat.le_of_ble_eq_true rfl⟩) tt_pre rfl rfl hl.1 rfl (lv_room (Nat.le_of_ble_eq_true rfl)) dX1_interval_2 ⟨Nat.le_of_ble_eq_true rfl, Nat.le_of_ble_eq_true rfl⟩) ?_
  refine bb_eq (tgt := 22) hx hb dX1_interval_5 (by decide) (fun c_5 => ?_) (fun c_5 => ?_)
  · skip
    refine ib_const hx hb dX1_interval_22 ?_
    refine wr_call (va_runV (As := [.int (iI 1)]) (rest := []) ⟨hx, hb, hml, hown, hts⟩ (mX1_goesWell l dC dI cI m0 t0 k0 p0 a0 a1 K q th w h0 h1 hw hq 1 ⟨by omega, by omega⟩) (cwV 1 hts gX1_interval_X1_goesWell rfl rfl rfl hvX1_goesWell ⟨Nat.le_of_ble_eq_true rfl, Nat.le_of_ble_eq_true rfl⟩) (bD_pre (ci := 1) (q0 := 0) hK hP hD rfl rfl rfl) rfl rfl hl.1 rfl (lv_room (Nat.le_of_ble_eq_true rfl)) dX1_interval_23 ⟨Nat.le_of_ble_eq_true rfl, Nat.le_of_ble_eq_true rfl⟩) hS (fun q9 h => inW_same (w := [(m0, .inr (1, [.int th, .ref t0, .ref k0, .ref p0, .int (iI ((w : Nat) : Int))])), (t0, .inl (cI, 24, .inl (fun j => iI ((tb a0 a1 j : Nat) : Int)))), (k0, .inl (cI, 12, .inl (fun j => iI ((K j : Nat) : Int)))), (p0, .inl (cI, 12, .inl (fun j => iI ((q j : Nat) : Int))))]) (w' := [(m0, .inr (1, [.int th, .ref t0, .ref k0, .ref p0, .int (iI ((w : Nat) : Int))])), (t0, .inl (cI, 24, .inl (fun j => iI ((tb a0 a1 j : Nat) : Int)))), (k0, .inl (cI, 12, .inl (fun j => iI ((K j : Nat) : Int)))), (p0, .inl (cI, 12, .inl (fun j => iI ((q j : Nat) : Int))))]) rfl h) (fun H locs hP hz hk hS => ?_)
    have hD : va_D (inW [(m0, .inr (1, [.int th, .ref t0, .ref k0, .ref p0, .int (iI ((w : Nat) : Int))])), (t0, .inl (cI, 24, .inl (fun j => iI ((tb a0 a1 j : Nat) : Int)))), (k0, .inl (cI, 12, .inl (fun j => iI ((K j : Nat) : Int)))), (p0, .inl (cI, 12, .inl (fun j => iI ((q j : Nat) : Int))))]) [(m0, .inr (1, [.int (iI 1), .ref t0, .ref k0, .ref p0, .int (iI ((w : Nat) : Int))])), (t0, .inl (cI, 24, .inl (fun j => iI ((tb a0 a1 j : Nat) : Int)))), (k0, .inl (cI, 12, .inl (fun j => iI ((K j : Nat) : Int)))), (p0, .inl (cI, 12, .inl (fun j => iI ((q j : Nat) : Int))))] := va_D_same (w := [(m0, .inr (1, [.int th, .ref t0, .ref k0, .ref p0, .int (iI ((w : Nat) : Int))])), (t0, .inl (cI, 24, .inl (fun j => iI ((tb a0 a1 j : Nat) : Int)))), (k0, .inl (cI, 12, .inl (fun j => iI ((K j : Nat) : Int)))), (p0, .inl (cI, 12, .inl (fun j => iI ((q j : Nat) : Int))))]) rfl hD
    refine st_i (y := iI 0) (congrArg iI (bI_f (by decide))) ?_
    refine ib_if_eq (tgt := 38) hx hb dX1_interval_26 (by decide) ⟨by omega, by omega⟩ (fun c_26 => ?_) (fun c_26 => absurd c_26 (by decide))
    refine ib_const hx hb dX1_interval_38 ?_
    exact W.iret hx hb hr (fun t ht _ => ⟨rfl, by rw [ht]; exact hP, hS.F ht⟩) hS.2.2 dX1_interval_39
  · skip
    refine lv_iload_n hx hb dX1_interval_8 rfl (lv_at hl 2 rfl) ?_
    refine ib_const hx hb dX1_interval_9 ?_
    refine ib_bi hx hb dX1_interval_10 (by decide) ?_
    refine rd_call (va_runS (As := [.int (iI z1), .int (iI 0), .int (iI 10)]) (rest := [.ref m0]) ⟨hx, hb, hml, hown, hts⟩ (mX1_in l z1 0 10 ⟨by omega, by omega⟩ ⟨by omega, by omega⟩ ⟨by omega, by omega⟩) (va_cwS 3 hts gX1_interval_X1_in rfl rfl rfl hdX1_in ⟨Nat.le_of_ble_eq_true rfl, Nat.le_of_ble_eq_true rfl⟩) tt_pre rfl rfl hl.1 rfl (lv_room (Nat.le_of_ble_eq_true rfl)) dX1_interval_12 ⟨Nat.le_of_ble_eq_true rfl, Nat.le_of_ble_eq_true rfl⟩) ?_
    refine bb_eq (tgt := 22) hx hb dX1_interval_15 (by decide) (fun c_15 => ?_) (fun c_15 => ?_)
    · skip
      refine ib_const hx hb dX1_interval_22 ?_
      refine wr_call (va_runV (As := [.int (iI 1)]) (rest := []) ⟨hx, hb, hml, hown, hts⟩ (mX1_goesWell l dC dI cI m0 t0 k0 p0 a0 a1 K q th w h0 h1 hw hq 1 ⟨by omega, by omega⟩) (cwV 1 hts gX1_interval_X1_goesWell rfl rfl rfl hvX1_goesWell ⟨Nat.le_of_ble_eq_true rfl, Nat.le_of_ble_eq_true rfl⟩) (bD_pre (ci := 1) (q0 := 0) hK hP hD rfl rfl rfl) rfl rfl hl.1 rfl (lv_room (Nat.le_of_ble_eq_true rfl)) dX1_interval_23 ⟨Nat.le_of_ble_eq_true rfl, Nat.le_of_ble_eq_true rfl⟩) hS (fun q9 h => inW_same (w := [(m0, .inr (1, [.int th, .ref t0, .ref k0, .ref p0, .int (iI ((w : Nat) : Int))])), (t0, .inl (cI, 24, .inl (fun j => iI ((tb a0 a1 j : Nat) : Int)))), (k0, .inl (cI, 12, .inl (fun j => iI ((K j : Nat) : Int)))), (p0, .inl (cI, 12, .inl (fun j => iI ((q j : Nat) : Int))))]) (w' := [(m0, .inr (1, [.int th, .ref t0, .ref k0, .ref p0, .int (iI ((w : Nat) : Int))])), (t0, .inl (cI, 24, .inl (fun j => iI ((tb a0 a1 j : Nat) : Int)))), (k0, .inl (cI, 12, .inl (fun j => iI ((K j : Nat) : Int)))), (p0, .inl (cI, 12, .inl (fun j => iI ((q j : Nat) : Int))))]) rfl h) (fun H locs hP hz hk hS => ?_)
      have hD : va_D (inW [(m0, .inr (1, [.int th, .ref t0, .ref k0, .ref p0, .int (iI ((w : Nat) : Int))])), (t0, .inl (cI, 24, .inl (fun j => iI ((tb a0 a1 j : Nat) : Int)))), (k0, .inl (cI, 12, .inl (fun j => iI ((K j : Nat) : Int)))), (p0, .inl (cI, 12, .inl (fun j => iI ((q j : Nat) : Int))))]) [(m0, .inr (1, [.int (iI 1), .ref t0, .ref k0, .ref p0, .int (iI ((w : Nat) : Int))])), (t0, .inl (cI, 24, .inl (fun j => iI ((tb a0 a1 j : Nat) : Int)))), (k0, .inl (cI, 12, .inl (fun j => iI ((K j : Nat) : Int)))), (p0, .inl (cI, 12, .inl (fun j => iI ((q j : Nat) : Int))))] := va_D_same (w := [(m0, .inr (1, [.int th, .ref t0, .ref k0, .ref p0, .int (iI ((w : Nat) : Int))])), (t0, .inl (cI, 24, .inl (fun j => iI ((tb a0 a1 j : Nat) : Int)))), (k0, .inl (cI, 12, .inl (fun j => iI ((K j : Nat) : Int)))), (p0, .inl (cI, 12, .inl (fun j => iI ((q j : Nat) : Int))))]) rfl hD
      refine st_i (y := iI 0) (congrArg iI (bI_f (by decide))) ?_
      refine ib_if_eq (tgt := 38) hx hb dX1_interval_26 (by decide) ⟨by omega, by omega⟩ (fun c_26 => ?_) (fun c_26 => absurd c_26 (by decide))
      refine ib_const hx hb dX1_interval_38 ?_
      exact W.iret hx hb hr (fun t ht _ => ⟨rfl, by rw [ht]; exact hP, hS.F ht⟩) hS.2.2 dX1_interval_39
    · skip
      refine ib_const hx hb dX1_interval_18 ?_
      refine lv_goto (tgt := 23) hx hb dX1_interval_19 (by decide) ?_
      exfalso; omega

set_option maxHeartbeats 4000000 in
set_option maxRecDepth 100000 in
theorem mX1_hasAllIntervals_ok (l : Launch) (dC : Nat → ClassId) (dI : Nat → Nat → Nat) (cI : ClassId) (m0 t0 k0 p0 : Nat) (a0 a1 K q : Nat → Nat) (th : Int32) (w : Nat) (h0 : lt12 a0) (h1 : lt12 a1) (hw : w ≤ 12) (hq : ∀ i, i < w → q i < 12) (r : Nat) (hr9 : r < 2) : wr l yX1_hasAllIntervals wsX1_hasAllIntervals { frames := 2, cells := 0, slots := 0, locals := 44 } [.ref m0, .int (iI ((r : Nat) : Int))] (dC, dI) [(m0, .inr (1, [.int th, .ref t0, .ref k0, .ref p0, .int (iI ((w : Nat) : Int))])), (t0, .inl (cI, 24, .inl (fun j => iI ((tb a0 a1 j : Nat) : Int)))), (k0, .inl (cI, 12, .inl (fun j => iI ((K j : Nat) : Int)))), (p0, .inl (cI, 12, .inl (fun j => iI ((q j : Nat) : Int))))] [(cI, .int)] [(m0, .inr (1, [.int (iI 0), .ref t0, .ref k0, .ref p0, .int (iI ((w : Nat) : Int))])), (t0, .inl (cI, 24, .inl (fun j => iI ((tb a0 a1 j : Nat) : Int)))), (k0, .inl (cI, 12, .inl (fun j => iI ((K j : Nat) : Int)))), (p0, .inl (cI, 12, .inl (fun j => iI ((q j : Nat) : Int))))] (some (.int (iI (bI (ivsN (rw_ r a0 a1) 11 = 4094))))) := by
  refine Met.ofW (cc := cX1_hasAllIntervals) (maxL := 4) (ret := (some .boolean)) (by decide) rfl ?_
  intro P0 e s m args below meth c s₁ B hml hv
  obtain ⟨rfl, hP, hK, hD0⟩ := hv
  have hx := B.exec
  have hb := B.bytes
  have hr := B.returns
  have hts := atoms_spec (ws := wsX1_hasAllIntervals) B.pre
  have hown : s.vm.findClass RX1 = some m.cls := findClass_of_methodNamed B.named
  have hlocks := B.notSynchronized
  have hinX : ∀ w ∈ u_ws RX1 TX1 5, w ∈ wsX1_hasAllIntervals := by decide +kernel
  have hD : va_D (inW [(m0, .inr (1, [.int th, .ref t0, .ref k0, .ref p0, .int (iI ((w : Nat) : Int))])), (t0, .inl (cI, 24, .inl (fun j => iI ((tb a0 a1 j : Nat) : Int)))), (k0, .inl (cI, 12, .inl (fun j => iI ((K j : Nat) : Int)))), (p0, .inl (cI, 12, .inl (fun j => iI ((q j : Nat) : Int))))]) [(m0, .inr (1, [.int th, .ref t0, .ref k0, .ref p0, .int (iI ((w : Nat) : Int))])), (t0, .inl (cI, 24, .inl (fun j => iI ((tb a0 a1 j : Nat) : Int)))), (k0, .inl (cI, 12, .inl (fun j => iI ((K j : Nat) : Int)))), (p0, .inl (cI, 12, .inl (fun j => iI ((q j : Nat) : Int))))] := va_D_in hD0
  have hS : va_S (inW [(m0, .inr (1, [.int th, .ref t0, .ref k0, .ref p0, .int (iI ((w : Nat) : Int))])), (t0, .inl (cI, 24, .inl (fun j => iI ((tb a0 a1 j : Nat) : Int)))), (k0, .inl (cI, 12, .inl (fun j => iI ((K j : Nat) : Int)))), (p0, .inl (cI, 12, .inl (fun j => iI ((q j : Nat) : Int))))]) s.heap s.heap [] := va_S.rf
  have hl := lv_entry ([.ref m0, .int (iI ((r : Nat) : Int))]) (n := 4) (Nat.le_of_ble_eq_true rfl)
  rw [lg_entry_eq]
  generalize (lg_sl ([.ref m0, .int (iI ((r : Nat) : Int))]) ++ List.replicate (4 - (lg_sl ([.ref m0, .int (iI ((r : Nat) : Int))])).length) Slot.unset).toArray = ls at hl ⊢
  have hl : lv_has ls 4 [(0, .ref m0), (1, .int (iI ((r : Nat) : Int)))] := hl
  refine lv_aload_n hx hb dX1_hasAllIntervals_0 rfl (lv_at hl 0 rfl) ?_
  refine lv_iload_n hx hb dX1_hasAllIntervals_1 rfl (lv_at hl 1 rfl) ?_
  refine rd_call (va_runS (As := [.int (iI ((r : Nat) : Int))]) (rest := [.ref m0]) ⟨hx, hb, hml, hown, hts⟩ (mX1_isRow l ((r : Nat) : Int) ⟨by omega, by omega⟩) (va_cwS 1 hts gX1_hasAllIntervals_X1_isRow rfl rfl rfl hdX1_isRow ⟨Nat.le_of_ble_eq_true rfl, Nat.le_of_ble_eq_true rfl⟩) tt_pre rfl rfl hl.1 rfl (lv_room (Nat.le_of_ble_eq_true rfl)) dX1_hasAllIntervals_2 ⟨Nat.le_of_ble_eq_true rfl, Nat.le_of_ble_eq_true rfl⟩) ?_
  refine bb_eq (tgt := 12) hx hb dX1_hasAllIntervals_5 (by decide) (fun c_5 => absurd c_5 (by omega)) (fun c_5 => ?_)
  refine ib_const hx hb dX1_hasAllIntervals_8 ?_
  refine lv_goto (tgt := 13) hx hb dX1_hasAllIntervals_9 (by decide) ?_
  refine wr_call (va_runV (As := [.int (iI 0)]) (rest := []) ⟨hx, hb, hml, hown, hts⟩ (mX1_goesWell l dC dI cI m0 t0 k0 p0 a0 a1 K q th w h0 h1 hw hq 0 ⟨by omega, by omega⟩) (cwV 1 hts gX1_hasAllIntervals_X1_goesWell rfl rfl rfl hvX1_goesWell ⟨Nat.le_of_ble_eq_true rfl, Nat.le_of_ble_eq_true rfl⟩) (bD_pre (ci := 1) (q0 := 0) hK hP hD rfl rfl rfl) rfl rfl hl.1 rfl (lv_room (Nat.le_of_ble_eq_true rfl)) dX1_hasAllIntervals_13 ⟨Nat.le_of_ble_eq_true rfl, Nat.le_of_ble_eq_true rfl⟩) hS (fun q9 h => inW_same (w := [(m0, .inr (1, [.int th, .ref t0, .ref k0, .ref p0, .int (iI ((w : Nat) : Int))])), (t0, .inl (cI, 24, .inl (fun j => iI ((tb a0 a1 j : Nat) : Int)))), (k0, .inl (cI, 12, .inl (fun j => iI ((K j : Nat) : Int)))), (p0, .inl (cI, 12, .inl (fun j => iI ((q j : Nat) : Int))))]) (w' := [(m0, .inr (1, [.int th, .ref t0, .ref k0, .ref p0, .int (iI ((w : Nat) : Int))])), (t0, .inl (cI, 24, .inl (fun j => iI ((tb a0 a1 j : Nat) : Int)))), (k0, .inl (cI, 12, .inl (fun j => iI ((K j : Nat) : Int)))), (p0, .inl (cI, 12, .inl (fun j => iI ((q j : Nat) : Int))))]) rfl h) (fun H locs hP hz hk hS => ?_)
  have hD : va_D (inW [(m0, .inr (1, [.int th, .ref t0, .ref k0, .ref p0, .int (iI ((w : Nat) : Int))])), (t0, .inl (cI, 24, .inl (fun j => iI ((tb a0 a1 j : Nat) : Int)))), (k0, .inl (cI, 12, .inl (fun j => iI ((K j : Nat) : Int)))), (p0, .inl (cI, 12, .inl (fun j => iI ((q j : Nat) : Int))))]) [(m0, .inr (1, [.int (iI 0), .ref t0, .ref k0, .ref p0, .int (iI ((w : Nat) : Int))])), (t0, .inl (cI, 24, .inl (fun j => iI ((tb a0 a1 j : Nat) : Int)))), (k0, .inl (cI, 12, .inl (fun j => iI ((K j : Nat) : Int)))), (p0, .inl (cI, 12, .inl (fun j => iI ((q j : Nat) : Int))))] := va_D_same (w := [(m0, .inr (1, [.int th, .ref t0, .ref k0, .ref p0, .int (iI ((w : Nat) : Int))])), (t0, .inl (cI, 24, .inl (fun j => iI ((tb a0 a1 j : Nat) : Int)))), (k0, .inl (cI, 12, .inl (fun j => iI ((K j : Nat) : Int)))), (p0, .inl (cI, 12, .inl (fun j => iI ((q j : Nat) : Int))))]) rfl hD
  refine st_i (y := iI 1) (congrArg iI (bI_t (by decide))) ?_
  refine ib_if_ne (tgt := 21) hx hb dX1_hasAllIntervals_16 (by decide) ⟨by omega, by omega⟩ (fun c_16 => ?_) (fun c_16 => absurd c_16 (by decide))
  refine ib_const hx hb dX1_hasAllIntervals_21 ?_
  refine lv_istore_n (lv' := [(2, .int (iI 0)), (0, .ref m0), (1, .int (iI ((r : Nat) : Int)))]) hx hb dX1_hasAllIntervals_22 rfl hl (by decide) rfl (fun ls hl => ?_)
  refine ib_const hx hb dX1_hasAllIntervals_23 ?_
  refine lv_istore_n (lv' := [(3, .int (iI 0)), (2, .int (iI 0)), (0, .ref m0), (1, .int (iI ((r : Nat) : Int)))]) hx hb dX1_hasAllIntervals_24 rfl hl (by decide) rfl (fun ls hl => ?_)
  have lp_25_1 : ∀ (j n : Nat), n + j = 11 → ∀ ls : Array Slot, lv_has ls 4 [(0, .ref m0), (1, .int (iI ((r : Nat) : Int))), (2, .int (iI ((ivsN (rw_ r a0 a1) n : Nat) : Int))), (3, .int (iI ((n : Nat) : Int)))] → W P0 l e (headSpec wsX1_hasAllIntervals { frames := 2, cells := 0, slots := 0, locals := 44 }).room s m ([.ref m0, .int (iI ((r : Nat) : Int))] : List Value).toArray below meth c H locs 0 0 (MQ below (wrQ (dC, dI) (inW [(m0, .inr (1, [.int th, .ref t0, .ref k0, .ref p0, .int (iI ((w : Nat) : Int))])), (t0, .inl (cI, 24, .inl (fun j => iI ((tb a0 a1 j : Nat) : Int)))), (k0, .inl (cI, 12, .inl (fun j => iI ((K j : Nat) : Int)))), (p0, .inl (cI, 12, .inl (fun j => iI ((q j : Nat) : Int))))]) [(m0, .inr (1, [.int (iI 0), .ref t0, .ref k0, .ref p0, .int (iI ((w : Nat) : Int))])), (t0, .inl (cI, 24, .inl (fun j => iI ((tb a0 a1 j : Nat) : Int)))), (k0, .inl (cI, 12, .inl (fun j => iI ((K j : Nat) : Int)))), (p0, .inl (cI, 12, .inl (fun j => iI ((q j : Nat) : Int))))] (some (.int (iI (bI (ivsN (rw_ r a0 a1) 11 = 4094)))))) ([.ref m0, .int (iI ((r : Nat) : Int))] : List Value).toArray s 0 0 (inW [(m0, .inr (1, [.int th, .ref t0, .ref k0, .ref p0, .int (iI ((w : Nat) : Int))])), (t0, .inl (cI, 24, .inl (fun j => iI ((tb a0 a1 j : Nat) : Int)))), (k0, .inl (cI, 12, .inl (fun j => iI ((K j : Nat) : Int)))), (p0, .inl (cI, 12, .inl (fun j => iI ((q j : Nat) : Int))))])) (F0 m 25 ls []) := by
    intro j
    induction j with
    | zero =>
      intro n hn_25  ls hl
      have hiv := ivsN_lt (rw_ r a0 a1) n
      refine lv_iload_n hx hb dX1_hasAllIntervals_25 rfl (lv_at hl 3 rfl) ?_
      refine ib_bi hx hb dX1_hasAllIntervals_26 (by decide) ?_
      refine ib_icmp_ge (tgt := 48) hx hb dX1_hasAllIntervals_28 (by decide) ⟨by omega, by omega⟩ ⟨by omega, by omega⟩ (fun c_28 => ?_) (fun c_28 => absurd c_28 (by omega))
      refine lv_iload_n hx hb dX1_hasAllIntervals_48 rfl (lv_at hl 2 rfl) ?_
      refine ib_si hx hb dX1_hasAllIntervals_49 (by decide) ?_
      refine ib_icmp_ne (tgt := 59) hx hb dX1_hasAllIntervals_52 (by decide) ⟨by omega, by omega⟩ ⟨by omega, by omega⟩ (fun c_52 => ?_) (fun c_52 => ?_)
      · skip
        refine ib_const hx hb dX1_hasAllIntervals_59 ?_
        refine st_i (y := iI (bI (ivsN (rw_ r a0 a1) 11 = 4094))) (congrArg iI (hai_f (show n = 11 by omega) c_52).symm) ?_
        exact W.zret hx hb hr (bI_nar _) (fun t ht _ => ⟨rfl, by rw [ht]; exact hP, hS.F ht⟩) hS.2.2 dX1_hasAllIntervals_60
      · skip
        refine ib_const hx hb dX1_hasAllIntervals_55 ?_
        refine lv_goto (tgt := 60) hx hb dX1_hasAllIntervals_56 (by decide) ?_
        refine st_i (y := iI (bI (ivsN (rw_ r a0 a1) 11 = 4094))) (congrArg iI (hai_t (show n = 11 by omega) c_52).symm) ?_
        exact W.zret hx hb hr (bI_nar _) (fun t ht _ => ⟨rfl, by rw [ht]; exact hP, hS.F ht⟩) hS.2.2 dX1_hasAllIntervals_60
    | succ j ih_25_1 =>
      intro n hn_25  ls hl
      have hiv := ivsN_lt (rw_ r a0 a1) n
      refine lv_iload_n hx hb dX1_hasAllIntervals_25 rfl (lv_at hl 3 rfl) ?_
      refine ib_bi hx hb dX1_hasAllIntervals_26 (by decide) ?_
      refine ib_icmp_ge (tgt := 48) hx hb dX1_hasAllIntervals_28 (by decide) ⟨by omega, by omega⟩ ⟨by omega, by omega⟩ (fun c_28 => absurd c_28 (by omega)) (fun c_28 => ?_)
      refine lv_iload_n hx hb dX1_hasAllIntervals_31 rfl (lv_at hl 2 rfl) ?_
      refine ib_const hx hb dX1_hasAllIntervals_32 ?_
      refine lv_aload_n hx hb dX1_hasAllIntervals_33 rfl (lv_at hl 0 rfl) ?_
      refine lv_iload_n hx hb dX1_hasAllIntervals_34 rfl (lv_at hl 1 rfl) ?_
      refine lv_iload_n hx hb dX1_hasAllIntervals_35 rfl (lv_at hl 3 rfl) ?_
      refine rd_call (va_runV (As := [.int (iI ((r : Nat) : Int)), .int (iI ((n : Nat) : Int))]) (rest := [.int (iI 1), .int (iI ((ivsN (rw_ r a0 a1) n : Nat) : Int))]) ⟨hx, hb, hml, hown, hts⟩ (mX1_step l dC dI cI m0 t0 k0 p0 a0 a1 K q (iI 0) w h0 h1 hw hq r n (by omega) (by omega)) (cwV 2 hts gX1_hasAllIntervals_X1_step rfl rfl rfl hvX1_step ⟨Nat.le_of_ble_eq_true rfl, Nat.le_of_ble_eq_true rfl⟩) (bW_pre (ci := 1) (q0 := 0) hK hP rfl rfl rfl) rfl rfl hl.1 rfl (lv_room (Nat.le_of_ble_eq_true rfl)) dX1_hasAllIntervals_36 ⟨Nat.le_of_ble_eq_true rfl, Nat.le_of_ble_eq_true rfl⟩) ?_
      have hm_36 := md_lt (((rw_ r a0 a1 (n + 1) : Nat) : Int) - ((rw_ r a0 a1 n : Nat) : Int))
      refine lv_ishl hx hb dX1_hasAllIntervals_39 ?_
      refine st_i (y := iI ((2 ^ md (((rw_ r a0 a1 (n + 1) : Nat) : Int) - ((rw_ r a0 a1 n : Nat) : Int)) : Nat) : Int)) (ir_shl1 (by omega)) ?_
      refine lv_ior hx hb dX1_hasAllIntervals_40 ?_
      refine st_i (y := iI ((ivsN (rw_ r a0 a1) (n + 1) : Nat) : Int)) (ir_or _ _) ?_
      refine lv_istore_n (lv' := [(2, .int (iI ((ivsN (rw_ r a0 a1) (n + 1) : Nat) : Int))), (0, .ref m0), (1, .int (iI ((r : Nat) : Int))), (3, .int (iI ((n : Nat) : Int)))]) hx hb dX1_hasAllIntervals_41 rfl hl (by decide) rfl (fun ls hl => ?_)
      refine lv_iinc (v := iI ((n + 1 : Nat) : Int)) (lv' := [(3, .int (iI ((n + 1 : Nat) : Int))), (2, .int (iI ((ivsN (rw_ r a0 a1) (n + 1) : Nat) : Int))), (0, .ref m0), (1, .int (iI ((r : Nat) : Int)))]) hx hb dX1_hasAllIntervals_42 hl (k := 3) rfl (iI_inc (by omega)) (by decide) rfl (fun ls hl => ?_)
      refine lv_goto (tgt := 25) hx hb dX1_hasAllIntervals_45 (by decide) ?_
      exact ih_25_1 (n + 1) (by omega)  _ (lv_sub hl [2, 3, 1, 0] rfl)
  exact lp_25_1 11 0 (by omega)  _ (lv_sub hl [2, 3, 1, 0] rfl)

set_option maxHeartbeats 4000000 in
set_option maxRecDepth 100000 in
theorem mX1_hasAllIntervals_x1 (l : Launch) (dC : Nat → ClassId) (dI : Nat → Nat → Nat) (cI : ClassId) (m0 t0 k0 p0 : Nat) (a0 a1 K q : Nat → Nat) (th : Int32) (w : Nat) (h0 : lt12 a0) (h1 : lt12 a1) (hw : w ≤ 12) (hq : ∀ i, i < w → q i < 12) (z0 : Int) (hz0 : inI z0) (hbad : ¬ (z0 = 0 ∨ z0 = 1)) : wr l yX1_hasAllIntervals wsX1_hasAllIntervals { frames := 1, cells := 0, slots := 0, locals := 21 } [.ref m0, .int (iI z0)] (dC, dI) [(m0, .inr (1, [.int th, .ref t0, .ref k0, .ref p0, .int (iI ((w : Nat) : Int))])), (t0, .inl (cI, 24, .inl (fun j => iI ((tb a0 a1 j : Nat) : Int)))), (k0, .inl (cI, 12, .inl (fun j => iI ((K j : Nat) : Int)))), (p0, .inl (cI, 12, .inl (fun j => iI ((q j : Nat) : Int))))] [(cI, .int)] [(m0, .inr (1, [.int (iI 1), .ref t0, .ref k0, .ref p0, .int (iI ((w : Nat) : Int))])), (t0, .inl (cI, 24, .inl (fun j => iI ((tb a0 a1 j : Nat) : Int)))), (k0, .inl (cI, 12, .inl (fun j => iI ((K j : Nat) : Int)))), (p0, .inl (cI, 12, .inl (fun j => iI ((q j : Nat) : Int))))] (some (.int (iI 0))) := by
  refine Met.ofW (cc := cX1_hasAllIntervals) (maxL := 4) (ret := (some .boolean)) (by decide) rfl ?_
  intro P0 e s m args below meth c s₁ B hml hv
  obtain ⟨rfl, hP, hK, hD0⟩ := hv
  have hx := B.exec
  have hb := B.bytes
  have hr := B.returns
  have hts := atoms_spec (ws := wsX1_hasAllIntervals) B.pre
  have hown : s.vm.findClass RX1 = some m.cls := findClass_of_methodNamed B.named
  have hlocks := B.notSynchronized
  have hinX : ∀ w ∈ u_ws RX1 TX1 5, w ∈ wsX1_hasAllIntervals := by decide +kernel
  have hD : va_D (inW [(m0, .inr (1, [.int th, .ref t0, .ref k0, .ref p0, .int (iI ((w : Nat) : Int))])), (t0, .inl (cI, 24, .inl (fun j => iI ((tb a0 a1 j : Nat) : Int)))), (k0, .inl (cI, 12, .inl (fun j => iI ((K j : Nat) : Int)))), (p0, .inl (cI, 12, .inl (fun j => iI ((q j : Nat) : Int))))]) [(m0, .inr (1, [.int th, .ref t0, .ref k0, .ref p0, .int (iI ((w : Nat) : Int))])), (t0, .inl (cI, 24, .inl (fun j => iI ((tb a0 a1 j : Nat) : Int)))), (k0, .inl (cI, 12, .inl (fun j => iI ((K j : Nat) : Int)))), (p0, .inl (cI, 12, .inl (fun j => iI ((q j : Nat) : Int))))] := va_D_in hD0
  have hS : va_S (inW [(m0, .inr (1, [.int th, .ref t0, .ref k0, .ref p0, .int (iI ((w : Nat) : Int))])), (t0, .inl (cI, 24, .inl (fun j => iI ((tb a0 a1 j : Nat) : Int)))), (k0, .inl (cI, 12, .inl (fun j => iI ((K j : Nat) : Int)))), (p0, .inl (cI, 12, .inl (fun j => iI ((q j : Nat) : Int))))]) s.heap s.heap [] := va_S.rf
  have hl := lv_entry ([.ref m0, .int (iI z0)]) (n := 4) (Nat.le_of_ble_eq_true rfl)
  rw [lg_entry_eq]
  generalize (lg_sl ([.ref m0, .int (iI z0)]) ++ List.replicate (4 - (lg_sl ([.ref m0, .int (iI z0)])).length) Slot.unset).toArray = ls at hl ⊢
  have hl : lv_has ls 4 [(0, .ref m0), (1, .int (iI z0))] := hl
  have hza0 := hz0.1
  have hzb0 := hz0.2
  refine lv_aload_n hx hb dX1_hasAllIntervals_0 rfl (lv_at hl 0 rfl) ?_
  refine lv_iload_n hx hb dX1_hasAllIntervals_1 rfl (lv_at hl 1 rfl) ?_
  refine rd_call (va_runS (As := [.int (iI z0)]) (rest := [.ref m0]) ⟨hx, hb, hml, hown, hts⟩ (mX1_isRow l z0 ⟨by omega, by omega⟩) (va_cwS 1 hts gX1_hasAllIntervals_X1_isRow rfl rfl rfl hdX1_isRow ⟨Nat.le_of_ble_eq_true rfl, Nat.le_of_ble_eq_true rfl⟩) tt_pre rfl rfl hl.1 rfl (lv_room (Nat.le_of_ble_eq_true rfl)) dX1_hasAllIntervals_2 ⟨Nat.le_of_ble_eq_true rfl, Nat.le_of_ble_eq_true rfl⟩) ?_
  refine bb_eq (tgt := 12) hx hb dX1_hasAllIntervals_5 (by decide) (fun c_5 => ?_) (fun c_5 => ?_)
  · skip
    refine ib_const hx hb dX1_hasAllIntervals_12 ?_
    refine wr_call (va_runV (As := [.int (iI 1)]) (rest := []) ⟨hx, hb, hml, hown, hts⟩ (mX1_goesWell l dC dI cI m0 t0 k0 p0 a0 a1 K q th w h0 h1 hw hq 1 ⟨by omega, by omega⟩) (cwV 1 hts gX1_hasAllIntervals_X1_goesWell rfl rfl rfl hvX1_goesWell ⟨Nat.le_of_ble_eq_true rfl, Nat.le_of_ble_eq_true rfl⟩) (bD_pre (ci := 1) (q0 := 0) hK hP hD rfl rfl rfl) rfl rfl hl.1 rfl (lv_room (Nat.le_of_ble_eq_true rfl)) dX1_hasAllIntervals_13 ⟨Nat.le_of_ble_eq_true rfl, Nat.le_of_ble_eq_true rfl⟩) hS (fun q9 h => inW_same (w := [(m0, .inr (1, [.int th, .ref t0, .ref k0, .ref p0, .int (iI ((w : Nat) : Int))])), (t0, .inl (cI, 24, .inl (fun j => iI ((tb a0 a1 j : Nat) : Int)))), (k0, .inl (cI, 12, .inl (fun j => iI ((K j : Nat) : Int)))), (p0, .inl (cI, 12, .inl (fun j => iI ((q j : Nat) : Int))))]) (w' := [(m0, .inr (1, [.int th, .ref t0, .ref k0, .ref p0, .int (iI ((w : Nat) : Int))])), (t0, .inl (cI, 24, .inl (fun j => iI ((tb a0 a1 j : Nat) : Int)))), (k0, .inl (cI, 12, .inl (fun j => iI ((K j : Nat) : Int)))), (p0, .inl (cI, 12, .inl (fun j => iI ((q j : Nat) : Int))))]) rfl h) (fun H locs hP hz hk hS => ?_)
    have hD : va_D (inW [(m0, .inr (1, [.int th, .ref t0, .ref k0, .ref p0, .int (iI ((w : Nat) : Int))])), (t0, .inl (cI, 24, .inl (fun j => iI ((tb a0 a1 j : Nat) : Int)))), (k0, .inl (cI, 12, .inl (fun j => iI ((K j : Nat) : Int)))), (p0, .inl (cI, 12, .inl (fun j => iI ((q j : Nat) : Int))))]) [(m0, .inr (1, [.int (iI 1), .ref t0, .ref k0, .ref p0, .int (iI ((w : Nat) : Int))])), (t0, .inl (cI, 24, .inl (fun j => iI ((tb a0 a1 j : Nat) : Int)))), (k0, .inl (cI, 12, .inl (fun j => iI ((K j : Nat) : Int)))), (p0, .inl (cI, 12, .inl (fun j => iI ((q j : Nat) : Int))))] := va_D_same (w := [(m0, .inr (1, [.int th, .ref t0, .ref k0, .ref p0, .int (iI ((w : Nat) : Int))])), (t0, .inl (cI, 24, .inl (fun j => iI ((tb a0 a1 j : Nat) : Int)))), (k0, .inl (cI, 12, .inl (fun j => iI ((K j : Nat) : Int)))), (p0, .inl (cI, 12, .inl (fun j => iI ((q j : Nat) : Int))))]) rfl hD
    refine st_i (y := iI 0) (congrArg iI (bI_f (by decide))) ?_
    refine ib_if_ne (tgt := 21) hx hb dX1_hasAllIntervals_16 (by decide) ⟨by omega, by omega⟩ (fun c_16 => absurd c_16 (by decide)) (fun c_16 => ?_)
    refine ib_const hx hb dX1_hasAllIntervals_19 ?_
    exact W.zret hx hb hr (nar_0) (fun t ht _ => ⟨rfl, by rw [ht]; exact hP, hS.F ht⟩) hS.2.2 dX1_hasAllIntervals_20
  · skip
    refine ib_const hx hb dX1_hasAllIntervals_8 ?_
    refine lv_goto (tgt := 13) hx hb dX1_hasAllIntervals_9 (by decide) ?_
    exfalso; omega

set_option maxHeartbeats 4000000 in
set_option maxRecDepth 100000 in
theorem mX1_toneOf_ok (l : Launch) (dC : Nat → ClassId) (dI : Nat → Nat → Nat) (cI : ClassId) (m0 t0 k0 p0 : Nat) (a0 a1 K q : Nat → Nat) (th : Int32) (w : Nat) (h0 : lt12 a0) (h1 : lt12 a1) (hw : w ≤ 12) (hq : ∀ i, i < w → q i < 12) (r k i j : Nat) (hr9 : r < 2) (hk : k < 4) (hi : i < 12) (hj : j < 12) : wr l yX1_toneOf wsX1_toneOf { frames := 3, cells := 0, slots := 0, locals := 63 } [.ref m0, .int (iI ((r : Nat) : Int)), .int (iI ((k : Nat) : Int)), .int (iI ((i : Nat) : Int)), .int (iI ((j : Nat) : Int))] (dC, dI) [(m0, .inr (1, [.int th, .ref t0, .ref k0, .ref p0, .int (iI ((w : Nat) : Int))])), (t0, .inl (cI, 24, .inl (fun j => iI ((tb a0 a1 j : Nat) : Int)))), (k0, .inl (cI, 12, .inl (fun j => iI ((K j : Nat) : Int)))), (p0, .inl (cI, 12, .inl (fun j => iI ((q j : Nat) : Int))))] [(cI, .int)] [(m0, .inr (1, [.int (iI 0), .ref t0, .ref k0, .ref p0, .int (iI ((w : Nat) : Int))])), (t0, .inl (cI, 24, .inl (fun j => iI ((tb a0 a1 j : Nat) : Int)))), (k0, .inl (cI, 12, .inl (fun j => iI ((K j : Nat) : Int)))), (p0, .inl (cI, 12, .inl (fun j => iI ((q j : Nat) : Int))))] (some (.int (iI ((fm (rw_ r a0 a1) (12 * k + i) j : Nat) : Int)))) := by
  refine Met.ofW (cc := cX1_toneOf) (maxL := 5) (ret := (some .int)) (by decide) rfl ?_
  intro P0 e s m args below meth c s₁ B hml hv
  obtain ⟨rfl, hP, hK, hD0⟩ := hv
  have hx := B.exec
  have hb := B.bytes
  have hr := B.returns
  have hts := atoms_spec (ws := wsX1_toneOf) B.pre
  have hown : s.vm.findClass RX1 = some m.cls := findClass_of_methodNamed B.named
  have hlocks := B.notSynchronized
  have hinX : ∀ w ∈ u_ws RX1 TX1 5, w ∈ wsX1_toneOf := by decide +kernel
  have hD : va_D (inW [(m0, .inr (1, [.int th, .ref t0, .ref k0, .ref p0, .int (iI ((w : Nat) : Int))])), (t0, .inl (cI, 24, .inl (fun j => iI ((tb a0 a1 j : Nat) : Int)))), (k0, .inl (cI, 12, .inl (fun j => iI ((K j : Nat) : Int)))), (p0, .inl (cI, 12, .inl (fun j => iI ((q j : Nat) : Int))))]) [(m0, .inr (1, [.int th, .ref t0, .ref k0, .ref p0, .int (iI ((w : Nat) : Int))])), (t0, .inl (cI, 24, .inl (fun j => iI ((tb a0 a1 j : Nat) : Int)))), (k0, .inl (cI, 12, .inl (fun j => iI ((K j : Nat) : Int)))), (p0, .inl (cI, 12, .inl (fun j => iI ((q j : Nat) : Int))))] := va_D_in hD0
  have hS : va_S (inW [(m0, .inr (1, [.int th, .ref t0, .ref k0, .ref p0, .int (iI ((w : Nat) : Int))])), (t0, .inl (cI, 24, .inl (fun j => iI ((tb a0 a1 j : Nat) : Int)))), (k0, .inl (cI, 12, .inl (fun j => iI ((K j : Nat) : Int)))), (p0, .inl (cI, 12, .inl (fun j => iI ((q j : Nat) : Int))))]) s.heap s.heap [] := va_S.rf
  have hl := lv_entry ([.ref m0, .int (iI ((r : Nat) : Int)), .int (iI ((k : Nat) : Int)), .int (iI ((i : Nat) : Int)), .int (iI ((j : Nat) : Int))]) (n := 5) (Nat.le_of_ble_eq_true rfl)
  rw [lg_entry_eq]
  generalize (lg_sl ([.ref m0, .int (iI ((r : Nat) : Int)), .int (iI ((k : Nat) : Int)), .int (iI ((i : Nat) : Int)), .int (iI ((j : Nat) : Int))]) ++ List.replicate (5 - (lg_sl ([.ref m0, .int (iI ((r : Nat) : Int)), .int (iI ((k : Nat) : Int)), .int (iI ((i : Nat) : Int)), .int (iI ((j : Nat) : Int))])).length) Slot.unset).toArray = ls at hl ⊢
  have hl : lv_has ls 5 [(0, .ref m0), (1, .int (iI ((r : Nat) : Int))), (2, .int (iI ((k : Nat) : Int))), (3, .int (iI ((i : Nat) : Int))), (4, .int (iI ((j : Nat) : Int)))] := hl
  refine lv_aload_n hx hb dX1_toneOf_0 rfl (lv_at hl 0 rfl) ?_
  refine lv_iload_n hx hb dX1_toneOf_1 rfl (lv_at hl 1 rfl) ?_
  refine rd_call (va_runS (As := [.int (iI ((r : Nat) : Int))]) (rest := [.ref m0]) ⟨hx, hb, hml, hown, hts⟩ (mX1_isRow l ((r : Nat) : Int) ⟨by omega, by omega⟩) (va_cwS 1 hts gX1_toneOf_X1_isRow rfl rfl rfl hdX1_isRow ⟨Nat.le_of_ble_eq_true rfl, Nat.le_of_ble_eq_true rfl⟩) tt_pre rfl rfl hl.1 rfl (lv_room (Nat.le_of_ble_eq_true rfl)) dX1_toneOf_2 ⟨Nat.le_of_ble_eq_true rfl, Nat.le_of_ble_eq_true rfl⟩) ?_
  refine bb_eq (tgt := 16) hx hb dX1_toneOf_5 (by decide) (fun c_5 => absurd c_5 (by omega)) (fun c_5 => ?_)
  refine lv_iload hx hb dX1_toneOf_8 (lv_at hl 4 rfl) ?_
  refine rd_call (va_runS (As := [.int (iI ((j : Nat) : Int))]) (rest := [.ref m0]) ⟨hx, hb, hml, hown, hts⟩ (mX1_isTone l ((j : Nat) : Int) ⟨by omega, by omega⟩) (va_cwS 1 hts gX1_toneOf_X1_isTone rfl rfl rfl hdX1_isTone ⟨Nat.le_of_ble_eq_true rfl, Nat.le_of_ble_eq_true rfl⟩) tt_pre rfl rfl hl.1 rfl (lv_room (Nat.le_of_ble_eq_true rfl)) dX1_toneOf_10 ⟨Nat.le_of_ble_eq_true rfl, Nat.le_of_ble_eq_true rfl⟩) ?_
  refine bb_ne (tgt := 20) hx hb dX1_toneOf_13 (by decide) (fun c_13 => ?_) (fun c_13 => absurd c_13 (by omega))
  refine lv_iload_n hx hb dX1_toneOf_20 rfl (lv_at hl 2 rfl) ?_
  refine lv_iload_n hx hb dX1_toneOf_21 rfl (lv_at hl 3 rfl) ?_
  refine rd_call (va_runS (As := [.int (iI ((k : Nat) : Int)), .int (iI ((i : Nat) : Int))]) (rest := [.ref m0]) ⟨hx, hb, hml, hown, hts⟩ (mX1_isForm l ((k : Nat) : Int) ((i : Nat) : Int) ⟨by omega, by omega⟩ ⟨by omega, by omega⟩) (va_cwS 2 hts gX1_toneOf_X1_isForm rfl rfl rfl hdX1_isForm ⟨Nat.le_of_ble_eq_true rfl, Nat.le_of_ble_eq_true rfl⟩) tt_pre rfl rfl hl.1 rfl (lv_room (Nat.le_of_ble_eq_true rfl)) dX1_toneOf_22 ⟨Nat.le_of_ble_eq_true rfl, Nat.le_of_ble_eq_true rfl⟩) ?_
  refine bb_eq (tgt := 32) hx hb dX1_toneOf_25 (by decide) (fun c_25 => absurd c_25 (by omega)) (fun c_25 => ?_)
  refine ib_const hx hb dX1_toneOf_28 ?_
  refine lv_goto (tgt := 33) hx hb dX1_toneOf_29 (by decide) ?_
  refine wr_call (va_runV (As := [.int (iI 0)]) (rest := []) ⟨hx, hb, hml, hown, hts⟩ (mX1_goesWell l dC dI cI m0 t0 k0 p0 a0 a1 K q th w h0 h1 hw hq 0 ⟨by omega, by omega⟩) (cwV 1 hts gX1_toneOf_X1_goesWell rfl rfl rfl hvX1_goesWell ⟨Nat.le_of_ble_eq_true rfl, Nat.le_of_ble_eq_true rfl⟩) (bD_pre (ci := 1) (q0 := 0) hK hP hD rfl rfl rfl) rfl rfl hl.1 rfl (lv_room (Nat.le_of_ble_eq_true rfl)) dX1_toneOf_33 ⟨Nat.le_of_ble_eq_true rfl, Nat.le_of_ble_eq_true rfl⟩) hS (fun q9 h => inW_same (w := [(m0, .inr (1, [.int th, .ref t0, .ref k0, .ref p0, .int (iI ((w : Nat) : Int))])), (t0, .inl (cI, 24, .inl (fun j => iI ((tb a0 a1 j : Nat) : Int)))), (k0, .inl (cI, 12, .inl (fun j => iI ((K j : Nat) : Int)))), (p0, .inl (cI, 12, .inl (fun j => iI ((q j : Nat) : Int))))]) (w' := [(m0, .inr (1, [.int th, .ref t0, .ref k0, .ref p0, .int (iI ((w : Nat) : Int))])), (t0, .inl (cI, 24, .inl (fun j => iI ((tb a0 a1 j : Nat) : Int)))), (k0, .inl (cI, 12, .inl (fun j => iI ((K j : Nat) : Int)))), (p0, .inl (cI, 12, .inl (fun j => iI ((q j : Nat) : Int))))]) rfl h) (fun H locs hP hz hk hS => ?_)
  have hD : va_D (inW [(m0, .inr (1, [.int th, .ref t0, .ref k0, .ref p0, .int (iI ((w : Nat) : Int))])), (t0, .inl (cI, 24, .inl (fun j => iI ((tb a0 a1 j : Nat) : Int)))), (k0, .inl (cI, 12, .inl (fun j => iI ((K j : Nat) : Int)))), (p0, .inl (cI, 12, .inl (fun j => iI ((q j : Nat) : Int))))]) [(m0, .inr (1, [.int (iI 0), .ref t0, .ref k0, .ref p0, .int (iI ((w : Nat) : Int))])), (t0, .inl (cI, 24, .inl (fun j => iI ((tb a0 a1 j : Nat) : Int)))), (k0, .inl (cI, 12, .inl (fun j => iI ((K j : Nat) : Int)))), (p0, .inl (cI, 12, .inl (fun j => iI ((q j : Nat) : Int))))] := va_D_same (w := [(m0, .inr (1, [.int th, .ref t0, .ref k0, .ref p0, .int (iI ((w : Nat) : Int))])), (t0, .inl (cI, 24, .inl (fun j => iI ((tb a0 a1 j : Nat) : Int)))), (k0, .inl (cI, 12, .inl (fun j => iI ((K j : Nat) : Int)))), (p0, .inl (cI, 12, .inl (fun j => iI ((q j : Nat) : Int))))]) rfl hD
  refine st_i (y := iI 1) (congrArg iI (bI_t (by decide))) ?_
  refine ib_if_eq (tgt := 54) hx hb dX1_toneOf_36 (by decide) ⟨by omega, by omega⟩ (fun c_36 => absurd c_36 (by decide)) (fun c_36 => ?_)
  refine lv_aload_n hx hb dX1_toneOf_39 rfl (lv_at hl 0 rfl) ?_
  refine lv_iload_n hx hb dX1_toneOf_40 rfl (lv_at hl 1 rfl) ?_
  refine lv_iload_n hx hb dX1_toneOf_41 rfl (lv_at hl 2 rfl) ?_
  refine lv_iload_n hx hb dX1_toneOf_42 rfl (lv_at hl 3 rfl) ?_
  refine rd_call (va_runS (As := [.int (iI ((k : Nat) : Int)), .int (iI ((i : Nat) : Int))]) (rest := [.int (iI ((r : Nat) : Int)), .ref m0]) ⟨hx, hb, hml, hown, hts⟩ (mX1_codeOf l k i) (va_cwS 2 hts gX1_toneOf_X1_codeOf rfl rfl rfl hdX1_codeOf ⟨Nat.le_of_ble_eq_true rfl, Nat.le_of_ble_eq_true rfl⟩) tt_pre rfl rfl hl.1 rfl (lv_room (Nat.le_of_ble_eq_true rfl)) dX1_toneOf_43 ⟨Nat.le_of_ble_eq_true rfl, Nat.le_of_ble_eq_true rfl⟩) ?_
  refine lv_iload hx hb dX1_toneOf_46 (lv_at hl 4 rfl) ?_
  refine rd_call (va_runV (As := [.int (iI ((r : Nat) : Int)), .int (iI ((12 * k + i : Nat) : Int)), .int (iI ((j : Nat) : Int))]) (rest := []) ⟨hx, hb, hml, hown, hts⟩ (mX1_formAt l dC dI cI m0 t0 k0 p0 a0 a1 K q (iI 0) w h0 h1 hw hq r (12 * k + i) j (by omega) (by omega) (by omega)) (cwV 3 hts gX1_toneOf_X1_formAt rfl rfl rfl hvX1_formAt ⟨Nat.le_of_ble_eq_true rfl, Nat.le_of_ble_eq_true rfl⟩) (bW_pre (ci := 1) (q0 := 0) hK hP rfl rfl rfl) rfl rfl hl.1 rfl (lv_room (Nat.le_of_ble_eq_true rfl)) dX1_toneOf_48 ⟨Nat.le_of_ble_eq_true rfl, Nat.le_of_ble_eq_true rfl⟩) ?_
  have hf_48 := fm_lt (rw_ r a0 a1) (12 * k + i) j
  refine lv_goto (tgt := 55) hx hb dX1_toneOf_51 (by decide) ?_
  exact W.iret hx hb hr (fun t ht _ => ⟨rfl, by rw [ht]; exact hP, hS.F ht⟩) hS.2.2 dX1_toneOf_55

set_option maxHeartbeats 4000000 in
set_option maxRecDepth 100000 in
theorem mX1_toneOf_x1 (l : Launch) (dC : Nat → ClassId) (dI : Nat → Nat → Nat) (cI : ClassId) (m0 t0 k0 p0 : Nat) (a0 a1 K q : Nat → Nat) (th : Int32) (w : Nat) (h0 : lt12 a0) (h1 : lt12 a1) (hw : w ≤ 12) (hq : ∀ i, i < w → q i < 12) (z0 z1 z2 z3 : Int) (hz0 : inI z0) (hz1 : inI z1) (hz2 : inI z2) (hz3 : inI z3) (hbad : ¬ ((z0 = 0 ∨ z0 = 1) ∧ (0 ≤ z3 ∧ z3 ≤ 11))) : wr l yX1_toneOf wsX1_toneOf { frames := 3, cells := 0, slots := 0, locals := 63 } [.ref m0, .int (iI z0), .int (iI z1), .int (iI z2), .int (iI z3)] (dC, dI) [(m0, .inr (1, [.int th, .ref t0, .ref k0, .ref p0, .int (iI ((w : Nat) : Int))])), (t0, .inl (cI, 24, .inl (fun j => iI ((tb a0 a1 j : Nat) : Int)))), (k0, .inl (cI, 12, .inl (fun j => iI ((K j : Nat) : Int)))), (p0, .inl (cI, 12, .inl (fun j => iI ((q j : Nat) : Int))))] [(cI, .int)] [(m0, .inr (1, [.int (iI 1), .ref t0, .ref k0, .ref p0, .int (iI ((w : Nat) : Int))])), (t0, .inl (cI, 24, .inl (fun j => iI ((tb a0 a1 j : Nat) : Int)))), (k0, .inl (cI, 12, .inl (fun j => iI ((K j : Nat) : Int)))), (p0, .inl (cI, 12, .inl (fun j => iI ((q j : Nat) : Int))))] (some (.int (iI 0))) := by
  refine Met.ofW (cc := cX1_toneOf) (maxL := 5) (ret := (some .int)) (by decide) rfl ?_
  intro P0 e s m args below meth c s₁ B hml hv
  obtain ⟨rfl, hP, hK, hD0⟩ := hv
  have hx := B.exec
  have hb := B.bytes
  have hr := B.returns
  have hts := atoms_spec (ws := wsX1_toneOf) B.pre
  have hown : s.vm.findClass RX1 = some m.cls := findClass_of_methodNamed B.named
  have hlocks := B.notSynchronized
  have hinX : ∀ w ∈ u_ws RX1 TX1 5, w ∈ wsX1_toneOf := by decide +kernel
  have hD : va_D (inW [(m0, .inr (1, [.int th, .ref t0, .ref k0, .ref p0, .int (iI ((w : Nat) : Int))])), (t0, .inl (cI, 24, .inl (fun j => iI ((tb a0 a1 j : Nat) : Int)))), (k0, .inl (cI, 12, .inl (fun j => iI ((K j : Nat) : Int)))), (p0, .inl (cI, 12, .inl (fun j => iI ((q j : Nat) : Int))))]) [(m0, .inr (1, [.int th, .ref t0, .ref k0, .ref p0, .int (iI ((w : Nat) : Int))])), (t0, .inl (cI, 24, .inl (fun j => iI ((tb a0 a1 j : Nat) : Int)))), (k0, .inl (cI, 12, .inl (fun j => iI ((K j : Nat) : Int)))), (p0, .inl (cI, 12, .inl (fun j => iI ((q j : Nat) : Int))))] := va_D_in hD0
  have hS : va_S (inW [(m0, .inr (1, [.int th, .ref t0, .ref k0, .ref p0, .int (iI ((w : Nat) : Int))])), (t0, .inl (cI, 24, .inl (fun j => iI ((tb a0 a1 j : Nat) : Int)))), (k0, .inl (cI, 12, .inl (fun j => iI ((K j : Nat) : Int)))), (p0, .inl (cI, 12, .inl (fun j => iI ((q j : Nat) : Int))))]) s.heap s.heap [] := va_S.rf
  have hl := lv_entry ([.ref m0, .int (iI z0), .int (iI z1), .int (iI z2), .int (iI z3)]) (n := 5) (Nat.le_of_ble_eq_true rfl)
  rw [lg_entry_eq]
  generalize (lg_sl ([.ref m0, .int (iI z0), .int (iI z1), .int (iI z2), .int (iI z3)]) ++ List.replicate (5 - (lg_sl ([.ref m0, .int (iI z0), .int (iI z1), .int (iI z2), .int (iI z3)])).length) Slot.unset).toArray = ls at hl ⊢
  have hl : lv_has ls 5 [(0, .ref m0), (1, .int (iI z0)), (2, .int (iI z1)), (3, .int (iI z2)), (4, .int (iI z3))] := hl
  have hza0 := hz0.1
  have hza1 := hz1.1
  have hza2 := hz2.1
  have hza3 := hz3.1
  have hzb0 := hz0.2
  have hzb1 := hz1.2
  have hzb2 := hz2.2
  have hzb3 := hz3.2
  refine lv_aload_n hx hb dX1_toneOf_0 rfl (lv_at hl 0 rfl) ?_
  refine lv_iload_n hx hb dX1_toneOf_1 rfl (lv_at hl 1 rfl) ?_
  refine rd_call (va_runS (As := [.int (iI z0)]) (rest := [.ref m0]) ⟨hx, hb, hml, hown, hts⟩ (mX1_isRow l z0 ⟨by omega, by omega⟩) (va_cwS 1 hts gX1_toneOf_X1_isRow rfl rfl rfl hdX1_isRow ⟨Nat.le_of_ble_eq_true rfl, Nat.le_of_ble_eq_true rfl⟩) tt_pre rfl rfl hl.1 rfl (lv_room (Nat.le_of_ble_eq_true rfl)) dX1_toneOf_2 ⟨Nat.le_of_ble_eq_true rfl, Nat.le_of_ble_eq_true rfl⟩) ?_
  refine bb_eq (tgt := 16) hx hb dX1_toneOf_5 (by decide) (fun c_5 => ?_) (fun c_5 => ?_)
  · skip
    refine ib_const hx hb dX1_toneOf_16 ?_
    refine lv_goto (tgt := 33) hx hb dX1_toneOf_17 (by decide) ?_
    refine wr_call (va_runV (As := [.int (iI 1)]) (rest := []) ⟨hx, hb, hml, hown, hts⟩ (mX1_goesWell l dC dI cI m0 t0 k0 p0 a0 a1 K q th w h0 h1 hw hq 1 ⟨by omega, by omega⟩) (cwV 1 hts gX1_toneOf_X1_goesWell rfl rfl rfl hvX1_goesWell ⟨Nat.le_of_ble_eq_true rfl, Nat.le_of_ble_eq_true rfl⟩) (bD_pre (ci := 1) (q0 := 0) hK hP hD rfl rfl rfl) rfl rfl hl.1 rfl (lv_room (Nat.le_of_ble_eq_true rfl)) dX1_toneOf_33 ⟨Nat.le_of_ble_eq_true rfl, Nat.le_of_ble_eq_true rfl⟩) hS (fun q9 h => inW_same (w := [(m0, .inr (1, [.int th, .ref t0, .ref k0, .ref p0, .int (iI ((w : Nat) : Int))])), (t0, .inl (cI, 24, .inl (fun j => iI ((tb a0 a1 j : Nat) : Int)))), (k0, .inl (cI, 12, .inl (fun j => iI ((K j : Nat) : Int)))), (p0, .inl (cI, 12, .inl (fun j => iI ((q j : Nat) : Int))))]) (w' := [(m0, .inr (1, [.int th, .ref t0, .ref k0, .ref p0, .int (iI ((w : Nat) : Int))])), (t0, .inl (cI, 24, .inl (fun j => iI ((tb a0 a1 j : Nat) : Int)))), (k0, .inl (cI, 12, .inl (fun j => iI ((K j : Nat) : Int)))), (p0, .inl (cI, 12, .inl (fun j => iI ((q j : Nat) : Int))))]) rfl h) (fun H locs hP hz hk hS => ?_)
    have hD : va_D (inW [(m0, .inr (1, [.int th, .ref t0, .ref k0, .ref p0, .int (iI ((w : Nat) : Int))])), (t0, .inl (cI, 24, .inl (fun j => iI ((tb a0 a1 j : Nat) : Int)))), (k0, .inl (cI, 12, .inl (fun j => iI ((K j : Nat) : Int)))), (p0, .inl (cI, 12, .inl (fun j => iI ((q j : Nat) : Int))))]) [(m0, .inr (1, [.int (iI 1), .ref t0, .ref k0, .ref p0, .int (iI ((w : Nat) : Int))])), (t0, .inl (cI, 24, .inl (fun j => iI ((tb a0 a1 j : Nat) : Int)))), (k0, .inl (cI, 12, .inl (fun j => iI ((K j : Nat) : Int)))), (p0, .inl (cI, 12, .inl (fun j => iI ((q j : Nat) : Int))))] := va_D_same (w := [(m0, .inr (1, [.int th, .ref t0, .ref k0, .ref p0, .int (iI ((w : Nat) : Int))])), (t0, .inl (cI, 24, .inl (fun j => iI ((tb a0 a1 j : Nat) : Int)))), (k0, .inl (cI, 12, .inl (fun j => iI ((K j : Nat) : Int)))), (p0, .inl (cI, 12, .inl (fun j => iI ((q j : Nat) : Int))))]) rfl hD
    refine st_i (y := iI 0) (congrArg iI (bI_f (by decide))) ?_
    refine ib_if_eq (tgt := 54) hx hb dX1_toneOf_36 (by decide) ⟨by omega, by omega⟩ (fun c_36 => ?_) (fun c_36 => absurd c_36 (by decide))
    refine ib_const hx hb dX1_toneOf_54 ?_
    exact W.iret hx hb hr (fun t ht _ => ⟨rfl, by rw [ht]; exact hP, hS.F ht⟩) hS.2.2 dX1_toneOf_55
  · skip
    refine lv_iload hx hb dX1_toneOf_8 (lv_at hl 4 rfl) ?_
    refine rd_call (va_runS (As := [.int (iI z3)]) (rest := [.ref m0]) ⟨hx, hb, hml, hown, hts⟩ (mX1_isTone l z3 ⟨by omega, by omega⟩) (va_cwS 1 hts gX1_toneOf_X1_isTone rfl rfl rfl hdX1_isTone ⟨Nat.le_of_ble_eq_true rfl, Nat.le_of_ble_eq_true rfl⟩) tt_pre rfl rfl hl.1 rfl (lv_room (Nat.le_of_ble_eq_true rfl)) dX1_toneOf_10 ⟨Nat.le_of_ble_eq_true rfl, Nat.le_of_ble_eq_true rfl⟩) ?_
    refine bb_ne (tgt := 20) hx hb dX1_toneOf_13 (by decide) (fun c_13 => ?_) (fun c_13 => ?_)
    · skip
      refine lv_iload_n hx hb dX1_toneOf_20 rfl (lv_at hl 2 rfl) ?_
      refine lv_iload_n hx hb dX1_toneOf_21 rfl (lv_at hl 3 rfl) ?_
      refine rd_call (va_runS (As := [.int (iI z1), .int (iI z2)]) (rest := [.ref m0]) ⟨hx, hb, hml, hown, hts⟩ (mX1_isForm l z1 z2 ⟨by omega, by omega⟩ ⟨by omega, by omega⟩) (va_cwS 2 hts gX1_toneOf_X1_isForm rfl rfl rfl hdX1_isForm ⟨Nat.le_of_ble_eq_true rfl, Nat.le_of_ble_eq_true rfl⟩) tt_pre rfl rfl hl.1 rfl (lv_room (Nat.le_of_ble_eq_true rfl)) dX1_toneOf_22 ⟨Nat.le_of_ble_eq_true rfl, Nat.le_of_ble_eq_true rfl⟩) ?_
      refine bb_eq (tgt := 32) hx hb dX1_toneOf_25 (by decide) (fun c_25 => ?_) (fun c_25 => ?_)
      · skip
        refine ib_const hx hb dX1_toneOf_32 ?_
        exfalso; omega
      · skip
        refine ib_const hx hb dX1_toneOf_28 ?_
        refine lv_goto (tgt := 33) hx hb dX1_toneOf_29 (by decide) ?_
        exfalso; omega
    · skip
      refine ib_const hx hb dX1_toneOf_16 ?_
      refine lv_goto (tgt := 33) hx hb dX1_toneOf_17 (by decide) ?_
      refine wr_call (va_runV (As := [.int (iI 1)]) (rest := []) ⟨hx, hb, hml, hown, hts⟩ (mX1_goesWell l dC dI cI m0 t0 k0 p0 a0 a1 K q th w h0 h1 hw hq 1 ⟨by omega, by omega⟩) (cwV 1 hts gX1_toneOf_X1_goesWell rfl rfl rfl hvX1_goesWell ⟨Nat.le_of_ble_eq_true rfl, Nat.le_of_ble_eq_true rfl⟩) (bD_pre (ci := 1) (q0 := 0) hK hP hD rfl rfl rfl) rfl rfl hl.1 rfl (lv_room (Nat.le_of_ble_eq_true rfl)) dX1_toneOf_33 ⟨Nat.le_of_ble_eq_true rfl, Nat.le_of_ble_eq_true rfl⟩) hS (fun q9 h => inW_same (w := [(m0, .inr (1, [.int th, .ref t0, .ref k0, .ref p0, .int (iI ((w : Nat) : Int))])), (t0, .inl (cI, 24, .inl (fun j => iI ((tb a0 a1 j : Nat) : Int)))), (k0, .inl (cI, 12, .inl (fun j => iI ((K j : Nat) : Int)))), (p0, .inl (cI, 12, .inl (fun j => iI ((q j : Nat) : Int))))]) (w' := [(m0, .inr (1, [.int th, .ref t0, .ref k0, .ref p0, .int (iI ((w : Nat) : Int))])), (t0, .inl (cI, 24, .inl (fun j => iI ((tb a0 a1 j : Nat) : Int)))), (k0, .inl (cI, 12, .inl (fun j => iI ((K j : Nat) : Int)))), (p0, .inl (cI, 12, .inl (fun j => iI ((q j : Nat) : Int))))]) rfl h) (fun H locs hP hz hk hS => ?_)
      have hD : va_D (inW [(m0, .inr (1, [.int th, .ref t0, .ref k0, .ref p0, .int (iI ((w : Nat) : Int))])), (t0, .inl (cI, 24, .inl (fun j => iI ((tb a0 a1 j : Nat) : Int)))), (k0, .inl (cI, 12, .inl (fun j => iI ((K j : Nat) : Int)))), (p0, .inl (cI, 12, .inl (fun j => iI ((q j : Nat) : Int))))]) [(m0, .inr (1, [.int (iI 1), .ref t0, .ref k0, .ref p0, .int (iI ((w : Nat) : Int))])), (t0, .inl (cI, 24, .inl (fun j => iI ((tb a0 a1 j : Nat) : Int)))), (k0, .inl (cI, 12, .inl (fun j => iI ((K j : Nat) : Int)))), (p0, .inl (cI, 12, .inl (fun j => iI ((q j : Nat) : Int))))] := va_D_same (w := [(m0, .inr (1, [.int th, .ref t0, .ref k0, .ref p0, .int (iI ((w : Nat) : Int))])), (t0, .inl (cI, 24, .inl (fun j => iI ((tb a0 a1 j : Nat) : Int)))), (k0, .inl (cI, 12, .inl (fun j => iI ((K j : Nat) : Int)))), (p0, .inl (cI, 12, .inl (fun j => iI ((q j : Nat) : Int))))]) rfl hD
      refine st_i (y := iI 0) (congrArg iI (bI_f (by decide))) ?_
      refine ib_if_eq (tgt := 54) hx hb dX1_toneOf_36 (by decide) ⟨by omega, by omega⟩ (fun c_36 => ?_) (fun c_36 => absurd c_36 (by decide))
      refine ib_const hx hb dX1_toneOf_54 ?_
      exact W.iret hx hb hr (fun t ht _ => ⟨rfl, by rw [ht]; exact hP, hS.F ht⟩) hS.2.2 dX1_toneOf_55

set_option maxHeartbeats 4000000 in
set_option maxRecDepth 100000 in
theorem mX1_toneOf_x2 (l : Launch) (dC : Nat → ClassId) (dI : Nat → Nat → Nat) (cI : ClassId) (m0 t0 k0 p0 : Nat) (a0 a1 K q : Nat → Nat) (th : Int32) (w : Nat) (h0 : lt12 a0) (h1 : lt12 a1) (hw : w ≤ 12) (hq : ∀ i, i < w → q i < 12) (z0 z1 z2 z3 : Int) (hz0 : inI z0) (hz1 : inI z1) (hz2 : inI z2) (hz3 : inI z3) (hbad : ((z0 = 0 ∨ z0 = 1) ∧ (0 ≤ z3 ∧ z3 ≤ 11)) ∧ ¬ (0 ≤ z1 ∧ z1 ≤ 3 ∧ 0 ≤ z2 ∧ z2 ≤ 11)) : wr l yX1_toneOf wsX1_toneOf { frames := 3, cells := 0, slots := 0, locals := 63 } [.ref m0, .int (iI z0), .int (iI z1), .int (iI z2), .int (iI z3)] (dC, dI) [(m0, .inr (1, [.int th, .ref t0, .ref k0, .ref p0, .int (iI ((w : Nat) : Int))])), (t0, .inl (cI, 24, .inl (fun j => iI ((tb a0 a1 j : Nat) : Int)))), (k0, .inl (cI, 12, .inl (fun j => iI ((K j : Nat) : Int)))), (p0, .inl (cI, 12, .inl (fun j => iI ((q j : Nat) : Int))))] [(cI, .int)] [(m0, .inr (1, [.int (iI 2), .ref t0, .ref k0, .ref p0, .int (iI ((w : Nat) : Int))])), (t0, .inl (cI, 24, .inl (fun j => iI ((tb a0 a1 j : Nat) : Int)))), (k0, .inl (cI, 12, .inl (fun j => iI ((K j : Nat) : Int)))), (p0, .inl (cI, 12, .inl (fun j => iI ((q j : Nat) : Int))))] (some (.int (iI 0))) := by
  refine Met.ofW (cc := cX1_toneOf) (maxL := 5) (ret := (some .int)) (by decide) rfl ?_
  intro P0 e s m args below meth c s₁ B hml hv
  obtain ⟨rfl, hP, hK, hD0⟩ := hv
  have hx := B.exec
  have hb := B.bytes
  have hr := B.returns
  have hts := atoms_spec (ws := wsX1_toneOf) B.pre
  have hown : s.vm.findClass RX1 = some m.cls := findClass_of_methodNamed B.named
  have hlocks := B.notSynchronized
  have hinX : ∀ w ∈ u_ws RX1 TX1 5, w ∈ wsX1_toneOf := by decide +kernel
  have hD : va_D (inW [(m0, .inr (1, [.int th, .ref t0, .ref k0, .ref p0, .int (iI ((w : Nat) : Int))])), (t0, .inl (cI, 24, .inl (fun j => iI ((tb a0 a1 j : Nat) : Int)))), (k0, .inl (cI, 12, .inl (fun j => iI ((K j : Nat) : Int)))), (p0, .inl (cI, 12, .inl (fun j => iI ((q j : Nat) : Int))))]) [(m0, .inr (1, [.int th, .ref t0, .ref k0, .ref p0, .int (iI ((w : Nat) : Int))])), (t0, .inl (cI, 24, .inl (fun j => iI ((tb a0 a1 j : Nat) : Int)))), (k0, .inl (cI, 12, .inl (fun j => iI ((K j : Nat) : Int)))), (p0, .inl (cI, 12, .inl (fun j => iI ((q j : Nat) : Int))))] := va_D_in hD0
  have hS : va_S (inW [(m0, .inr (1, [.int th, .ref t0, .ref k0, .ref p0, .int (iI ((w : Nat) : Int))])), (t0, .inl (cI, 24, .inl (fun j => iI ((tb a0 a1 j : Nat) : Int)))), (k0, .inl (cI, 12, .inl (fun j => iI ((K j : Nat) : Int)))), (p0, .inl (cI, 12, .inl (fun j => iI ((q j : Nat) : Int))))]) s.heap s.heap [] := va_S.rf
  have hl := lv_entry ([.ref m0, .int (iI z0), .int (iI z1), .int (iI z2), .int (iI z3)]) (n := 5) (Nat.le_of_ble_eq_true rfl)
  rw [lg_entry_eq]
  generalize (lg_sl ([.ref m0, .int (iI z0), .int (iI z1), .int (iI z2), .int (iI z3)]) ++ List.replicate (5 - (lg_sl ([.ref m0, .int (iI z0), .int (iI z1), .int (iI z2), .int (iI z3)])).length) Slot.unset).toArray = ls at hl ⊢
  have hl : lv_has ls 5 [(0, .ref m0), (1, .int (iI z0)), (2, .int (iI z1)), (3, .int (iI z2)), (4, .int (iI z3))] := hl
  have hza0 := hz0.1
  have hza1 := hz1.1
  have hza2 := hz2.1
  have hza3 := hz3.1
  have hzb0 := hz0.2
  have hzb1 := hz1.2
  have hzb2 := hz2.2
  have hzb3 := hz3.2
  refine lv_aload_n hx hb dX1_toneOf_0 rfl (lv_at hl 0 rfl) ?_
  refine lv_iload_n hx hb dX1_toneOf_1 rfl (lv_at hl 1 rfl) ?_
  refine rd_call (va_runS (As := [.int (iI z0)]) (rest := [.ref m0]) ⟨hx, hb, hml, hown, hts⟩ (mX1_isRow l z0 ⟨by omega, by omega⟩) (va_cwS 1 hts gX1_toneOf_X1_isRow rfl rfl rfl hdX1_isRow ⟨Nat.le_of_ble_eq_true rfl, Nat.le_of_ble_eq_true rfl⟩) tt_pre rfl rfl hl.1 rfl (lv_room (Nat.le_of_ble_eq_true rfl)) dX1_toneOf_2 ⟨Nat.le_of_ble_eq_true rfl, Nat.le_of_ble_eq_true rfl⟩) ?_
  refine bb_eq (tgt := 16) hx hb dX1_toneOf_5 (by decide) (fun c_5 => ?_) (fun c_5 => ?_)
  · skip
    refine ib_const hx hb dX1_toneOf_16 ?_
    refine lv_goto (tgt := 33) hx hb dX1_toneOf_17 (by decide) ?_
    exfalso; omega
  · skip
    refine lv_iload hx hb dX1_toneOf_8 (lv_at hl 4 rfl) ?_
    refine rd_call (va_runS (As := [.int (iI z3)]) (rest := [.ref m0]) ⟨hx, hb, hml, hown, hts⟩ (mX1_isTone l z3 ⟨by omega, by omega⟩) (va_cwS 1 hts gX1_toneOf_X1_isTone rfl rfl rfl hdX1_isTone ⟨Nat.le_of_ble_eq_true rfl, Nat.le_of_ble_eq_true rfl⟩) tt_pre rfl rfl hl.1 rfl (lv_room (Nat.le_of_ble_eq_true rfl)) dX1_toneOf_10 ⟨Nat.le_of_ble_eq_true rfl, Nat.le_of_ble_eq_true rfl⟩) ?_
    refine bb_ne (tgt := 20) hx hb dX1_toneOf_13 (by decide) (fun c_13 => ?_) (fun c_13 => ?_)
    · skip
      refine lv_iload_n hx hb dX1_toneOf_20 rfl (lv_at hl 2 rfl) ?_
      refine lv_iload_n hx hb dX1_toneOf_21 rfl (lv_at hl 3 rfl) ?_
      refine rd_call (va_runS (As := [.int (iI z1), .int (iI z2)]) (rest := [.ref m0]) ⟨hx, hb, hml, hown, hts⟩ (mX1_isForm l z1 z2 ⟨by omega, by omega⟩ ⟨by omega, by omega⟩) (va_cwS 2 hts gX1_toneOf_X1_isForm rfl rfl rfl hdX1_isForm ⟨Nat.le_of_ble_eq_true rfl, Nat.le_of_ble_eq_true rfl⟩) tt_pre rfl rfl hl.1 rfl (lv_room (Nat.le_of_ble_eq_true rfl)) dX1_toneOf_22 ⟨Nat.le_of_ble_eq_true rfl, Nat.le_of_ble_eq_true rfl⟩) ?_
      refine bb_eq (tgt := 32) hx hb dX1_toneOf_25 (by decide) (fun c_25 => ?_) (fun c_25 => ?_)
      · skip
        refine ib_const hx hb dX1_toneOf_32 ?_
        refine wr_call (va_runV (As := [.int (iI 2)]) (rest := []) ⟨hx, hb, hml, hown, hts⟩ (mX1_goesWell l dC dI cI m0 t0 k0 p0 a0 a1 K q th w h0 h1 hw hq 2 ⟨by omega, by omega⟩) (cwV 1 hts gX1_toneOf_X1_goesWell rfl rfl rfl hvX1_goesWell ⟨Nat.le_of_ble_eq_true rfl, Nat.le_of_ble_eq_true rfl⟩) (bD_pre (ci := 1) (q0 := 0) hK hP hD rfl rfl rfl) rfl rfl hl.1 rfl (lv_room (Nat.le_of_ble_eq_true rfl)) dX1_toneOf_33 ⟨Nat.le_of_ble_eq_true rfl, Nat.le_of_ble_eq_true rfl⟩) hS (fun q9 h => inW_same (w := [(m0, .inr (1, [.int th, .ref t0, .ref k0, .ref p0, .int (iI ((w : Nat) : Int))])), (t0, .inl (cI, 24, .inl (fun j => iI ((tb a0 a1 j : Nat) : Int)))), (k0, .inl (cI, 12, .inl (fun j => iI ((K j : Nat) : Int)))), (p0, .inl (cI, 12, .inl (fun j => iI ((q j : Nat) : Int))))]) (w' := [(m0, .inr (1, [.int th, .ref t0, .ref k0, .ref p0, .int (iI ((w : Nat) : Int))])), (t0, .inl (cI, 24, .inl (fun j => iI ((tb a0 a1 j : Nat) : Int)))), (k0, .inl (cI, 12, .inl (fun j => iI ((K j : Nat) : Int)))), (p0, .inl (cI, 12, .inl (fun j => iI ((q j : Nat) : Int))))]) rfl h) (fun H locs hP hz hk hS => ?_)
        have hD : va_D (inW [(m0, .inr (1, [.int th, .ref t0, .ref k0, .ref p0, .int (iI ((w : Nat) : Int))])), (t0, .inl (cI, 24, .inl (fun j => iI ((tb a0 a1 j : Nat) : Int)))), (k0, .inl (cI, 12, .inl (fun j => iI ((K j : Nat) : Int)))), (p0, .inl (cI, 12, .inl (fun j => iI ((q j : Nat) : Int))))]) [(m0, .inr (1, [.int (iI 2), .ref t0, .ref k0, .ref p0, .int (iI ((w : Nat) : Int))])), (t0, .inl (cI, 24, .inl (fun j => iI ((tb a0 a1 j : Nat) : Int)))), (k0, .inl (cI, 12, .inl (fun j => iI ((K j : Nat) : Int)))), (p0, .inl (cI, 12, .inl (fun j => iI ((q j : Nat) : Int))))] := va_D_same (w := [(m0, .inr (1, [.int th, .ref t0, .ref k0, .ref p0, .int (iI ((w : Nat) : Int))])), (t0, .inl (cI, 24, .inl (fun j => iI ((tb a0 a1 j : Nat) : Int)))), (k0, .inl (cI, 12, .inl (fun j => iI ((K j : Nat) : Int)))), (p0, .inl (cI, 12, .inl (fun j => iI ((q j : Nat) : Int))))]) rfl hD
        refine st_i (y := iI 0) (congrArg iI (bI_f (by decide))) ?_
        refine ib_if_eq (tgt := 54) hx hb dX1_toneOf_36 (by decide) ⟨by omega, by omega⟩ (fun c_36 => ?_) (fun c_36 => absurd c_36 (by decide))
        refine ib_const hx hb dX1_toneOf_54 ?_
        exact W.iret hx hb hr (fun t ht _ => ⟨rfl, by rw [ht]; exact hP, hS.F ht⟩) hS.2.2 dX1_toneOf_55
      · skip
        refine ib_const hx hb dX1_toneOf_28 ?_
        refine lv_goto (tgt := 33) hx hb dX1_toneOf_29 (by decide) ?_
        exfalso; omega
    · skip
      refine ib_const hx hb dX1_toneOf_16 ?_
      refine lv_goto (tgt := 33) hx hb dX1_toneOf_17 (by decide) ?_
      exfalso; omega

set_option maxHeartbeats 4000000 in
set_option maxRecDepth 100000 in
theorem mX1_matrix_ok (l : Launch) (dC : Nat → ClassId) (dI : Nat → Nat → Nat) (cI : ClassId) (m0 t0 k0 p0 : Nat) (a0 a1 K q : Nat → Nat) (th : Int32) (w : Nat) (h0 : lt12 a0) (h1 : lt12 a1) (hw : w ≤ 12) (hq : ∀ i, i < w → q i < 12) (r i j : Nat) (hr9 : r < 2) (hi : i < 12) (hj : j < 12) : wr l yX1_matrix wsX1_matrix { frames := 2, cells := 0, slots := 0, locals := 48 } [.ref m0, .int (iI ((r : Nat) : Int)), .int (iI ((i : Nat) : Int)), .int (iI ((j : Nat) : Int))] (dC, dI) [(m0, .inr (1, [.int th, .ref t0, .ref k0, .ref p0, .int (iI ((w : Nat) : Int))])), (t0, .inl (cI, 24, .inl (fun j => iI ((tb a0 a1 j : Nat) : Int)))), (k0, .inl (cI, 12, .inl (fun j => iI ((K j : Nat) : Int)))), (p0, .inl (cI, 12, .inl (fun j => iI ((q j : Nat) : Int))))] [(cI, .int)] [(m0, .inr (1, [.int (iI 0), .ref t0, .ref k0, .ref p0, .int (iI ((w : Nat) : Int))])), (t0, .inl (cI, 24, .inl (fun j => iI ((tb a0 a1 j : Nat) : Int)))), (k0, .inl (cI, 12, .inl (fun j => iI ((K j : Nat) : Int)))), (p0, .inl (cI, 12, .inl (fun j => iI ((q j : Nat) : Int))))] (some (.int (iI ((fm (rw_ r a0 a1) (12 * 0 + fm (rw_ r a0 a1) (12 * 1 + rw_ r a0 a1 0) i) j : Nat) : Int)))) := by
  refine Met.ofW (cc := cX1_matrix) (maxL := 5) (ret := (some .int)) (by decide) rfl ?_
  intro P0 e s m args below meth c s₁ B hml hv
  obtain ⟨rfl, hP, hK, hD0⟩ := hv
  have hx := B.exec
  have hb := B.bytes
  have hr := B.returns
  have hts := atoms_spec (ws := wsX1_matrix) B.pre
  have hown : s.vm.findClass RX1 = some m.cls := findClass_of_methodNamed B.named
  have hlocks := B.notSynchronized
  have hinX : ∀ w ∈ u_ws RX1 TX1 5, w ∈ wsX1_matrix := by decide +kernel
  have hD : va_D (inW [(m0, .inr (1, [.int th, .ref t0, .ref k0, .ref p0, .int (iI ((w : Nat) : Int))])), (t0, .inl (cI, 24, .inl (fun j => iI ((tb a0 a1 j : Nat) : Int)))), (k0, .inl (cI, 12, .inl (fun j => iI ((K j : Nat) : Int)))), (p0, .inl (cI, 12, .inl (fun j => iI ((q j : Nat) : Int))))]) [(m0, .inr (1, [.int th, .ref t0, .ref k0, .ref p0, .int (iI ((w : Nat) : Int))])), (t0, .inl (cI, 24, .inl (fun j => iI ((tb a0 a1 j : Nat) : Int)))), (k0, .inl (cI, 12, .inl (fun j => iI ((K j : Nat) : Int)))), (p0, .inl (cI, 12, .inl (fun j => iI ((q j : Nat) : Int))))] := va_D_in hD0
  have hS : va_S (inW [(m0, .inr (1, [.int th, .ref t0, .ref k0, .ref p0, .int (iI ((w : Nat) : Int))])), (t0, .inl (cI, 24, .inl (fun j => iI ((tb a0 a1 j : Nat) : Int)))), (k0, .inl (cI, 12, .inl (fun j => iI ((K j : Nat) : Int)))), (p0, .inl (cI, 12, .inl (fun j => iI ((q j : Nat) : Int))))]) s.heap s.heap [] := va_S.rf
  have hl := lv_entry ([.ref m0, .int (iI ((r : Nat) : Int)), .int (iI ((i : Nat) : Int)), .int (iI ((j : Nat) : Int))]) (n := 5) (Nat.le_of_ble_eq_true rfl)
  rw [lg_entry_eq]
  generalize (lg_sl ([.ref m0, .int (iI ((r : Nat) : Int)), .int (iI ((i : Nat) : Int)), .int (iI ((j : Nat) : Int))]) ++ List.replicate (5 - (lg_sl ([.ref m0, .int (iI ((r : Nat) : Int)), .int (iI ((i : Nat) : Int)), .int (iI ((j : Nat) : Int))])).length) Slot.unset).toArray = ls at hl ⊢
  have hl : lv_has ls 5 [(0, .ref m0), (1, .int (iI ((r : Nat) : Int))), (2, .int (iI ((i : Nat) : Int))), (3, .int (iI ((j : Nat) : Int)))] := hl
  refine lv_aload_n hx hb dX1_matrix_0 rfl (lv_at hl 0 rfl) ?_
  refine lv_iload_n hx hb dX1_matrix_1 rfl (lv_at hl 1 rfl) ?_
  refine rd_call (va_runS (As := [.int (iI ((r : Nat) : Int))]) (rest := [.ref m0]) ⟨hx, hb, hml, hown, hts⟩ (mX1_isRow l ((r : Nat) : Int) ⟨by omega, by omega⟩) (va_cwS 1 hts gX1_matrix_X1_isRow rfl rfl rfl hdX1_isRow ⟨Nat.le_of_ble_eq_true rfl, Nat.le_of_ble_eq_true rfl⟩) tt_pre rfl rfl hl.1 rfl (lv_room (Nat.le_of_ble_eq_true rfl)) dX1_matrix_2 ⟨Nat.le_of_ble_eq_true rfl, Nat.le_of_ble_eq_true rfl⟩) ?_
  refine bb_eq (tgt := 26) hx hb dX1_matrix_5 (by decide) (fun c_5 => absurd c_5 (by omega)) (fun c_5 => ?_)
  refine lv_iload_n hx hb dX1_matrix_8 rfl (lv_at hl 2 rfl) ?_
  refine rd_call (va_runS (As := [.int (iI ((i : Nat) : Int))]) (rest := [.ref m0]) ⟨hx, hb, hml, hown, hts⟩ (mX1_isTone l ((i : Nat) : Int) ⟨by omega, by omega⟩) (va_cwS 1 hts gX1_matrix_X1_isTone rfl rfl rfl hdX1_isTone ⟨Nat.le_of_ble_eq_true rfl, Nat.le_of_ble_eq_true rfl⟩) tt_pre rfl rfl hl.1 rfl (lv_room (Nat.le_of_ble_eq_true rfl)) dX1_matrix_9 ⟨Nat.le_of_ble_eq_true rfl, Nat.le_of_ble_eq_true rfl⟩) ?_
  refine bb_eq (tgt := 26) hx hb dX1_matrix_12 (by decide) (fun c_12 => absurd c_12 (by omega)) (fun c_12 => ?_)
  refine lv_iload_n hx hb dX1_matrix_15 rfl (lv_at hl 3 rfl) ?_
  refine rd_call (va_runS (As := [.int (iI ((j : Nat) : Int))]) (rest := [.ref m0]) ⟨hx, hb, hml, hown, hts⟩ (mX1_isTone l ((j : Nat) : Int) ⟨by omega, by omega⟩) (va_cwS 1 hts gX1_matrix_X1_isTone rfl rfl rfl hdX1_isTone ⟨Nat.le_of_ble_eq_true rfl, Nat.le_of_ble_eq_true rfl⟩) tt_pre rfl rfl hl.1 rfl (lv_room (Nat.le_of_ble_eq_true rfl)) dX1_matrix_16 ⟨Nat.le_of_ble_eq_true rfl, Nat.le_of_ble_eq_true rfl⟩) ?_
  refine bb_eq (tgt := 26) hx hb dX1_matrix_19 (by decide) (fun c_19 => absurd c_19 (by omega)) (fun c_19 => ?_)
  refine ib_const hx hb dX1_matrix_22 ?_
  refine lv_goto (tgt := 27) hx hb dX1_matrix_23 (by decide) ?_
  refine wr_call (va_runV (As := [.int (iI 0)]) (rest := []) ⟨hx, hb, hml, hown, hts⟩ (mX1_goesWell l dC dI cI m0 t0 k0 p0 a0 a1 K q th w h0 h1 hw hq 0 ⟨by omega, by omega⟩) (cwV 1 hts gX1_matrix_X1_goesWell rfl rfl rfl hvX1_goesWell ⟨Nat.le_of_ble_eq_true rfl, Nat.le_of_ble_eq_true rfl⟩) (bD_pre (ci := 1) (q0 := 0) hK hP hD rfl rfl rfl) rfl rfl hl.1 rfl (lv_room (Nat.le_of_ble_eq_true rfl)) dX1_matrix_27 ⟨Nat.le_of_ble_eq_true rfl, Nat.le_of_ble_eq_true rfl⟩) hS (fun q9 h => inW_same (w := [(m0, .inr (1, [.int th, .ref t0, .ref k0, .ref p0, .int (iI ((w : Nat) : Int))])), (t0, .inl (cI, 24, .inl (fun j => iI ((tb a0 a1 j : Nat) : Int)))), (k0, .inl (cI, 12, .inl (fun j => iI ((K j : Nat) : Int)))), (p0, .inl (cI, 12, .inl (fun j => iI ((q j : Nat) : Int))))]) (w' := [(m0, .inr (1, [.int th, .ref t0, .ref k0, .ref p0, .int (iI ((w : Nat) : Int))])), (t0, .inl (cI, 24, .inl (fun j => iI ((tb a0 a1 j : Nat) : Int)))), (k0, .inl (cI, 12, .inl (fun j => iI ((K j : Nat) : Int)))), (p0, .inl (cI, 12, .inl (fun j => iI ((q j : Nat) : Int))))]) rfl h) (fun H locs hP hz hk hS => ?_)
  have hD : va_D (inW [(m0, .inr (1, [.int th, .ref t0, .ref k0, .ref p0, .int (iI ((w : Nat) : Int))])), (t0, .inl (cI, 24, .inl (fun j => iI ((tb a0 a1 j : Nat) : Int)))), (k0, .inl (cI, 12, .inl (fun j => iI ((K j : Nat) : Int)))), (p0, .inl (cI, 12, .inl (fun j => iI ((q j : Nat) : Int))))]) [(m0, .inr (1, [.int (iI 0), .ref t0, .ref k0, .ref p0, .int (iI ((w : Nat) : Int))])), (t0, .inl (cI, 24, .inl (fun j => iI ((tb a0 a1 j : Nat) : Int)))), (k0, .inl (cI, 12, .inl (fun j => iI ((K j : Nat) : Int)))), (p0, .inl (cI, 12, .inl (fun j => iI ((q j : Nat) : Int))))] := va_D_same (w := [(m0, .inr (1, [.int th, .ref t0, .ref k0, .ref p0, .int (iI ((w : Nat) : Int))])), (t0, .inl (cI, 24, .inl (fun j => iI ((tb a0 a1 j : Nat) : Int)))), (k0, .inl (cI, 12, .inl (fun j => iI ((K j : Nat) : Int)))), (p0, .inl (cI, 12, .inl (fun j => iI ((q j : Nat) : Int))))]) rfl hD
  refine st_i (y := iI 1) (congrArg iI (bI_t (by decide))) ?_
  refine ib_if_ne (tgt := 35) hx hb dX1_matrix_30 (by decide) ⟨by omega, by omega⟩ (fun c_30 => ?_) (fun c_30 => absurd c_30 (by decide))
  refine lv_aload_n hx hb dX1_matrix_35 rfl (lv_at hl 0 rfl) ?_
  refine lv_iload_n hx hb dX1_matrix_36 rfl (lv_at hl 1 rfl) ?_
  refine ib_const hx hb dX1_matrix_37 ?_
  refine lv_aload_n hx hb dX1_matrix_38 rfl (lv_at hl 0 rfl) ?_
  refine lv_iload_n hx hb dX1_matrix_39 rfl (lv_at hl 1 rfl) ?_
  refine ib_const hx hb dX1_matrix_40 ?_
  refine rd_call (va_runV (As := [.int (iI ((r : Nat) : Int)), .int (iI 0)]) (rest := [.int (iI 1), .int (iI ((r : Nat) : Int)), .ref m0]) ⟨hx, hb, hml, hown, hts⟩ (mX1_at l dC dI cI m0 t0 k0 p0 a0 a1 K q (iI 0) w h0 h1 hw hq r 0 (by omega) (by omega)) (cwV 2 hts gX1_matrix_X1_at rfl rfl rfl hvX1_at ⟨Nat.le_of_ble_eq_true rfl, Nat.le_of_ble_eq_true rfl⟩) (bW_pre (ci := 1) (q0 := 0) hK hP rfl rfl rfl) rfl rfl hl.1 rfl (lv_room (Nat.le_of_ble_eq_true rfl)) dX1_matrix_41 ⟨Nat.le_of_ble_eq_true rfl, Nat.le_of_ble_eq_true rfl⟩) ?_
  have hr_41 := rw_lt h0 h1 r (i := 0) (by omega)
  refine rd_call (va_runS (As := [.int (iI 1), .int (iI ((rw_ r a0 a1 0 : Nat) : Int))]) (rest := [.int (iI ((r : Nat) : Int)), .ref m0]) ⟨hx, hb, hml, hown, hts⟩ (mX1_codeOf l 1 (rw_ r a0 a1 0)) (va_cwS 2 hts gX1_matrix_X1_codeOf rfl rfl rfl hdX1_codeOf ⟨Nat.le_of_ble_eq_true rfl, Nat.le_of_ble_eq_true rfl⟩) tt_pre rfl rfl hl.1 rfl (lv_room (Nat.le_of_ble_eq_true rfl)) dX1_matrix_44 ⟨Nat.le_of_ble_eq_true rfl, Nat.le_of_ble_eq_true rfl⟩) ?_
  refine lv_iload_n hx hb dX1_matrix_47 rfl (lv_at hl 2 rfl) ?_
  refine rd_call (va_runV (As := [.int (iI ((r : Nat) : Int)), .int (iI ((12 * 1 + (rw_ r a0 a1 0) : Nat) : Int)), .int (iI ((i : Nat) : Int))]) (rest := []) ⟨hx, hb, hml, hown, hts⟩ (mX1_formAt l dC dI cI m0 t0 k0 p0 a0 a1 K q (iI 0) w h0 h1 hw hq r (12 * 1 + (rw_ r a0 a1 0)) i (by omega) (by omega) (by omega)) (cwV 3 hts gX1_matrix_X1_formAt rfl rfl rfl hvX1_formAt ⟨Nat.le_of_ble_eq_true rfl, Nat.le_of_ble_eq_true rfl⟩) (bW_pre (ci := 1) (q0 := 0) hK hP rfl rfl rfl) rfl rfl hl.1 rfl (lv_room (Nat.le_of_ble_eq_true rfl)) dX1_matrix_48 ⟨Nat.le_of_ble_eq_true rfl, Nat.le_of_ble_eq_true rfl⟩) ?_
  have hf_48 := fm_lt (rw_ r a0 a1) (12 * 1 + (rw_ r a0 a1 0)) i
  refine lv_istore (lv' := [(4, .int (iI ((fm (rw_ r a0 a1) (12 * 1 + (rw_ r a0 a1 0)) i : Nat) : Int))), (0, .ref m0), (1, .int (iI ((r : Nat) : Int))), (2, .int (iI ((i : Nat) : Int))), (3, .int (iI ((j : Nat) : Int)))]) hx hb dX1_matrix_51 hl (by decide) rfl (fun ls hl => ?_)
  refine lv_aload_n hx hb dX1_matrix_53 rfl (lv_at hl 1 rfl) ?_
  refine lv_iload_n hx hb dX1_matrix_54 rfl (lv_at hl 2 rfl) ?_
  refine ib_const hx hb dX1_matrix_55 ?_
  refine lv_iload hx hb dX1_matrix_56 (lv_at hl 0 rfl) ?_
  refine rd_call (va_runS (As := [.int (iI 0), .int (iI ((fm (rw_ r a0 a1) (12 * 1 + (rw_ r a0 a1 0)) i : Nat) : Int))]) (rest := [.int (iI ((r : Nat) : Int)), .ref m0]) ⟨hx, hb, hml, hown, hts⟩ (mX1_codeOf l 0 (fm (rw_ r a0 a1) (12 * 1 + (rw_ r a0 a1 0)) i)) (va_cwS 2 hts gX1_matrix_X1_codeOf rfl rfl rfl hdX1_codeOf ⟨Nat.le_of_ble_eq_true rfl, Nat.le_of_ble_eq_true rfl⟩) tt_pre rfl rfl hl.1 rfl (lv_room (Nat.le_of_ble_eq_true rfl)) dX1_matrix_58 ⟨Nat.le_of_ble_eq_true rfl, Nat.le_of_ble_eq_true rfl⟩) ?_
  refine lv_iload_n hx hb dX1_matrix_61 rfl (lv_at hl 4 rfl) ?_
  refine rd_call (va_runV (As := [.int (iI ((r : Nat) : Int)), .int (iI ((12 * 0 + (fm (rw_ r a0 a1) (12 * 1 + (rw_ r a0 a1 0)) i) : Nat) : Int)), .int (iI ((j : Nat) : Int))]) (rest := []) ⟨hx, hb, hml, hown, hts⟩ (mX1_formAt l dC dI cI m0 t0 k0 p0 a0 a1 K q (iI 0) w h0 h1 hw hq r (12 * 0 + (fm (rw_ r a0 a1) (12 * 1 + (rw_ r a0 a1 0)) i)) j (by omega) (by omega) (by omega)) (cwV 3 hts gX1_matrix_X1_formAt rfl rfl rfl hvX1_formAt ⟨Nat.le_of_ble_eq_true rfl, Nat.le_of_ble_eq_true rfl⟩) (bW_pre (ci := 1) (q0 := 0) hK hP rfl rfl rfl) rfl rfl hl.1 rfl (lv_room (Nat.le_of_ble_eq_true rfl)) dX1_matrix_62 ⟨Nat.le_of_ble_eq_true rfl, Nat.le_of_ble_eq_true rfl⟩) ?_
  have hf_62 := fm_lt (rw_ r a0 a1) (12 * 0 + (fm (rw_ r a0 a1) (12 * 1 + (rw_ r a0 a1 0)) i)) j
  refine st_i (y := iI ((fm (rw_ r a0 a1) (12 * 0 + fm (rw_ r a0 a1) (12 * 1 + rw_ r a0 a1 0) i) j : Nat) : Int)) (congrArg iI (by omega)) ?_
  exact W.iret hx hb hr (fun t ht _ => ⟨rfl, by rw [ht]; exact hP, hS.F ht⟩) hS.2.2 dX1_matrix_65

set_option maxHeartbeats 4000000 in
set_option maxRecDepth 100000 in
theorem mX1_matrix_x1 (l : Launch) (dC : Nat → ClassId) (dI : Nat → Nat → Nat) (cI : ClassId) (m0 t0 k0 p0 : Nat) (a0 a1 K q : Nat → Nat) (th : Int32) (w : Nat) (h0 : lt12 a0) (h1 : lt12 a1) (hw : w ≤ 12) (hq : ∀ i, i < w → q i < 12) (z0 z1 z2 : Int) (hz0 : inI z0) (hz1 : inI z1) (hz2 : inI z2) (hbad : ¬ ((z0 = 0 ∨ z0 = 1) ∧ (0 ≤ z1 ∧ z1 ≤ 11) ∧ (0 ≤ z2 ∧ z2 ≤ 11))) : wr l yX1_matrix wsX1_matrix { frames := 2, cells := 0, slots := 0, locals := 42 } [.ref m0, .int (iI z0), .int (iI z1), .int (iI z2)] (dC, dI) [(m0, .inr (1, [.int th, .ref t0, .ref k0, .ref p0, .int (iI ((w : Nat) : Int))])), (t0, .inl (cI, 24, .inl (fun j => iI ((tb a0 a1 j : Nat) : Int)))), (k0, .inl (cI, 12, .inl (fun j => iI ((K j : Nat) : Int)))), (p0, .inl (cI, 12, .inl (fun j => iI ((q j : Nat) : Int))))] [(cI, .int)] [(m0, .inr (1, [.int (iI 1), .ref t0, .ref k0, .ref p0, .int (iI ((w : Nat) : Int))])), (t0, .inl (cI, 24, .inl (fun j => iI ((tb a0 a1 j : Nat) : Int)))), (k0, .inl (cI, 12, .inl (fun j => iI ((K j : Nat) : Int)))), (p0, .inl (cI, 12, .inl (fun j => iI ((q j : Nat) : Int))))] (some (.int (iI 0))) := by
  refine Met.ofW (cc := cX1_matrix) (maxL := 5) (ret := (some .int)) (by decide) rfl ?_
  intro P0 e s m args below meth c s₁ B hml hv
  obtain ⟨rfl, hP, hK, hD0⟩ := hv
  have hx := B.exec
  have hb := B.bytes
  have hr := B.returns
  have hts := atoms_spec (ws := wsX1_matrix) B.pre
  have hown : s.vm.findClass RX1 = some m.cls := findClass_of_methodNamed B.named
  have hlocks := B.notSynchronized
  have hinX : ∀ w ∈ u_ws RX1 TX1 5, w ∈ wsX1_matrix := by decide +kernel
  have hD : va_D (inW [(m0, .inr (1, [.int th, .ref t0, .ref k0, .ref p0, .int (iI ((w : Nat) : Int))])), (t0, .inl (cI, 24, .inl (fun j => iI ((tb a0 a1 j : Nat) : Int)))), (k0, .inl (cI, 12, .inl (fun j => iI ((K j : Nat) : Int)))), (p0, .inl (cI, 12, .inl (fun j => iI ((q j : Nat) : Int))))]) [(m0, .inr (1, [.int th, .ref t0, .ref k0, .ref p0, .int (iI ((w : Nat) : Int))])), (t0, .inl (cI, 24, .inl (fun j => iI ((tb a0 a1 j : Nat) : Int)))), (k0, .inl (cI, 12, .inl (fun j => iI ((K j : Nat) : Int)))), (p0, .inl (cI, 12, .inl (fun j => iI ((q j : Nat) : Int))))] := va_D_in hD0
  have hS : va_S (inW [(m0, .inr (1, [.int th, .ref t0, .ref k0, .ref p0, .int (iI ((w : Nat) : Int))])), (t0, .inl (cI, 24, .inl (fun j => iI ((tb a0 a1 j : Nat) : Int)))), (k0, .inl (cI, 12, .inl (fun j => iI ((K j : Nat) : Int)))), (p0, .inl (cI, 12, .inl (fun j => iI ((q j : Nat) : Int))))]) s.heap s.heap [] := va_S.rf
  have hl := lv_entry ([.ref m0, .int (iI z0), .int (iI z1), .int (iI z2)]) (n := 5) (Nat.le_of_ble_eq_true rfl)
  rw [lg_entry_eq]
  generalize (lg_sl ([.ref m0, .int (iI z0), .int (iI z1), .int (iI z2)]) ++ List.replicate (5 - (lg_sl ([.ref m0, .int (iI z0), .int (iI z1), .int (iI z2)])).length) Slot.unset).toArray = ls at hl ⊢
  have hl : lv_has ls 5 [(0, .ref m0), (1, .int (iI z0)), (2, .int (iI z1)), (3, .int (iI z2))] := hl
  have hza0 := hz0.1
  have hza1 := hz1.1
  have hza2 := hz2.1
  have hzb0 := hz0.2
  have hzb1 := hz1.2
  have hzb2 := hz2.2
  refine lv_aload_n hx hb dX1_matrix_0 rfl (lv_at hl 0 rfl) ?_
  refine lv_iload_n hx hb dX1_matrix_1 rfl (lv_at hl 1 rfl) ?_
  refine rd_call (va_runS (As := [.int (iI z0)]) (rest := [.ref m0]) ⟨hx, hb, hml, hown, hts⟩ (mX1_isRow l z0 ⟨by omega, by omega⟩) (va_cwS 1 hts gX1_matrix_X1_isRow rfl rfl rfl hdX1_isRow ⟨Nat.le_of_ble_eq_true rfl, Nat.le_of_ble_eq_true rfl⟩) tt_pre rfl rfl hl.1 rfl (lv_room (Nat.le_of_ble_eq_true rfl)) dX1_matrix_2 ⟨Nat.le_of_ble_eq_true rfl, Nat.le_of_ble_eq_true rfl⟩) ?_
  refine bb_eq (tgt := 26) hx hb dX1_matrix_5 (by decide) (fun c_5 => ?_) (fun c_5 => ?_)
  · skip
    refine ib_const hx hb dX1_matrix_26 ?_
    refine wr_call (va_runV (As := [.int (iI 1)]) (rest := []) ⟨hx, hb, hml, hown, hts⟩ (mX1_goesWell l dC dI cI m0 t0 k0 p0 a0 a1 K q th w h0 h1 hw hq 1 ⟨by omega, by omega⟩) (cwV 1 hts gX1_matrix_X1_goesWell rfl rfl rfl hvX1_goesWell ⟨Nat.le_of_ble_eq_true rfl, Nat.le_of_ble_eq_true rfl⟩) (bD_pre (ci := 1) (q0 := 0) hK hP hD rfl rfl rfl) rfl rfl hl.1 rfl (lv_room (Nat.le_of_ble_eq_true rfl)) dX1_matrix_27 ⟨Nat.le_of_ble_eq_true rfl, Nat.le_of_ble_eq_true rfl⟩) hS (fun q9 h => inW_same (w := [(m0, .inr (1, [.int th, .ref t0, .ref k0, .ref p0, .int (iI ((w : Nat) : Int))])), (t0, .inl (cI, 24, .inl (fun j => iI ((tb a0 a1 j : Nat) : Int)))), (k0, .inl (cI, 12, .inl (fun j => iI ((K j : Nat) : Int)))), (p0, .inl (cI, 12, .inl (fun j => iI ((q j : Nat) : Int))))]) (w' := [(m0, .inr (1, [.int th, .ref t0, .ref k0, .ref p0, .int (iI ((w : Nat) : Int))])), (t0, .inl (cI, 24, .inl (fun j => iI ((tb a0 a1 j : Nat) : Int)))), (k0, .inl (cI, 12, .inl (fun j => iI ((K j : Nat) : Int)))), (p0, .inl (cI, 12, .inl (fun j => iI ((q j : Nat) : Int))))]) rfl h) (fun H locs hP hz hk hS => ?_)
    have hD : va_D (inW [(m0, .inr (1, [.int th, .ref t0, .ref k0, .ref p0, .int (iI ((w : Nat) : Int))])), (t0, .inl (cI, 24, .inl (fun j => iI ((tb a0 a1 j : Nat) : Int)))), (k0, .inl (cI, 12, .inl (fun j => iI ((K j : Nat) : Int)))), (p0, .inl (cI, 12, .inl (fun j => iI ((q j : Nat) : Int))))]) [(m0, .inr (1, [.int (iI 1), .ref t0, .ref k0, .ref p0, .int (iI ((w : Nat) : Int))])), (t0, .inl (cI, 24, .inl (fun j => iI ((tb a0 a1 j : Nat) : Int)))), (k0, .inl (cI, 12, .inl (fun j => iI ((K j : Nat) : Int)))), (p0, .inl (cI, 12, .inl (fun j => iI ((q j : Nat) : Int))))] := va_D_same (w := [(m0, .inr (1, [.int th, .ref t0, .ref k0, .ref p0, .int (iI ((w : Nat) : Int))])), (t0, .inl (cI, 24, .inl (fun j => iI ((tb a0 a1 j : Nat) : Int)))), (k0, .inl (cI, 12, .inl (fun j => iI ((K j : Nat) : Int)))), (p0, .inl (cI, 12, .inl (fun j => iI ((q j : Nat) : Int))))]) rfl hD
    refine st_i (y := iI 0) (congrArg iI (bI_f (by decide))) ?_
    refine ib_if_ne (tgt := 35) hx hb dX1_matrix_30 (by decide) ⟨by omega, by omega⟩ (fun c_30 => absurd c_30 (by decide)) (fun c_30 => ?_)
    refine ib_const hx hb dX1_matrix_33 ?_
    exact W.iret hx hb hr (fun t ht _ => ⟨rfl, by rw [ht]; exact hP, hS.F ht⟩) hS.2.2 dX1_matrix_34
  · skip
    refine lv_iload_n hx hb dX1_matrix_8 rfl (lv_at hl 2 rfl) ?_
    refine rd_call (va_runS (As := [.int (iI z1)]) (rest := [.ref m0]) ⟨hx, hb, hml, hown, hts⟩ (mX1_isTone l z1 ⟨by omega, by omega⟩) (va_cwS 1 hts gX1_matrix_X1_isTone rfl rfl rfl hdX1_isTone ⟨Nat.le_of_ble_eq_true rfl, Nat.le_of_ble_eq_true rfl⟩) tt_pre rfl rfl hl.1 rfl (lv_room (Nat.le_of_ble_eq_true rfl)) dX1_matrix_9 ⟨Nat.le_of_ble_eq_true rfl, Nat.le_of_ble_eq_true rfl⟩) ?_
    refine bb_eq (tgt := 26) hx hb dX1_matrix_12 (by decide) (fun c_12 => ?_) (fun c_12 => ?_)
    · skip
      refine ib_const hx hb dX1_matrix_26 ?_
      refine wr_call (va_runV (As := [.int (iI 1)]) (rest := []) ⟨hx, hb, hml, hown, hts⟩ (mX1_goesWell l dC dI cI m0 t0 k0 p0 a0 a1 K q th w h0 h1 hw hq 1 ⟨by omega, by omega⟩) (cwV 1 hts gX1_matrix_X1_goesWell rfl rfl rfl hvX1_goesWell ⟨Nat.le_of_ble_eq_true rfl, Nat.le_of_ble_eq_true rfl⟩) (bD_pre (ci := 1) (q0 := 0) hK hP hD rfl rfl rfl) rfl rfl hl.1 rfl (lv_room (Nat.le_of_ble_eq_true rfl)) dX1_matrix_27 ⟨Nat.le_of_ble_eq_true rfl, Nat.le_of_ble_eq_true rfl⟩) hS (fun q9 h => inW_same (w := [(m0, .inr (1, [.int th, .ref t0, .ref k0, .ref p0, .int (iI ((w : Nat) : Int))])), (t0, .inl (cI, 24, .inl (fun j => iI ((tb a0 a1 j : Nat) : Int)))), (k0, .inl (cI, 12, .inl (fun j => iI ((K j : Nat) : Int)))), (p0, .inl (cI, 12, .inl (fun j => iI ((q j : Nat) : Int))))]) (w' := [(m0, .inr (1, [.int th, .ref t0, .ref k0, .ref p0, .int (iI ((w : Nat) : Int))])), (t0, .inl (cI, 24, .inl (fun j => iI ((tb a0 a1 j : Nat) : Int)))), (k0, .inl (cI, 12, .inl (fun j => iI ((K j : Nat) : Int)))), (p0, .inl (cI, 12, .inl (fun j => iI ((q j : Nat) : Int))))]) rfl h) (fun H locs hP hz hk hS => ?_)
      have hD : va_D (inW [(m0, .inr (1, [.int th, .ref t0, .ref k0, .ref p0, .int (iI ((w : Nat) : Int))])), (t0, .inl (cI, 24, .inl (fun j => iI ((tb a0 a1 j : Nat) : Int)))), (k0, .inl (cI, 12, .inl (fun j => iI ((K j : Nat) : Int)))), (p0, .inl (cI, 12, .inl (fun j => iI ((q j : Nat) : Int))))]) [(m0, .inr (1, [.int (iI 1), .ref t0, .ref k0, .ref p0, .int (iI ((w : Nat) : Int))])), (t0, .inl (cI, 24, .inl (fun j => iI ((tb a0 a1 j : Nat) : Int)))), (k0, .inl (cI, 12, .inl (fun j => iI ((K j : Nat) : Int)))), (p0, .inl (cI, 12, .inl (fun j => iI ((q j : Nat) : Int))))] := va_D_same (w := [(m0, .inr (1, [.int th, .ref t0, .ref k0, .ref p0, .int (iI ((w : Nat) : Int))])), (t0, .inl (cI, 24, .inl (fun j => iI ((tb a0 a1 j : Nat) : Int)))), (k0, .inl (cI, 12, .inl (fun j => iI ((K j : Nat) : Int)))), (p0, .inl (cI, 12, .inl (fun j => iI ((q j : Nat) : Int))))]) rfl hD
      refine st_i (y := iI 0) (congrArg iI (bI_f (by decide))) ?_
      refine ib_if_ne (tgt := 35) hx hb dX1_matrix_30 (by decide) ⟨by omega, by omega⟩ (fun c_30 => absurd c_30 (by decide)) (fun c_30 => ?_)
      refine ib_const hx hb dX1_matrix_33 ?_
      exact W.iret hx hb hr (fun t ht _ => ⟨rfl, by rw [ht]; exact hP, hS.F ht⟩) hS.2.2 dX1_matrix_34
    · skip
      refine lv_iload_n hx hb dX1_matrix_15 rfl (lv_at hl 3 rfl) ?_
      refine rd_call (va_runS (As := [.int (iI z2)]) (rest := [.ref m0]) ⟨hx, hb, hml, hown, hts⟩ (mX1_isTone l z2 ⟨by omega, by omega⟩) (va_cwS 1 hts gX1_matrix_X1_isTone rfl rfl rfl hdX1_isTone ⟨Nat.le_of_ble_eq_true rfl, Nat.le_of_ble_eq_true rfl⟩) tt_pre rfl rfl hl.1 rfl (lv_room (Nat.le_of_ble_eq_true rfl)) dX1_matrix_16 ⟨Nat.le_of_ble_eq_true rfl, Nat.le_of_ble_eq_true rfl⟩) ?_
      refine bb_eq (tgt := 26) hx hb dX1_matrix_19 (by decide) (fun c_19 => ?_) (fun c_19 => ?_)
      · skip
        refine ib_const hx hb dX1_matrix_26 ?_
        refine wr_call (va_runV (As := [.int (iI 1)]) (rest := []) ⟨hx, hb, hml, hown, hts⟩ (mX1_goesWell l dC dI cI m0 t0 k0 p0 a0 a1 K q th w h0 h1 hw hq 1 ⟨by omega, by omega⟩) (cwV 1 hts gX1_matrix_X1_goesWell rfl rfl rfl hvX1_goesWell ⟨Nat.le_of_ble_eq_true rfl, Nat.le_of_ble_eq_true rfl⟩) (bD_pre (ci := 1) (q0 := 0) hK hP hD rfl rfl rfl) rfl rfl hl.1 rfl (lv_room (Nat.le_of_ble_eq_true rfl)) dX1_matrix_27 ⟨Nat.le_of_ble_eq_true rfl, Nat.le_of_ble_eq_true rfl⟩) hS (fun q9 h => inW_same (w := [(m0, .inr (1, [.int th, .ref t0, .ref k0, .ref p0, .int (iI ((w : Nat) : Int))])), (t0, .inl (cI, 24, .inl (fun j => iI ((tb a0 a1 j : Nat) : Int)))), (k0, .inl (cI, 12, .inl (fun j => iI ((K j : Nat) : Int)))), (p0, .inl (cI, 12, .inl (fun j => iI ((q j : Nat) : Int))))]) (w' := [(m0, .inr (1, [.int th, .ref t0, .ref k0, .ref p0, .int (iI ((w : Nat) : Int))])), (t0, .inl (cI, 24, .inl (fun j => iI ((tb a0 a1 j : Nat) : Int)))), (k0, .inl (cI, 12, .inl (fun j => iI ((K j : Nat) : Int)))), (p0, .inl (cI, 12, .inl (fun j => iI ((q j : Nat) : Int))))]) rfl h) (fun H locs hP hz hk hS => ?_)
        have hD : va_D (inW [(m0, .inr (1, [.int th, .ref t0, .ref k0, .ref p0, .int (iI ((w : Nat) : Int))])), (t0, .inl (cI, 24, .inl (fun j => iI ((tb a0 a1 j : Nat) : Int)))), (k0, .inl (cI, 12, .inl (fun j => iI ((K j : Nat) : Int)))), (p0, .inl (cI, 12, .inl (fun j => iI ((q j : Nat) : Int))))]) [(m0, .inr (1, [.int (iI 1), .ref t0, .ref k0, .ref p0, .int (iI ((w : Nat) : Int))])), (t0, .inl (cI, 24, .inl (fun j => iI ((tb a0 a1 j : Nat) : Int)))), (k0, .inl (cI, 12, .inl (fun j => iI ((K j : Nat) : Int)))), (p0, .inl (cI, 12, .inl (fun j => iI ((q j : Nat) : Int))))] := va_D_same (w := [(m0, .inr (1, [.int th, .ref t0, .ref k0, .ref p0, .int (iI ((w : Nat) : Int))])), (t0, .inl (cI, 24, .inl (fun j => iI ((tb a0 a1 j : Nat) : Int)))), (k0, .inl (cI, 12, .inl (fun j => iI ((K j : Nat) : Int)))), (p0, .inl (cI, 12, .inl (fun j => iI ((q j : Nat) : Int))))]) rfl hD
        refine st_i (y := iI 0) (congrArg iI (bI_f (by decide))) ?_
        refine ib_if_ne (tgt := 35) hx hb dX1_matrix_30 (by decide) ⟨by omega, by omega⟩ (fun c_30 => absurd c_30 (by decide)) (fun c_30 => ?_)
        refine ib_const hx hb dX1_matrix_33 ?_
        exact W.iret hx hb hr (fun t ht _ => ⟨rfl, by rw [ht]; exact hP, hS.F ht⟩) hS.2.2 dX1_matrix_34
      · skip
        refine ib_const hx hb dX1_matrix_22 ?_
        refine lv_goto (tgt := 27) hx hb dX1_matrix_23 (by decide) ?_
        exfalso; omega

set_option maxHeartbeats 4000000 in
set_option maxRecDepth 100000 in
theorem mX1_differentForms_ok (l : Launch) (dC : Nat → ClassId) (dI : Nat → Nat → Nat) (cI : ClassId) (m0 t0 k0 p0 : Nat) (a0 a1 K q : Nat → Nat) (th : Int32) (w : Nat) (h0 : lt12 a0) (h1 : lt12 a1) (hw : w ≤ 12) (hq : ∀ i, i < w → q i < 12) (r : Nat) (hr9 : r < 2) : wr l yX1_differentForms wsX1_differentForms { frames := 3, cells := 0, slots := 0, locals := 73 } [.ref m0, .int (iI ((r : Nat) : Int))] (dC, dI) [(m0, .inr (1, [.int th, .ref t0, .ref k0, .ref p0, .int (iI ((w : Nat) : Int))])), (t0, .inl (cI, 24, .inl (fun j => iI ((tb a0 a1 j : Nat) : Int)))), (k0, .inl (cI, 12, .inl (fun j => iI ((K j : Nat) : Int)))), (p0, .inl (cI, 12, .inl (fun j => iI ((q j : Nat) : Int))))] [(cI, .int)] [(m0, .inr (1, [.int (iI 0), .ref t0, .ref k0, .ref p0, .int (iI ((w : Nat) : Int))])), (t0, .inl (cI, 24, .inl (fun j => iI ((tb a0 a1 j : Nat) : Int)))), (k0, .inl (cI, 12, .inl (fun j => iI ((K j : Nat) : Int)))), (p0, .inl (cI, 12, .inl (fun j => iI ((q j : Nat) : Int))))] (some (.int (iI ((dfN (rw_ r a0 a1) 48 : Nat) : Int)))) := by
  refine Met.ofW (cc := cX1_differentForms) (maxL := 6) (ret := (some .int)) (by decide) rfl ?_
  intro P0 e s m args below meth c s₁ B hml hv
  obtain ⟨rfl, hP, hK, hD0⟩ := hv
  have hx := B.exec
  have hb := B.bytes
  have hr := B.returns
  have hts := atoms_spec (ws := wsX1_differentForms) B.pre
  have hown : s.vm.findClass RX1 = some m.cls := findClass_of_methodNamed B.named
  have hlocks := B.notSynchronized
  have hinX : ∀ w ∈ u_ws RX1 TX1 5, w ∈ wsX1_differentForms := by decide +kernel
  have hD : va_D (inW [(m0, .inr (1, [.int th, .ref t0, .ref k0, .ref p0, .int (iI ((w : Nat) : Int))])), (t0, .inl (cI, 24, .inl (fun j => iI ((tb a0 a1 j : Nat) : Int)))), (k0, .inl (cI, 12, .inl (fun j => iI ((K j : Nat) : Int)))), (p0, .inl (cI, 12, .inl (fun j => iI ((q j : Nat) : Int))))]) [(m0, .inr (1, [.int th, .ref t0, .ref k0, .ref p0, .int (iI ((w : Nat) : Int))])), (t0, .inl (cI, 24, .inl (fun j => iI ((tb a0 a1 j : Nat) : Int)))), (k0, .inl (cI, 12, .inl (fun j => iI ((K j : Nat) : Int)))), (p0, .inl (cI, 12, .inl (fun j => iI ((q j : Nat) : Int))))] := va_D_in hD0
  have hS : va_S (inW [(m0, .inr (1, [.int th, .ref t0, .ref k0, .ref p0, .int (iI ((w : Nat) : Int))])), (t0, .inl (cI, 24, .inl (fun j => iI ((tb a0 a1 j : Nat) : Int)))), (k0, .inl (cI, 12, .inl (fun j => iI ((K j : Nat) : Int)))), (p0, .inl (cI, 12, .inl (fun j => iI ((q j : Nat) : Int))))]) s.heap s.heap [] := va_S.rf
  have hl := lv_entry ([.ref m0, .int (iI ((r : Nat) : Int))]) (n := 6) (Nat.le_of_ble_eq_true rfl)
  rw [lg_entry_eq]
  generalize (lg_sl ([.ref m0, .int (iI ((r : Nat) : Int))]) ++ List.replicate (6 - (lg_sl ([.ref m0, .int (iI ((r : Nat) : Int))])).length) Slot.unset).toArray = ls at hl ⊢
  have hl : lv_has ls 6 [(0, .ref m0), (1, .int (iI ((r : Nat) : Int)))] := hl
  refine lv_aload_n hx hb dX1_differentForms_0 rfl (lv_at hl 0 rfl) ?_
  refine lv_iload_n hx hb dX1_differentForms_1 rfl (lv_at hl 1 rfl) ?_
  refine rd_call (va_runS (As := [.int (iI ((r : Nat) : Int))]) (rest := [.ref m0]) ⟨hx, hb, hml, hown, hts⟩ (mX1_isRow l ((r : Nat) : Int) ⟨by omega, by omega⟩) (va_cwS 1 hts gX1_differentForms_X1_isRow rfl rfl rfl hdX1_isRow ⟨Nat.le_of_ble_eq_true rfl, Nat.le_of_ble_eq_true rfl⟩) tt_pre rfl rfl hl.1 rfl (lv_room (Nat.le_of_ble_eq_true rfl)) dX1_differentForms_2 ⟨Nat.le_of_ble_eq_true rfl, Nat.le_of_ble_eq_true rfl⟩) ?_
  refine bb_eq (tgt := 12) hx hb dX1_differentForms_5 (by decide) (fun c_5 => absurd c_5 (by omega)) (fun c_5 => ?_)
  refine ib_const hx hb dX1_differentForms_8 ?_
  refine lv_goto (tgt := 13) hx hb dX1_differentForms_9 (by decide) ?_
  refine wr_call (va_runV (As := [.int (iI 0)]) (rest := []) ⟨hx, hb, hml, hown, hts⟩ (mX1_goesWell l dC dI cI m0 t0 k0 p0 a0 a1 K q th w h0 h1 hw hq 0 ⟨by omega, by omega⟩) (cwV 1 hts gX1_differentForms_X1_goesWell rfl rfl rfl hvX1_goesWell ⟨Nat.le_of_ble_eq_true rfl, Nat.le_of_ble_eq_true rfl⟩) (bD_pre (ci := 1) (q0 := 0) hK hP hD rfl rfl rfl) rfl rfl hl.1 rfl (lv_room (Nat.le_of_ble_eq_true rfl)) dX1_differentForms_13 ⟨Nat.le_of_ble_eq_true rfl, Nat.le_of_ble_eq_true rfl⟩) hS (fun q9 h => inW_same (w := [(m0, .inr (1, [.int th, .ref t0, .ref k0, .ref p0, .int (iI ((w : Nat) : Int))])), (t0, .inl (cI, 24, .inl (fun j => iI ((tb a0 a1 j : Nat) : Int)))), (k0, .inl (cI, 12, .inl (fun j => iI ((K j : Nat) : Int)))), (p0, .inl (cI, 12, .inl (fun j => iI ((q j : Nat) : Int))))]) (w' := [(m0, .inr (1, [.int th, .ref t0, .ref k0, .ref p0, .int (iI ((w : Nat) : Int))])), (t0, .inl (cI, 24, .inl (fun j => iI ((tb a0 a1 j : Nat) : Int)))), (k0, .inl (cI, 12, .inl (fun j => iI ((K j : Nat) : Int)))), (p0, .inl (cI, 12, .inl (fun j => iI ((q j : Nat) : Int))))]) rfl h) (fun H locs hP hz hk hS => ?_)
  have hD : va_D (inW [(m0, .inr (1, [.int th, .ref t0, .ref k0, .ref p0, .int (iI ((w : Nat) : Int))])), (t0, .inl (cI, 24, .inl (fun j => iI ((tb a0 a1 j : Nat) : Int)))), (k0, .inl (cI, 12, .inl (fun j => iI ((K j : Nat) : Int)))), (p0, .inl (cI, 12, .inl (fun j => iI ((q j : Nat) : Int))))]) [(m0, .inr (1, [.int (iI 0), .ref t0, .ref k0, .ref p0, .int (iI ((w : Nat) : Int))])), (t0, .inl (cI, 24, .inl (fun j => iI ((tb a0 a1 j : Nat) : Int)))), (k0, .inl (cI, 12, .inl (fun j => iI ((K j : Nat) : Int)))), (p0, .inl (cI, 12, .inl (fun j => iI ((q j : Nat) : Int))))] := va_D_same (w := [(m0, .inr (1, [.int th, .ref t0, .ref k0, .ref p0, .int (iI ((w : Nat) : Int))])), (t0, .inl (cI, 24, .inl (fun j => iI ((tb a0 a1 j : Nat) : Int)))), (k0, .inl (cI, 12, .inl (fun j => iI ((K j : Nat) : Int)))), (p0, .inl (cI, 12, .inl (fun j => iI ((q j : Nat) : Int))))]) rfl hD
  refine st_i (y := iI 1) (congrArg iI (bI_t (by decide))) ?_
  refine ib_if_ne (tgt := 21) hx hb dX1_differentForms_16 (by decide) ⟨by omega, by omega⟩ (fun c_16 => ?_) (fun c_16 => absurd c_16 (by decide))
  refine ib_const hx hb dX1_differentForms_21 ?_
  refine lv_istore_n (lv' := [(2, .int (iI 0)), (0, .ref m0), (1, .int (iI ((r : Nat) : Int)))]) hx hb dX1_differentForms_22 rfl hl (by decide) rfl (fun ls hl => ?_)
  refine ib_const hx hb dX1_differentForms_23 ?_
  refine lv_istore_n (lv' := [(3, .int (iI 0)), (2, .int (iI 0)), (0, .ref m0), (1, .int (iI ((r : Nat) : Int)))]) hx hb dX1_differentForms_24 rfl hl (by decide) rfl (fun ls hl => ?_)
  have lp_25_1 : ∀ (j n : Nat), n + j = 48 → ∀ ls : Array Slot, lv_has ls 6 [(0, .ref m0), (1, .int (iI ((r : Nat) : Int))), (2, .int (iI ((dfN (rw_ r a0 a1) n : Nat) : Int))), (3, .int (iI ((n : Nat) : Int)))] → W P0 l e (headSpec wsX1_differentForms { frames := 3, cells := 0, slots := 0, locals := 73 }).room s m ([.ref m0, .int (iI ((r : Nat) : Int))] : List Value).toArray below meth c H locs 0 0 (MQ below (wrQ (dC, dI) (inW [(m0, .inr (1, [.int th, .ref t0, .ref k0, .ref p0, .int (iI ((w : Nat) : Int))])), (t0, .inl (cI, 24, .inl (fun j => iI ((tb a0 a1 j : Nat) : Int)))), (k0, .inl (cI, 12, .inl (fun j => iI ((K j : Nat) : Int)))), (p0, .inl (cI, 12, .inl (fun j => iI ((q j : Nat) : Int))))]) [(m0, .inr (1, [.int (iI 0), .ref t0, .ref k0, .ref p0, .int (iI ((w : Nat) : Int))])), (t0, .inl (cI, 24, .inl (fun j => iI ((tb a0 a1 j : Nat) : Int)))), (k0, .inl (cI, 12, .inl (fun j => iI ((K j : Nat) : Int)))), (p0, .inl (cI, 12, .inl (fun j => iI ((q j : Nat) : Int))))] (some (.int (iI ((dfN (rw_ r a0 a1) 48 : Nat) : Int))))) ([.ref m0, .int (iI ((r : Nat) : Int))] : List Value).toArray s 0 0 (inW [(m0, .inr (1, [.int th, .ref t0, .ref k0, .ref p0, .int (iI ((w : Nat) : Int))])), (t0, .inl (cI, 24, .inl (fun j => iI ((tb a0 a1 j : Nat) : Int)))), (k0, .inl (cI, 12, .inl (fun j => iI ((K j : Nat) : Int)))), (p0, .inl (cI, 12, .inl (fun j => iI ((q j : Nat) : Int))))])) (F0 m 25 ls []) := by
    intro j
    induction j with
    | zero =>
      intro n hn_25  ls hl
      have hdf := dfN_le (rw_ r a0 a1) n
      refine lv_iload_n hx hb dX1_differentForms_25 rfl (lv_at hl 3 rfl) ?_
      refine ib_bi hx hb dX1_differentForms_26 (by decide) ?_
      refine ib_icmp_ge (tgt := 91) hx hb dX1_differentForms_28 (by decide) ⟨by omega, by omega⟩ ⟨by omega, by omega⟩ (fun c_28 => ?_) (fun c_28 => absurd c_28 (by omega))
      refine lv_iload_n hx hb dX1_differentForms_91 rfl (lv_at hl 2 rfl) ?_
      refine st_i (y := iI ((dfN (rw_ r a0 a1) 48 : Nat) : Int)) (congrArg (fun z : Nat => iI ((z : Nat) : Int)) (show dfN (rw_ r a0 a1) n = dfN (rw_ r a0 a1) 48 by rw [show n = 48 by omega])) ?_
      exact W.iret hx hb hr (fun t ht _ => ⟨rfl, by rw [ht]; exact hP, hS.F ht⟩) hS.2.2 dX1_differentForms_92
    | succ j ih_25_1 =>
      intro n hn_25  ls hl
      have hdf := dfN_le (rw_ r a0 a1) n
      refine lv_iload_n hx hb dX1_differentForms_25 rfl (lv_at hl 3 rfl) ?_
      refine ib_bi hx hb dX1_differentForms_26 (by decide) ?_
      refine ib_icmp_ge (tgt := 91) hx hb dX1_differentForms_28 (by decide) ⟨by omega, by omega⟩ ⟨by omega, by omega⟩ (fun c_28 => absurd c_28 (by omega)) (fun c_28 => ?_)
      refine ib_const hx hb dX1_differentForms_31 ?_
      refine lv_istore (lv' := [(4, .int (iI 1)), (0, .ref m0), (1, .int (iI ((r : Nat) : Int))), (2, .int (iI ((dfN (rw_ r a0 a1) n : Nat) : Int))), (3, .int (iI ((n : Nat) : Int)))]) hx hb dX1_differentForms_32 hl (by decide) rfl (fun ls hl => ?_)
      have hl : lv_has ls 6 [(4, .int (iI (bI (alN (nwB (rw_ r a0 a1) n) 0 = true)))), (0, .ref m0), (1, .int (iI ((r : Nat) : Int))), (2, .int (iI ((dfN (rw_ r a0 a1) n : Nat) : Int))), (3, .int (iI ((n : Nat) : Int)))] := by
        have e9 : iI 1 = iI (bI (alN (nwB (rw_ r a0 a1) n) 0 = true)) := congrArg iI (bI_t (by simp [alN])).symm
        rw [← e9]; exact hl
      refine ib_const hx hb dX1_differentForms_34 ?_
      refine lv_istore (lv' := [(5, .int (iI 0)), (4, .int (iI (bI (alN (nwB (rw_ r a0 a1) n) 0 = true)))), (0, .ref m0), (1, .int (iI ((r : Nat) : Int))), (2, .int (iI ((dfN (rw_ r a0 a1) n : Nat) : Int))), (3, .int (iI ((n : Nat) : Int)))]) hx hb dX1_differentForms_35 hl (by decide) rfl (fun ls hl => ?_)
      have lp_37_2 : ∀ (j o : Nat), o + j = n → ∀ ls : Array Slot, lv_has ls 6 [(0, .ref m0), (1, .int (iI ((r : Nat) : Int))), (2, .int (iI ((dfN (rw_ r a0 a1) n : Nat) : Int))), (3, .int (iI ((n : Nat) : Int))), (4, .int (iI (bI (alN (nwB (rw_ r a0 a1) n) o = true)))), (5, .int (iI ((o : Nat) : Int)))] → W P0 l e (headSpec wsX1_differentForms { frames := 3, cells := 0, slots := 0, locals := 73 }).room s m ([.ref m0, .int (iI ((r : Nat) : Int))] : List Value).toArray below meth c H locs 0 0 (MQ below (wrQ (dC, dI) (inW [(m0, .inr (1, [.int th, .ref t0, .ref k0, .ref p0, .int (iI ((w : Nat) : Int))])), (t0, .inl (cI, 24, .inl (fun j => iI ((tb a0 a1 j : Nat) : Int)))), (k0, .inl (cI, 12, .inl (fun j => iI ((K j : Nat) : Int)))), (p0, .inl (cI, 12, .inl (fun j => iI ((q j : Nat) : Int))))]) [(m0, .inr (1, [.int (iI 0), .ref t0, .ref k0, .ref p0, .int (iI ((w : Nat) : Int))])), (t0, .inl (cI, 24, .inl (fun j => iI ((tb a0 a1 j : Nat) : Int)))), (k0, .inl (cI, 12, .inl (fun j => iI ((K j : Nat) : Int)))), (p0, .inl (cI, 12, .inl (fun j => iI ((q j : Nat) : Int))))] (some (.int (iI ((dfN (rw_ r a0 a1) 48 : Nat) : Int))))) ([.ref m0, .int (iI ((r : Nat) : Int))] : List Value).toArray s 0 0 (inW [(m0, .inr (1, [.int th, .ref t0, .ref k0, .ref p0, .int (iI ((w : Nat) : Int))])), (t0, .inl (cI, 24, .inl (fun j => iI ((tb a0 a1 j : Nat) : Int)))), (k0, .inl (cI, 12, .inl (fun j => iI ((K j : Nat) : Int)))), (p0, .inl (cI, 12, .inl (fun j => iI ((q j : Nat) : Int))))])) (F0 m 37 ls []) := by
        intro j
        induction j with
        | zero =>
          intro o hn_37  ls hl
          have hno : o = n := by omega
          refine lv_iload hx hb dX1_differentForms_37 (lv_at hl 5 rfl) ?_
          refine lv_iload_n hx hb dX1_differentForms_39 rfl (lv_at hl 3 rfl) ?_
          refine ib_icmp_ge (tgt := 72) hx hb dX1_differentForms_40 (by decide) ⟨by omega, by omega⟩ ⟨by omega, by omega⟩ (fun c_40 => ?_) (fun c_40 => absurd c_40 (by omega))
          refine lv_iload_n hx hb dX1_differentForms_72 rfl (lv_at hl 2 rfl) ?_
          refine lv_iload hx hb dX1_differentForms_73 (lv_at hl 4 rfl) ?_
          refine bb_eq (tgt := 82) hx hb dX1_differentForms_75 (by decide) (fun c_75 => ?_) (fun c_75 => ?_)
          · skip
            refine ib_const hx hb dX1_differentForms_82 ?_
            refine ib_add (z := (((dfN (rw_ r a0 a1) n) + 0 : Nat) : Int)) hx hb dX1_differentForms_83 (by omega) ?_
            refine lv_istore_n (lv' := [(2, .int (iI (((dfN (rw_ r a0 a1) n) + 0 : Nat) : Int))), (0, .ref m0), (1, .int (iI ((r : Nat) : Int))), (3, .int (iI ((n : Nat) : Int))), (4, .int (iI (bI (alN (nwB (rw_ r a0 a1) n) o = true)))), (5, .int (iI ((o : Nat) : Int)))]) hx hb dX1_differentForms_84 rfl hl (by decide) rfl (fun ls hl => ?_)
            refine lv_iinc (v := iI ((n + 1 : Nat) : Int)) (lv' := [(3, .int (iI ((n + 1 : Nat) : Int))), (2, .int (iI (((dfN (rw_ r a0 a1) n) + 0 : Nat) : Int))), (0, .ref m0), (1, .int (iI ((r : Nat) : Int))), (4, .int (iI (bI (alN (nwB (rw_ r a0 a1) n) o = true)))), (5, .int (iI ((o : Nat) : Int)))]) hx hb dX1_differentForms_85 hl (k := 3) rfl (iI_inc (by omega)) (by decide) rfl (fun ls hl => ?_)
            refine lv_goto (tgt := 25) hx hb dX1_differentForms_88 (by decide) ?_
            have hl : lv_has ls 6 [(3, .int (iI ((n + 1 : Nat) : Int))), (2, .int (iI ((dfN (rw_ r a0 a1) (n + 1) : Nat) : Int))), (0, .ref m0), (1, .int (iI ((r : Nat) : Int))), (4, .int (iI (bI (alN (nwB (rw_ r a0 a1) n) o = true)))), (5, .int (iI ((o : Nat) : Int)))] := by
              have e9 : iI (((dfN (rw_ r a0 a1) n) + 0 : Nat) : Int) = iI ((dfN (rw_ r a0 a1) (n + 1) : Nat) : Int) := congrArg (fun z : Nat => iI ((z : Nat) : Int)) (dfN_f (hno ▸ c_75))
              rw [← e9]; exact hl
            exact ih_25_1 (n + 1) (by omega)  _ (lv_sub hl [2, 3, 1, 0] rfl)
          · skip
            refine ib_const hx hb dX1_differentForms_78 ?_
            refine lv_goto (tgt := 83) hx hb dX1_differentForms_79 (by decide) ?_
            refine ib_add (z := (((dfN (rw_ r a0 a1) n) + 1 : Nat) : Int)) hx hb dX1_differentForms_83 (by omega) ?_
            refine lv_istore_n (lv' := [(2, .int (iI (((dfN (rw_ r a0 a1) n) + 1 : Nat) : Int))), (0, .ref m0), (1, .int (iI ((r : Nat) : Int))), (3, .int (iI ((n : Nat) : Int))), (4, .int (iI (bI (alN (nwB (rw_ r a0 a1) n) o = true)))), (5, .int (iI ((o : Nat) : Int)))]) hx hb dX1_differentForms_84 rfl hl (by decide) rfl (fun ls hl => ?_)
            refine lv_iinc (v := iI ((n + 1 : Nat) : Int)) (lv' := [(3, .int (iI ((n + 1 : Nat) : Int))), (2, .int (iI (((dfN (rw_ r a0 a1) n) + 1 : Nat) : Int))), (0, .ref m0), (1, .int (iI ((r : Nat) : Int))), (4, .int (iI (bI (alN (nwB (rw_ r a0 a1) n) o = true)))), (5, .int (iI ((o : Nat) : Int)))]) hx hb dX1_differentForms_85 hl (k := 3) rfl (iI_inc (by omega)) (by decide) rfl (fun ls hl => ?_)
            refine lv_goto (tgt := 25) hx hb dX1_differentForms_88 (by decide) ?_
            have hl : lv_has ls 6 [(3, .int (iI ((n + 1 : Nat) : Int))), (2, .int (iI ((dfN (rw_ r a0 a1) (n + 1) : Nat) : Int))), (0, .ref m0), (1, .int (iI ((r : Nat) : Int))), (4, .int (iI (bI (alN (nwB (rw_ r a0 a1) n) o = true)))), (5, .int (iI ((o : Nat) : Int)))] := by
              have e9 : iI (((dfN (rw_ r a0 a1) n) + 1 : Nat) : Int) = iI ((dfN (rw_ r a0 a1) (n + 1) : Nat) : Int) := congrArg (fun z : Nat => iI ((z : Nat) : Int)) (dfN_t (hno ▸ c_75))
              rw [← e9]; exact hl
            exact ih_25_1 (n + 1) (by omega)  _ (lv_sub hl [2, 3, 1, 0] rfl)
        | succ j ih_37_2 =>
          intro o hn_37  ls hl
          refine lv_iload hx hb dX1_differentForms_37 (lv_at hl 5 rfl) ?_
          refine lv_iload_n hx hb dX1_differentForms_39 rfl (lv_at hl 3 rfl) ?_
          refine ib_icmp_ge (tgt := 72) hx hb dX1_differentForms_40 (by decide) ⟨by omega, by omega⟩ ⟨by omega, by omega⟩ (fun c_40 => absurd c_40 (by omega)) (fun c_40 => ?_)
          refine lv_iload hx hb dX1_differentForms_43 (lv_at hl 4 rfl) ?_
          refine bb_eq (tgt := 63) hx hb dX1_differentForms_45 (by decide) (fun c_45 => ?_) (fun c_45 => ?_)
          · skip
            refine ib_const hx hb dX1_differentForms_63 ?_
            refine lv_istore (lv' := [(4, .int (iI 0)), (0, .ref m0), (1, .int (iI ((r : Nat) : Int))), (2, .int (iI ((dfN (rw_ r a0 a1) n : Nat) : Int))), (3, .int (iI ((n : Nat) : Int))), (5, .int (iI ((o : Nat) : Int)))]) hx hb dX1_differentForms_64 hl (by decide) rfl (fun ls hl => ?_)
            refine lv_iinc (v := iI ((o + 1 : Nat) : Int)) (lv' := [(5, .int (iI ((o + 1 : Nat) : Int))), (4, .int (iI 0)), (0, .ref m0), (1, .int (iI ((r : Nat) : Int))), (2, .int (iI ((dfN (rw_ r a0 a1) n : Nat) : Int))), (3, .int (iI ((n : Nat) : Int)))]) hx hb dX1_differentForms_66 hl (k := 5) rfl (iI_inc (by omega)) (by decide) rfl (fun ls hl => ?_)
            refine lv_goto (tgt := 37) hx hb dX1_differentForms_69 (by decide) ?_
            have hl : lv_has ls 6 [(5, .int (iI ((o + 1 : Nat) : Int))), (4, .int (iI (bI (alN (nwB (rw_ r a0 a1) n) (o + 1) = true)))), (0, .ref m0), (1, .int (iI ((r : Nat) : Int))), (2, .int (iI ((dfN (rw_ r a0 a1) n : Nat) : Int))), (3, .int (iI ((n : Nat) : Int)))] := by
              have e9 : iI 0 = iI (bI (alN (nwB (rw_ r a0 a1) n) (o + 1) = true)) := al_0 c_45
              rw [← e9]; exact hl
            exact ih_37_2 (o + 1) (by omega)  _ (lv_sub hl [2, 3, 4, 5, 1, 0] rfl)
          · skip
            refine lv_aload_n hx hb dX1_differentForms_48 rfl (lv_at hl 0 rfl) ?_
            refine lv_iload_n hx hb dX1_differentForms_49 rfl (lv_at hl 1 rfl) ?_
            refine lv_iload hx hb dX1_differentForms_50 (lv_at hl 5 rfl) ?_
            refine lv_iload_n hx hb dX1_differentForms_52 rfl (lv_at hl 3 rfl) ?_
            refine rd_call (va_runV (As := [.int (iI ((r : Nat) : Int)), .int (iI ((o : Nat) : Int)), .int (iI ((n : Nat) : Int))]) (rest := []) ⟨hx, hb, hml, hown, hts⟩ (mX1_areSame l dC dI cI m0 t0 k0 p0 a0 a1 K q (iI 0) w h0 h1 hw hq r o n (by omega) (by omega) (by omega)) (cwV 3 hts gX1_differentForms_X1_areSame rfl rfl rfl hvX1_areSame ⟨Nat.le_of_ble_eq_true rfl, Nat.le_of_ble_eq_true rfl⟩) (bW_pre (ci := 1) (q0 := 0) hK hP rfl rfl rfl) rfl rfl hl.1 rfl (lv_room (Nat.le_of_ble_eq_true rfl)) dX1_differentForms_53 ⟨Nat.le_of_ble_eq_true rfl, Nat.le_of_ble_eq_true rfl⟩) ?_
            refine bb_ne (tgt := 63) hx hb dX1_differentForms_56 (by decide) (fun c_56 => ?_) (fun c_56 => ?_)
            · skip
              refine ib_const hx hb dX1_differentForms_63 ?_
              refine lv_istore (lv' := [(4, .int (iI 0)), (0, .ref m0), (1, .int (iI ((r : Nat) : Int))), (2, .int (iI ((dfN (rw_ r a0 a1) n : Nat) : Int))), (3, .int (iI ((n : Nat) : Int))), (5, .int (iI ((o : Nat) : Int)))]) hx hb dX1_differentForms_64 hl (by decide) rfl (fun ls hl => ?_)
              refine lv_iinc (v := iI ((o + 1 : Nat) : Int)) (lv' := [(5, .int (iI ((o + 1 : Nat) : Int))), (4, .int (iI 0)), (0, .ref m0), (1, .int (iI ((r : Nat) : Int))), (2, .int (iI ((dfN (rw_ r a0 a1) n : Nat) : Int))), (3, .int (iI ((n : Nat) : Int)))]) hx hb dX1_differentForms_66 hl (k := 5) rfl (iI_inc (by omega)) (by decide) rfl (fun ls hl => ?_)
              refine lv_goto (tgt := 37) hx hb dX1_differentForms_69 (by decide) ?_
              have hl : lv_has ls 6 [(5, .int (iI ((o + 1 : Nat) : Int))), (4, .int (iI (bI (alN (nwB (rw_ r a0 a1) n) (o + 1) = true)))), (0, .ref m0), (1, .int (iI ((r : Nat) : Int))), (2, .int (iI ((dfN (rw_ r a0 a1) n : Nat) : Int))), (3, .int (iI ((n : Nat) : Int)))] := by
                have e9 : iI 0 = iI (bI (alN (nwB (rw_ r a0 a1) n) (o + 1) = true)) := al_2 (by simpa [nwB] using c_56)
                rw [← e9]; exact hl
              exact ih_37_2 (o + 1) (by omega)  _ (lv_sub hl [2, 3, 4, 5, 1, 0] rfl)
            · skip
              refine ib_const hx hb dX1_differentForms_59 ?_
              refine lv_goto (tgt := 64) hx hb dX1_differentForms_60 (by decide) ?_
              refine lv_istore (lv' := [(4, .int (iI 1)), (0, .ref m0), (1, .int (iI ((r : Nat) : Int))), (2, .int (iI ((dfN (rw_ r a0 a1) n : Nat) : Int))), (3, .int (iI ((n : Nat) : Int))), (5, .int (iI ((o : Nat) : Int)))]) hx hb dX1_differentForms_64 hl (by decide) rfl (fun ls hl => ?_)
              refine lv_iinc (v := iI ((o + 1 : Nat) : Int)) (lv' := [(5, .int (iI ((o + 1 : Nat) : Int))), (4, .int (iI 1)), (0, .ref m0), (1, .int (iI ((r : Nat) : Int))), (2, .int (iI ((dfN (rw_ r a0 a1) n : Nat) : Int))), (3, .int (iI ((n : Nat) : Int)))]) hx hb dX1_differentForms_66 hl (k := 5) rfl (iI_inc (by omega)) (by decide) rfl (fun ls hl => ?_)
              refine lv_goto (tgt := 37) hx hb dX1_differentForms_69 (by decide) ?_
              have hl : lv_has ls 6 [(5, .int (iI ((o + 1 : Nat) : Int))), (4, .int (iI (bI (alN (nwB (rw_ r a0 a1) n) (o + 1) = true)))), (0, .ref m0), (1, .int (iI ((r : Nat) : Int))), (2, .int (iI ((dfN (rw_ r a0 a1) n : Nat) : Int))), (3, .int (iI ((n : Nat) : Int)))] := by
                have e9 : iI 1 = iI (bI (alN (nwB (rw_ r a0 a1) n) (o + 1) = true)) := al_1 c_45 (by simpa [nwB] using c_56)
                rw [← e9]; exact hl
              exact ih_37_2 (o + 1) (by omega)  _ (lv_sub hl [2, 3, 4, 5, 1, 0] rfl)
      exact lp_37_2 n 0 (by omega)  _ (lv_sub hl [2, 3, 4, 5, 1, 0] rfl)
  exact lp_25_1 48 0 (by omega)  _ (lv_sub hl [2, 3, 1, 0] rfl)

set_option maxHeartbeats 4000000 in
set_option maxRecDepth 100000 in
theorem mX1_differentForms_x1 (l : Launch) (dC : Nat → ClassId) (dI : Nat → Nat → Nat) (cI : ClassId) (m0 t0 k0 p0 : Nat) (a0 a1 K q : Nat → Nat) (th : Int32) (w : Nat) (h0 : lt12 a0) (h1 : lt12 a1) (hw : w ≤ 12) (hq : ∀ i, i < w → q i < 12) (z0 : Int) (hz0 : inI z0) (hbad : ¬ (z0 = 0 ∨ z0 = 1)) : wr l yX1_differentForms wsX1_differentForms { frames := 1, cells := 0, slots := 0, locals := 21 } [.ref m0, .int (iI z0)] (dC, dI) [(m0, .inr (1, [.int th, .ref t0, .ref k0, .ref p0, .int (iI ((w : Nat) : Int))])), (t0, .inl (cI, 24, .inl (fun j => iI ((tb a0 a1 j : Nat) : Int)))), (k0, .inl (cI, 12, .inl (fun j => iI ((K j : Nat) : Int)))), (p0, .inl (cI, 12, .inl (fun j => iI ((q j : Nat) : Int))))] [(cI, .int)] [(m0, .inr (1, [.int (iI 1), .ref t0, .ref k0, .ref p0, .int (iI ((w : Nat) : Int))])), (t0, .inl (cI, 24, .inl (fun j => iI ((tb a0 a1 j : Nat) : Int)))), (k0, .inl (cI, 12, .inl (fun j => iI ((K j : Nat) : Int)))), (p0, .inl (cI, 12, .inl (fun j => iI ((q j : Nat) : Int))))] (some (.int (iI 0))) := by
  refine Met.ofW (cc := cX1_differentForms) (maxL := 6) (ret := (some .int)) (by decide) rfl ?_
  intro P0 e s m args below meth c s₁ B hml hv
  obtain ⟨rfl, hP, hK, hD0⟩ := hv
  have hx := B.exec
  have hb := B.bytes
  have hr := B.returns
  have hts := atoms_spec (ws := wsX1_differentForms) B.pre
  have hown : s.vm.findClass RX1 = some m.cls := findClass_of_methodNamed B.named
  have hlocks := B.notSynchronized
  have hinX : ∀ w ∈ u_ws RX1 TX1 5, w ∈ wsX1_differentForms := by decide +kernel
  have hD : va_D (inW [(m0, .inr (1, [.int th, .ref t0, .ref k0, .ref p0, .int (iI ((w : Nat) : Int))])), (t0, .inl (cI, 24, .inl (fun j => iI ((tb a0 a1 j : Nat) : Int)))), (k0, .inl (cI, 12, .inl (fun j => iI ((K j : Nat) : Int)))), (p0, .inl (cI, 12, .inl (fun j => iI ((q j : Nat) : Int))))]) [(m0, .inr (1, [.int th, .ref t0, .ref k0, .ref p0, .int (iI ((w : Nat) : Int))])), (t0, .inl (cI, 24, .inl (fun j => iI ((tb a0 a1 j : Nat) : Int)))), (k0, .inl (cI, 12, .inl (fun j => iI ((K j : Nat) : Int)))), (p0, .inl (cI, 12, .inl (fun j => iI ((q j : Nat) : Int))))] := va_D_in hD0
  have hS : va_S (inW [(m0, .inr (1, [.int th, .ref t0, .ref k0, .ref p0, .int (iI ((w : Nat) : Int))])), (t0, .inl (cI, 24, .inl (fun j => iI ((tb a0 a1 j : Nat) : Int)))), (k0, .inl (cI, 12, .inl (fun j => iI ((K j : Nat) : Int)))), (p0, .inl (cI, 12, .inl (fun j => iI ((q j : Nat) : Int))))]) s.heap s.heap [] := va_S.rf
  have hl := lv_entry ([.ref m0, .int (iI z0)]) (n := 6) (Nat.le_of_ble_eq_true rfl)
  rw [lg_entry_eq]
  generalize (lg_sl ([.ref m0, .int (iI z0)]) ++ List.replicate (6 - (lg_sl ([.ref m0, .int (iI z0)])).length) Slot.unset).toArray = ls at hl ⊢
  have hl : lv_has ls 6 [(0, .ref m0), (1, .int (iI z0))] := hl
  have hza0 := hz0.1
  have hzb0 := hz0.2
  refine lv_aload_n hx hb dX1_differentForms_0 rfl (lv_at hl 0 rfl) ?_
  refine lv_iload_n hx hb dX1_differentForms_1 rfl (lv_at hl 1 rfl) ?_
  refine rd_call (va_runS (As := [.int (iI z0)]) (rest := [.ref m0]) ⟨hx, hb, hml, hown, hts⟩ (mX1_isRow l z0 ⟨by omega, by omega⟩) (va_cwS 1 hts gX1_differentForms_X1_isRow rfl rfl rfl hdX1_isRow ⟨Nat.le_of_ble_eq_true rfl, Nat.le_of_ble_eq_true rfl⟩) tt_pre rfl rfl hl.1 rfl (lv_room (Nat.le_of_ble_eq_true rfl)) dX1_differentForms_2 ⟨Nat.le_of_ble_eq_true rfl, Nat.le_of_ble_eq_true rfl⟩) ?_
  refine bb_eq (tgt := 12) hx hb dX1_differentForms_5 (by decide) (fun c_5 => ?_) (fun c_5 => ?_)
  · skip
    refine ib_const hx hb dX1_differentForms_12 ?_
    refine wr_call (va_runV (As := [.int (iI 1)]) (rest := []) ⟨hx, hb, hml, hown, hts⟩ (mX1_goesWell l dC dI cI m0 t0 k0 p0 a0 a1 K q th w h0 h1 hw hq 1 ⟨by omega, by omega⟩) (cwV 1 hts gX1_differentForms_X1_goesWell rfl rfl rfl hvX1_goesWell ⟨Nat.le_of_ble_eq_true rfl, Nat.le_of_ble_eq_true rfl⟩) (bD_pre (ci := 1) (q0 := 0) hK hP hD rfl rfl rfl) rfl rfl hl.1 rfl (lv_room (Nat.le_of_ble_eq_true rfl)) dX1_differentForms_13 ⟨Nat.le_of_ble_eq_true rfl, Nat.le_of_ble_eq_true rfl⟩) hS (fun q9 h => inW_same (w := [(m0, .inr (1, [.int th, .ref t0, .ref k0, .ref p0, .int (iI ((w : Nat) : Int))])), (t0, .inl (cI, 24, .inl (fun j => iI ((tb a0 a1 j : Nat) : Int)))), (k0, .inl (cI, 12, .inl (fun j => iI ((K j : Nat) : Int)))), (p0, .inl (cI, 12, .inl (fun j => iI ((q j : Nat) : Int))))]) (w' := [(m0, .inr (1, [.int th, .ref t0, .ref k0, .ref p0, .int (iI ((w : Nat) : Int))])), (t0, .inl (cI, 24, .inl (fun j => iI ((tb a0 a1 j : Nat) : Int)))), (k0, .inl (cI, 12, .inl (fun j => iI ((K j : Nat) : Int)))), (p0, .inl (cI, 12, .inl (fun j => iI ((q j : Nat) : Int))))]) rfl h) (fun H locs hP hz hk hS => ?_)
    have hD : va_D (inW [(m0, .inr (1, [.int th, .ref t0, .ref k0, .ref p0, .int (iI ((w : Nat) : Int))])), (t0, .inl (cI, 24, .inl (fun j => iI ((tb a0 a1 j : Nat) : Int)))), (k0, .inl (cI, 12, .inl (fun j => iI ((K j : Nat) : Int)))), (p0, .inl (cI, 12, .inl (fun j => iI ((q j : Nat) : Int))))]) [(m0, .inr (1, [.int (iI 1), .ref t0, .ref k0, .ref p0, .int (iI ((w : Nat) : Int))])), (t0, .inl (cI, 24, .inl (fun j => iI ((tb a0 a1 j : Nat) : Int)))), (k0, .inl (cI, 12, .inl (fun j => iI ((K j : Nat) : Int)))), (p0, .inl (cI, 12, .inl (fun j => iI ((q j : Nat) : Int))))] := va_D_same (w := [(m0, .inr (1, [.int th, .ref t0, .ref k0, .ref p0, .int (iI ((w : Nat) : Int))])), (t0, .inl (cI, 24, .inl (fun j => iI ((tb a0 a1 j : Nat) : Int)))), (k0, .inl (cI, 12, .inl (fun j => iI ((K j : Nat) : Int)))), (p0, .inl (cI, 12, .inl (fun j => iI ((q j : Nat) : Int))))]) rfl hD
    refine st_i (y := iI 0) (congrArg iI (bI_f (by decide))) ?_
    refine ib_if_ne (tgt := 21) hx hb dX1_differentForms_16 (by decide) ⟨by omega, by omega⟩ (fun c_16 => absurd c_16 (by decide)) (fun c_16 => ?_)
    refine ib_const hx hb dX1_differentForms_19 ?_
    exact W.iret hx hb hr (fun t ht _ => ⟨rfl, by rw [ht]; exact hP, hS.F ht⟩) hS.2.2 dX1_differentForms_20
  · skip
    refine ib_const hx hb dX1_differentForms_8 ?_
    refine lv_goto (tgt := 13) hx hb dX1_differentForms_9 (by decide) ?_
    exfalso; omega

set_option maxHeartbeats 4000000 in
set_option maxRecDepth 100000 in
theorem mX1_formOfOther_ok (l : Launch) (dC : Nat → ClassId) (dI : Nat → Nat → Nat) (cI : ClassId) (m0 t0 k0 p0 : Nat) (a0 a1 K q : Nat → Nat) (th : Int32) (w : Nat) (h0 : lt12 a0) (h1 : lt12 a1) (hw : w ≤ 12) (hq : ∀ i, i < w → q i < 12) (r : Nat) (hr9 : r < 2) : wr l yX1_formOfOther wsX1_formOfOther { frames := 2, cells := 0, slots := 0, locals := 48 } [.ref m0, .int (iI ((r : Nat) : Int))] (dC, dI) [(m0, .inr (1, [.int th, .ref t0, .ref k0, .ref p0, .int (iI ((w : Nat) : Int))])), (t0, .inl (cI, 24, .inl (fun j => iI ((tb a0 a1 j : Nat) : Int)))), (k0, .inl (cI, 12, .inl (fun j => iI ((K j : Nat) : Int)))), (p0, .inl (cI, 12, .inl (fun j => iI ((q j : Nat) : Int))))] [(cI, .int)] [(m0, .inr (1, [.int (iI 0), .ref t0, .ref k0, .ref p0, .int (iI ((w : Nat) : Int))])), (t0, .inl (cI, 24, .inl (fun j => iI ((tb a0 a1 j : Nat) : Int)))), (k0, .inl (cI, 12, .inl (fun j => iI ((K j : Nat) : Int)))), (p0, .inl (cI, 12, .inl (fun j => iI ((q j : Nat) : Int))))] (some (.int (iI (foF (rw_ r a0 a1) (rw_ (1 - r) a0 a1))))) := by
  refine Met.ofW (cc := cX1_formOfOther) (maxL := 5) (ret := (some .int)) (by decide) rfl ?_
  intro P0 e s m args below meth c s₁ B hml hv
  obtain ⟨rfl, hP, hK, hD0⟩ := hv
  have hx := B.exec
  have hb := B.bytes
  have hr := B.returns
  have hts := atoms_spec (ws := wsX1_formOfOther) B.pre
  have hown : s.vm.findClass RX1 = some m.cls := findClass_of_methodNamed B.named
  have hlocks := B.notSynchronized
  have hinX : ∀ w ∈ u_ws RX1 TX1 5, w ∈ wsX1_formOfOther := by decide +kernel
  have hD : va_D (inW [(m0, .inr (1, [.int th, .ref t0, .ref k0, .ref p0, .int (iI ((w : Nat) : Int))])), (t0, .inl (cI, 24, .inl (fun j => iI ((tb a0 a1 j : Nat) : Int)))), (k0, .inl (cI, 12, .inl (fun j => iI ((K j : Nat) : Int)))), (p0, .inl (cI, 12, .inl (fun j => iI ((q j : Nat) : Int))))]) [(m0, .inr (1, [.int th, .ref t0, .ref k0, .ref p0, .int (iI ((w : Nat) : Int))])), (t0, .inl (cI, 24, .inl (fun j => iI ((tb a0 a1 j : Nat) : Int)))), (k0, .inl (cI, 12, .inl (fun j => iI ((K j : Nat) : Int)))), (p0, .inl (cI, 12, .inl (fun j => iI ((q j : Nat) : Int))))] := va_D_in hD0
  have hS : va_S (inW [(m0, .inr (1, [.int th, .ref t0, .ref k0, .ref p0, .int (iI ((w : Nat) : Int))])), (t0, .inl (cI, 24, .inl (fun j => iI ((tb a0 a1 j : Nat) : Int)))), (k0, .inl (cI, 12, .inl (fun j => iI ((K j : Nat) : Int)))), (p0, .inl (cI, 12, .inl (fun j => iI ((q j : Nat) : Int))))]) s.heap s.heap [] := va_S.rf
  have hl := lv_entry ([.ref m0, .int (iI ((r : Nat) : Int))]) (n := 5) (Nat.le_of_ble_eq_true rfl)
  rw [lg_entry_eq]
  generalize (lg_sl ([.ref m0, .int (iI ((r : Nat) : Int))]) ++ List.replicate (5 - (lg_sl ([.ref m0, .int (iI ((r : Nat) : Int))])).length) Slot.unset).toArray = ls at hl ⊢
  have hl : lv_has ls 5 [(0, .ref m0), (1, .int (iI ((r : Nat) : Int)))] := hl
  refine lv_aload_n hx hb dX1_formOfOther_0 rfl (lv_at hl 0 rfl) ?_
  refine lv_iload_n hx hb dX1_formOfOther_1 rfl (lv_at hl 1 rfl) ?_
  refine rd_call (va_runS (As := [.int (iI ((r : Nat) : Int))]) (rest := [.ref m0]) ⟨hx, hb, hml, hown, hts⟩ (mX1_isRow l ((r : Nat) : Int) ⟨by omega, by omega⟩) (va_cwS 1 hts gX1_formOfOther_X1_isRow rfl rfl rfl hdX1_isRow ⟨Nat.le_of_ble_eq_true rfl, Nat.le_of_ble_eq_true rfl⟩) tt_pre rfl rfl hl.1 rfl (lv_room (Nat.le_of_ble_eq_true rfl)) dX1_formOfOther_2 ⟨Nat.le_of_ble_eq_true rfl, Nat.le_of_ble_eq_true rfl⟩) ?_
  refine bb_eq (tgt := 12) hx hb dX1_formOfOther_5 (by decide) (fun c_5 => absurd c_5 (by omega)) (fun c_5 => ?_)
  refine ib_const hx hb dX1_formOfOther_8 ?_
  refine lv_goto (tgt := 13) hx hb dX1_formOfOther_9 (by decide) ?_
  refine wr_call (va_runV (As := [.int (iI 0)]) (rest := []) ⟨hx, hb, hml, hown, hts⟩ (mX1_goesWell l dC dI cI m0 t0 k0 p0 a0 a1 K q th w h0 h1 hw hq 0 ⟨by omega, by omega⟩) (cwV 1 hts gX1_formOfOther_X1_goesWell rfl rfl rfl hvX1_goesWell ⟨Nat.le_of_ble_eq_true rfl, Nat.le_of_ble_eq_true rfl⟩) (bD_pre (ci := 1) (q0 := 0) hK hP hD rfl rfl rfl) rfl rfl hl.1 rfl (lv_room (Nat.le_of_ble_eq_true rfl)) dX1_formOfOther_13 ⟨Nat.le_of_ble_eq_true rfl, Nat.le_of_ble_eq_true rfl⟩) hS (fun q9 h => inW_same (w := [(m0, .inr (1, [.int th, .ref t0, .ref k0, .ref p0, .int (iI ((w : Nat) : Int))])), (t0, .inl (cI, 24, .inl (fun j => iI ((tb a0 a1 j : Nat) : Int)))), (k0, .inl (cI, 12, .inl (fun j => iI ((K j : Nat) : Int)))), (p0, .inl (cI, 12, .inl (fun j => iI ((q j : Nat) : Int))))]) (w' := [(m0, .inr (1, [.int th, .ref t0, .ref k0, .ref p0, .int (iI ((w : Nat) : Int))])), (t0, .inl (cI, 24, .inl (fun j => iI ((tb a0 a1 j : Nat) : Int)))), (k0, .inl (cI, 12, .inl (fun j => iI ((K j : Nat) : Int)))), (p0, .inl (cI, 12, .inl (fun j => iI ((q j : Nat) : Int))))]) rfl h) (fun H locs hP hz hk hS => ?_)
  have hD : va_D (inW [(m0, .inr (1, [.int th, .ref t0, .ref k0, .ref p0, .int (iI ((w : Nat) : Int))])), (t0, .inl (cI, 24, .inl (fun j => iI ((tb a0 a1 j : Nat) : Int)))), (k0, .inl (cI, 12, .inl (fun j => iI ((K j : Nat) : Int)))), (p0, .inl (cI, 12, .inl (fun j => iI ((q j : Nat) : Int))))]) [(m0, .inr (1, [.int (iI 0), .ref t0, .ref k0, .ref p0, .int (iI ((w : Nat) : Int))])), (t0, .inl (cI, 24, .inl (fun j => iI ((tb a0 a1 j : Nat) : Int)))), (k0, .inl (cI, 12, .inl (fun j => iI ((K j : Nat) : Int)))), (p0, .inl (cI, 12, .inl (fun j => iI ((q j : Nat) : Int))))] := va_D_same (w := [(m0, .inr (1, [.int th, .ref t0, .ref k0, .ref p0, .int (iI ((w : Nat) : Int))])), (t0, .inl (cI, 24, .inl (fun j => iI ((tb a0 a1 j : Nat) : Int)))), (k0, .inl (cI, 12, .inl (fun j => iI ((K j : Nat) : Int)))), (p0, .inl (cI, 12, .inl (fun j => iI ((q j : Nat) : Int))))]) rfl hD
  refine st_i (y := iI 1) (congrArg iI (bI_t (by decide))) ?_
  refine ib_if_ne (tgt := 21) hx hb dX1_formOfOther_16 (by decide) ⟨by omega, by omega⟩ (fun c_16 => ?_) (fun c_16 => absurd c_16 (by decide))
  refine ib_const hx hb dX1_formOfOther_21 ?_
  refine lv_istore_n (lv' := [(2, .int (iI 0)), (0, .ref m0), (1, .int (iI ((r : Nat) : Int)))]) hx hb dX1_formOfOther_22 rfl hl (by decide) rfl (fun ls hl => ?_)
  have lp_23_1 : ∀ (j n : Nat), n + j = 48 → foF (rw_ r a0 a1) (rw_ (1 - r) a0 a1) = ff (fun c => alN (foB (rw_ r a0 a1) (rw_ (1 - r) a0 a1) c) 12) j n → ∀ ls : Array Slot, lv_has ls 5 [(0, .ref m0), (1, .int (iI ((r : Nat) : Int))), (2, .int (iI ((n : Nat) : Int)))] → W P0 l e (headSpec wsX1_formOfOther { frames := 2, cells := 0, slots := 0, locals := 48 }).room s m ([.ref m0, .int (iI ((r : Nat) : Int))] : List Value).toArray below meth c H locs 0 0 (MQ below (wrQ (dC, dI) (inW [(m0, .inr (1, [.int th, .ref t0, .ref k0, .ref p0, .int (iI ((w : Nat) : Int))])), (t0, .inl (cI, 24, .inl (fun j => iI ((tb a0 a1 j : Nat) : Int)))), (k0, .inl (cI, 12, .inl (fun j => iI ((K j : Nat) : Int)))), (p0, .inl (cI, 12, .inl (fun j => iI ((q j : Nat) : Int))))]) [(m0, .inr (1, [.int (iI 0), .ref t0, .ref k0, .ref p0, .int (iI ((w : Nat) : Int))])), (t0, .inl (cI, 24, .inl (fun j => iI ((tb a0 a1 j : Nat) : Int)))), (k0, .inl (cI, 12, .inl (fun j => iI ((K j : Nat) : Int)))), (p0, .inl (cI, 12, .inl (fun j => iI ((q j : Nat) : Int))))] (some (.int (iI (foF (rw_ r a0 a1) (rw_ (1 - r) a0 a1)))))) ([.ref m0, .int (iI ((r : Nat) : Int))] : List Value).toArray s 0 0 (inW [(m0, .inr (1, [.int th, .ref t0, .ref k0, .ref p0, .int (iI ((w : Nat) : Int))])), (t0, .inl (cI, 24, .inl (fun j => iI ((tb a0 a1 j : Nat) : Int)))), (k0, .inl (cI, 12, .inl (fun j => iI ((K j : Nat) : Int)))), (p0, .inl (cI, 12, .inl (fun j => iI ((q j : Nat) : Int))))])) (F0 m 23 ls []) := by
    intro j
    induction j with
    | zero =>
      intro n hn_23 hqq ls hl
      refine lv_iload_n hx hb dX1_formOfOther_23 rfl (lv_at hl 2 rfl) ?_
      refine ib_bi hx hb dX1_formOfOther_24 (by decide) ?_
      refine ib_icmp_ge (tgt := 89) hx hb dX1_formOfOther_26 (by decide) ⟨by omega, by omega⟩ ⟨by omega, by omega⟩ (fun c_26 => ?_) (fun c_26 => absurd c_26 (by omega))
      refine ib_const hx hb dX1_formOfOther_89 ?_
      refine st_i (y := iI (foF (rw_ r a0 a1) (rw_ (1 - r) a0 a1))) (congrArg iI (by rw [hqq]; rfl)) ?_
      exact W.iret hx hb hr (fun t ht _ => ⟨rfl, by rw [ht]; exact hP, hS.F ht⟩) hS.2.2 dX1_formOfOther_90
    | succ j ih_23_1 =>
      intro n hn_23 hqq ls hl
      refine lv_iload_n hx hb dX1_formOfOther_23 rfl (lv_at hl 2 rfl) ?_
      refine ib_bi hx hb dX1_formOfOther_24 (by decide) ?_
      refine ib_icmp_ge (tgt := 89) hx hb dX1_formOfOther_26 (by decide) ⟨by omega, by omega⟩ ⟨by omega, by omega⟩ (fun c_26 => absurd c_26 (by omega)) (fun c_26 => ?_)
      refine ib_const hx hb dX1_formOfOther_29 ?_
      refine lv_istore_n (lv' := [(3, .int (iI 1)), (0, .ref m0), (1, .int (iI ((r : Nat) : Int))), (2, .int (iI ((n : Nat) : Int)))]) hx hb dX1_formOfOther_30 rfl hl (by decide) rfl (fun ls hl => ?_)
      have hl : lv_has ls 5 [(3, .int (iI (bI (alN (foB (rw_ r a0 a1) (rw_ (1 - r) a0 a1) n) 0 = true)))), (0, .ref m0), (1, .int (iI ((r : Nat) : Int))), (2, .int (iI ((n : Nat) : Int)))] := by
        have e9 : iI 1 = iI (bI (alN (foB (rw_ r a0 a1) (rw_ (1 - r) a0 a1) n) 0 = true)) := congrArg iI (bI_t (by simp [alN])).symm
        rw [← e9]; exact hl
      refine ib_const hx hb dX1_formOfOther_31 ?_
      refine lv_istore (lv' := [(4, .int (iI 0)), (3, .int (iI (bI (alN (foB (rw_ r a0 a1) (rw_ (1 - r) a0 a1) n) 0 = true)))), (0, .ref m0), (1, .int (iI ((r : Nat) : Int))), (2, .int (iI ((n : Nat) : Int)))]) hx hb dX1_formOfOther_32 hl (by decide) rfl (fun ls hl => ?_)
      have lp_34_2 : ∀ (j o : Nat), o + j = 12 → ∀ ls : Array Slot, lv_has ls 5 [(0, .ref m0), (1, .int (iI ((r : Nat) : Int))), (2, .int (iI ((n : Nat) : Int))), (3, .int (iI (bI (alN (foB (rw_ r a0 a1) (rw_ (1 - r) a0 a1) n) o = true)))), (4, .int (iI ((o : Nat) : Int)))] → W P0 l e (headSpec wsX1_formOfOther { frames := 2, cells := 0, slots := 0, locals := 48 }).room s m ([.ref m0, .int (iI ((r : Nat) : Int))] : List Value).toArray below meth c H locs 0 0 (MQ below (wrQ (dC, dI) (inW [(m0, .inr (1, [.int th, .ref t0, .ref k0, .ref p0, .int (iI ((w : Nat) : Int))])), (t0, .inl (cI, 24, .inl (fun j => iI ((tb a0 a1 j : Nat) : Int)))), (k0, .inl (cI, 12, .inl (fun j => iI ((K j : Nat) : Int)))), (p0, .inl (cI, 12, .inl (fun j => iI ((q j : Nat) : Int))))]) [(m0, .inr (1, [.int (iI 0), .ref t0, .ref k0, .ref p0, .int (iI ((w : Nat) : Int))])), (t0, .inl (cI, 24, .inl (fun j => iI ((tb a0 a1 j : Nat) : Int)))), (k0, .inl (cI, 12, .inl (fun j => iI ((K j : Nat) : Int)))), (p0, .inl (cI, 12, .inl (fun j => iI ((q j : Nat) : Int))))] (some (.int (iI (foF (rw_ r a0 a1) (rw_ (1 - r) a0 a1)))))) ([.ref m0, .int (iI ((r : Nat) : Int))] : List Value).toArray s 0 0 (inW [(m0, .inr (1, [.int th, .ref t0, .ref k0, .ref p0, .int (iI ((w : Nat) : Int))])), (t0, .inl (cI, 24, .inl (fun j => iI ((tb a0 a1 j : Nat) : Int)))), (k0, .inl (cI, 12, .inl (fun j => iI ((K j : Nat) : Int)))), (p0, .inl (cI, 12, .inl (fun j => iI ((q j : Nat) : Int))))])) (F0 m 34 ls []) := by
        intro j
        induction j with
        | zero =>
          intro o hn_34  ls hl
          have hno : o = 12 := by omega
          refine lv_iload hx hb dX1_formOfOther_34 (lv_at hl 4 rfl) ?_
          refine ib_bi hx hb dX1_formOfOther_36 (by decide) ?_
          refine ib_icmp_ge (tgt := 77) hx hb dX1_formOfOther_38 (by decide) ⟨by omega, by omega⟩ ⟨by omega, by omega⟩ (fun c_38 => ?_) (fun c_38 => absurd c_38 (by omega))
          refine lv_iload_n hx hb dX1_formOfOther_77 rfl (lv_at hl 3 rfl) ?_
          refine bb_eq (tgt := 83) hx hb dX1_formOfOther_78 (by decide) (fun c_78 => ?_) (fun c_78 => ?_)
          · skip
            refine lv_iinc (v := iI ((n + 1 : Nat) : Int)) (lv' := [(2, .int (iI ((n + 1 : Nat) : Int))), (0, .ref m0), (1, .int (iI ((r : Nat) : Int))), (3, .int (iI (bI (alN (foB (rw_ r a0 a1) (rw_ (1 - r) a0 a1) n) o = true)))), (4, .int (iI ((o : Nat) : Int)))]) hx hb dX1_formOfOther_83 hl (k := 2) rfl (iI_inc (by omega)) (by decide) rfl (fun ls hl => ?_)
            refine lv_goto (tgt := 23) hx hb dX1_formOfOther_86 (by decide) ?_
            exact ih_23_1 (n + 1) (by omega) (hqq.trans (ff_f (by simpa [hno] using c_78))) _ (lv_sub hl [1, 2, 0] rfl)
          · skip
            refine lv_iload_n hx hb dX1_formOfOther_81 rfl (lv_at hl 2 rfl) ?_
            refine st_i (y := iI (foF (rw_ r a0 a1) (rw_ (1 - r) a0 a1))) (congrArg iI (hqq.trans (ff_t (by simpa [hno] using c_78))).symm) ?_
            exact W.iret hx hb hr (fun t ht _ => ⟨rfl, by rw [ht]; exact hP, hS.F ht⟩) hS.2.2 dX1_formOfOther_82
        | succ j ih_34_2 =>
          intro o hn_34  ls hl
          refine lv_iload hx hb dX1_formOfOther_34 (lv_at hl 4 rfl) ?_
          refine ib_bi hx hb dX1_formOfOther_36 (by decide) ?_
          refine ib_icmp_ge (tgt := 77) hx hb dX1_formOfOther_38 (by decide) ⟨by omega, by omega⟩ ⟨by omega, by omega⟩ (fun c_38 => absurd c_38 (by omega)) (fun c_38 => ?_)
          refine lv_iload_n hx hb dX1_formOfOther_41 rfl (lv_at hl 3 rfl) ?_
          refine bb_eq (tgt := 69) hx hb dX1_formOfOther_42 (by decide) (fun c_42 => ?_) (fun c_42 => ?_)
          · skip
            refine ib_const hx hb dX1_formOfOther_69 ?_
            refine lv_istore_n (lv' := [(3, .int (iI 0)), (0, .ref m0), (1, .int (iI ((r : Nat) : Int))), (2, .int (iI ((n : Nat) : Int))), (4, .int (iI ((o : Nat) : Int)))]) hx hb dX1_formOfOther_70 rfl hl (by decide) rfl (fun ls hl => ?_)
            refine lv_iinc (v := iI ((o + 1 : Nat) : Int)) (lv' := [(4, .int (iI ((o + 1 : Nat) : Int))), (3, .int (iI 0)), (0, .ref m0), (1, .int (iI ((r : Nat) : Int))), (2, .int (iI ((n : Nat) : Int)))]) hx hb dX1_formOfOther_71 hl (k := 4) rfl (iI_inc (by omega)) (by decide) rfl (fun ls hl => ?_)
            refine lv_goto (tgt := 34) hx hb dX1_formOfOther_74 (by decide) ?_
            have hl : lv_has ls 5 [(4, .int (iI ((o + 1 : Nat) : Int))), (3, .int (iI (bI (alN (foB (rw_ r a0 a1) (rw_ (1 - r) a0 a1) n) (o + 1) = true)))), (0, .ref m0), (1, .int (iI ((r : Nat) : Int))), (2, .int (iI ((n : Nat) : Int)))] := by
              have e9 : iI 0 = iI (bI (alN (foB (rw_ r a0 a1) (rw_ (1 - r) a0 a1) n) (o + 1) = true)) := al_0 c_42
              rw [← e9]; exact hl
            exact ih_34_2 (o + 1) (by omega)  _ (lv_sub hl [2, 3, 4, 1, 0] rfl)
          · skip
            refine lv_aload_n hx hb dX1_formOfOther_45 rfl (lv_at hl 0 rfl) ?_
            refine lv_iload_n hx hb dX1_formOfOther_46 rfl (lv_at hl 1 rfl) ?_
            refine lv_iload_n hx hb dX1_formOfOther_47 rfl (lv_at hl 2 rfl) ?_
            refine lv_iload hx hb dX1_formOfOther_48 (lv_at hl 4 rfl) ?_
            refine rd_call (va_runV (As := [.int (iI ((r : Nat) : Int)), .int (iI ((n : Nat) : Int)), .int (iI ((o : Nat) : Int))]) (rest := []) ⟨hx, hb, hml, hown, hts⟩ (mX1_formAt l dC dI cI m0 t0 k0 p0 a0 a1 K q (iI 0) w h0 h1 hw hq r n o (by omega) (by omega) (by omega)) (cwV 3 hts gX1_formOfOther_X1_formAt rfl rfl rfl hvX1_formAt ⟨Nat.le_of_ble_eq_true rfl, Nat.le_of_ble_eq_true rfl⟩) (bW_pre (ci := 1) (q0 := 0) hK hP rfl rfl rfl) rfl rfl hl.1 rfl (lv_room (Nat.le_of_ble_eq_true rfl)) dX1_formOfOther_50 ⟨Nat.le_of_ble_eq_true rfl, Nat.le_of_ble_eq_true rfl⟩) ?_
            have hf_50 := fm_lt (rw_ r a0 a1) n o
            refine lv_aload_n hx hb dX1_formOfOther_53 rfl (lv_at hl 0 rfl) ?_
            refine ib_const hx hb dX1_formOfOther_54 ?_
            refine lv_iload_n hx hb dX1_formOfOther_55 rfl (lv_at hl 1 rfl) ?_
            refine ib_sub (z := ((1 - r : Nat) : Int)) hx hb dX1_formOfOther_56 (by omega) ?_
            refine lv_iload hx hb dX1_formOfOther_57 (lv_at hl 4 rfl) ?_
            refine rd_call (va_runV (As := [.int (iI ((1 - r : Nat) : Int)), .int (iI ((o : Nat) : Int))]) (rest := [.int (iI ((fm (rw_ r a0 a1) n o : Nat) : Int))]) ⟨hx, hb, hml, hown, hts⟩ (mX1_at l dC dI cI m0 t0 k0 p0 a0 a1 K q (iI 0) w h0 h1 hw hq (1 - r) o (by omega) (by omega)) (cwV 2 hts gX1_formOfOther_X1_at rfl rfl rfl hvX1_at ⟨Nat.le_of_ble_eq_true rfl, Nat.le_of_ble_eq_true rfl⟩) (bW_pre (ci := 1) (q0 := 0) hK hP rfl rfl rfl) rfl rfl hl.1 rfl (lv_room (Nat.le_of_ble_eq_true rfl)) dX1_formOfOther_59 ⟨Nat.le_of_ble_eq_true rfl, Nat.le_of_ble_eq_true rfl⟩) ?_
            have hr_59 := rw_lt h0 h1 (1 - r) (i := o) (by omega)
            refine ib_icmp_ne (tgt := 69) hx hb dX1_formOfOther_62 (by decide) ⟨by omega, by omega⟩ ⟨by omega, by omega⟩ (fun c_62 => ?_) (fun c_62 => ?_)
            · skip
              refine ib_const hx hb dX1_formOfOther_69 ?_
              refine lv_istore_n (lv' := [(3, .int (iI 0)), (0, .ref m0), (1, .int (iI ((r : Nat) : Int))), (2, .int (iI ((n : Nat) : Int))), (4, .int (iI ((o : Nat) : Int)))]) hx hb dX1_formOfOther_70 rfl hl (by decide) rfl (fun ls hl => ?_)
              refine lv_iinc (v := iI ((o + 1 : Nat) : Int)) (lv' := [(4, .int (iI ((o + 1 : Nat) : Int))), (3, .int (iI 0)), (0, .ref m0), (1, .int (iI ((r : Nat) : Int))), (2, .int (iI ((n : Nat) : Int)))]) hx hb dX1_formOfOther_71 hl (k := 4) rfl (iI_inc (by omega)) (by decide) rfl (fun ls hl => ?_)
              refine lv_goto (tgt := 34) hx hb dX1_formOfOther_74 (by decide) ?_
              have hl : lv_has ls 5 [(4, .int (iI ((o + 1 : Nat) : Int))), (3, .int (iI (bI (alN (foB (rw_ r a0 a1) (rw_ (1 - r) a0 a1) n) (o + 1) = true)))), (0, .ref m0), (1, .int (iI ((r : Nat) : Int))), (2, .int (iI ((n : Nat) : Int)))] := by
                have e9 : iI 0 = iI (bI (alN (foB (rw_ r a0 a1) (rw_ (1 - r) a0 a1) n) (o + 1) = true)) := al_2 (decide_eq_false (by omega))
                rw [← e9]; exact hl
              exact ih_34_2 (o + 1) (by omega)  _ (lv_sub hl [2, 3, 4, 1, 0] rfl)
            · skip
              refine ib_const hx hb dX1_formOfOther_65 ?_
              refine lv_goto (tgt := 70) hx hb dX1_formOfOther_66 (by decide) ?_
              refine lv_istore_n (lv' := [(3, .int (iI 1)), (0, .ref m0), (1, .int (iI ((r : Nat) : Int))), (2, .int (iI ((n : Nat) : Int))), (4, .int (iI ((o : Nat) : Int)))]) hx hb dX1_formOfOther_70 rfl hl (by decide) rfl (fun ls hl => ?_)
              refine lv_iinc (v := iI ((o + 1 : Nat) : Int)) (lv' := [(4, .int (iI ((o + 1 : Nat) : Int))), (3, .int (iI 1)), (0, .ref m0), (1, .int (iI ((r : Nat) : Int))), (2, .int (iI ((n : Nat) : Int)))]) hx hb dX1_formOfOther_71 hl (k := 4) rfl (iI_inc (by omega)) (by decide) rfl (fun ls hl => ?_)
              refine lv_goto (tgt := 34) hx hb dX1_formOfOther_74 (by decide) ?_
              have hl : lv_has ls 5 [(4, .int (iI ((o + 1 : Nat) : Int))), (3, .int (iI (bI (alN (foB (rw_ r a0 a1) (rw_ (1 - r) a0 a1) n) (o + 1) = true)))), (0, .ref m0), (1, .int (iI ((r : Nat) : Int))), (2, .int (iI ((n : Nat) : Int)))] := by
                have e9 : iI 1 = iI (bI (alN (foB (rw_ r a0 a1) (rw_ (1 - r) a0 a1) n) (o + 1) = true)) := al_1 c_42 (decide_eq_true (by omega))
                rw [← e9]; exact hl
              exact ih_34_2 (o + 1) (by omega)  _ (lv_sub hl [2, 3, 4, 1, 0] rfl)
      exact lp_34_2 12 0 (by omega)  _ (lv_sub hl [2, 3, 4, 1, 0] rfl)
  exact lp_23_1 48 0 (by omega) (rfl) _ (lv_sub hl [1, 2, 0] rfl)

set_option maxHeartbeats 4000000 in
set_option maxRecDepth 100000 in
theorem mX1_formOfOther_x1 (l : Launch) (dC : Nat → ClassId) (dI : Nat → Nat → Nat) (cI : ClassId) (m0 t0 k0 p0 : Nat) (a0 a1 K q : Nat → Nat) (th : Int32) (w : Nat) (h0 : lt12 a0) (h1 : lt12 a1) (hw : w ≤ 12) (hq : ∀ i, i < w → q i < 12) (z0 : Int) (hz0 : inI z0) (hbad : ¬ (z0 = 0 ∨ z0 = 1)) : wr l yX1_formOfOther wsX1_formOfOther { frames := 1, cells := 0, slots := 0, locals := 21 } [.ref m0, .int (iI z0)] (dC, dI) [(m0, .inr (1, [.int th, .ref t0, .ref k0, .ref p0, .int (iI ((w : Nat) : Int))])), (t0, .inl (cI, 24, .inl (fun j => iI ((tb a0 a1 j : Nat) : Int)))), (k0, .inl (cI, 12, .inl (fun j => iI ((K j : Nat) : Int)))), (p0, .inl (cI, 12, .inl (fun j => iI ((q j : Nat) : Int))))] [(cI, .int)] [(m0, .inr (1, [.int (iI 1), .ref t0, .ref k0, .ref p0, .int (iI ((w : Nat) : Int))])), (t0, .inl (cI, 24, .inl (fun j => iI ((tb a0 a1 j : Nat) : Int)))), (k0, .inl (cI, 12, .inl (fun j => iI ((K j : Nat) : Int)))), (p0, .inl (cI, 12, .inl (fun j => iI ((q j : Nat) : Int))))] (some (.int (iI 0))) := by
  refine Met.ofW (cc := cX1_formOfOther) (maxL := 5) (ret := (some .int)) (by decide) rfl ?_
  intro P0 e s m args below meth c s₁ B hml hv
  obtain ⟨rfl, hP, hK, hD0⟩ := hv
  have hx := B.exec
  have hb := B.bytes
  have hr := B.returns
  have hts := atoms_spec (ws := wsX1_formOfOther) B.pre
  have hown : s.vm.findClass RX1 = some m.cls := findClass_of_methodNamed B.named
  have hlocks := B.notSynchronized
  have hinX : ∀ w ∈ u_ws RX1 TX1 5, w ∈ wsX1_formOfOther := by decide +kernel
  have hD : va_D (inW [(m0, .inr (1, [.int th, .ref t0, .ref k0, .ref p0, .int (iI ((w : Nat) : Int))])), (t0, .inl (cI, 24, .inl (fun j => iI ((tb a0 a1 j : Nat) : Int)))), (k0, .inl (cI, 12, .inl (fun j => iI ((K j : Nat) : Int)))), (p0, .inl (cI, 12, .inl (fun j => iI ((q j : Nat) : Int))))]) [(m0, .inr (1, [.int th, .ref t0, .ref k0, .ref p0, .int (iI ((w : Nat) : Int))])), (t0, .inl (cI, 24, .inl (fun j => iI ((tb a0 a1 j : Nat) : Int)))), (k0, .inl (cI, 12, .inl (fun j => iI ((K j : Nat) : Int)))), (p0, .inl (cI, 12, .inl (fun j => iI ((q j : Nat) : Int))))] := va_D_in hD0
  have hS : va_S (inW [(m0, .inr (1, [.int th, .ref t0, .ref k0, .ref p0, .int (iI ((w : Nat) : Int))])), (t0, .inl (cI, 24, .inl (fun j => iI ((tb a0 a1 j : Nat) : Int)))), (k0, .inl (cI, 12, .inl (fun j => iI ((K j : Nat) : Int)))), (p0, .inl (cI, 12, .inl (fun j => iI ((q j : Nat) : Int))))]) s.heap s.heap [] := va_S.rf
  have hl := lv_entry ([.ref m0, .int (iI z0)]) (n := 5) (Nat.le_of_ble_eq_true rfl)
  rw [lg_entry_eq]
  generalize (lg_sl ([.ref m0, .int (iI z0)]) ++ List.replicate (5 - (lg_sl ([.ref m0, .int (iI z0)])).length) Slot.unset).toArray = ls at hl ⊢
  have hl : lv_has ls 5 [(0, .ref m0), (1, .int (iI z0))] := hl
  have hza0 := hz0.1
  have hzb0 := hz0.2
  refine lv_aload_n hx hb dX1_formOfOther_0 rfl (lv_at hl 0 rfl) ?_
  refine lv_iload_n hx hb dX1_formOfOther_1 rfl (lv_at hl 1 rfl) ?_
  refine rd_call (va_runS (As := [.int (iI z0)]) (rest := [.ref m0]) ⟨hx, hb, hml, hown, hts⟩ (mX1_isRow l z0 ⟨by omega, by omega⟩) (va_cwS 1 hts gX1_formOfOther_X1_isRow rfl rfl rfl hdX1_isRow ⟨Nat.le_of_ble_eq_true rfl, Nat.le_of_ble_eq_true rfl⟩) tt_pre rfl rfl hl.1 rfl (lv_room (Nat.le_of_ble_eq_true rfl)) dX1_formOfOther_2 ⟨Nat.le_of_ble_eq_true rfl, Nat.le_of_ble_eq_true rfl⟩) ?_
  refine bb_eq (tgt := 12) hx hb dX1_formOfOther_5 (by decide) (fun c_5 => ?_) (fun c_5 => ?_)
  · skip
    refine ib_const hx hb dX1_formOfOther_12 ?_
    refine wr_call (va_runV (As := [.int (iI 1)]) (rest := []) ⟨hx, hb, hml, hown, hts⟩ (mX1_goesWell l dC dI cI m0 t0 k0 p0 a0 a1 K q th w h0 h1 hw hq 1 ⟨by omega, by omega⟩) (cwV 1 hts gX1_formOfOther_X1_goesWell rfl rfl rfl hvX1_goesWell ⟨Nat.le_of_ble_eq_true rfl, Nat.le_of_ble_eq_true rfl⟩) (bD_pre (ci := 1) (q0 := 0) hK hP hD rfl rfl rfl) rfl rfl hl.1 rfl (lv_room (Nat.le_of_ble_eq_true rfl)) dX1_formOfOther_13 ⟨Nat.le_of_ble_eq_true rfl, Nat.le_of_ble_eq_true rfl⟩) hS (fun q9 h => inW_same (w := [(m0, .inr (1, [.int th, .ref t0, .ref k0, .ref p0, .int (iI ((w : Nat) : Int))])), (t0, .inl (cI, 24, .inl (fun j => iI ((tb a0 a1 j : Nat) : Int)))), (k0, .inl (cI, 12, .inl (fun j => iI ((K j : Nat) : Int)))), (p0, .inl (cI, 12, .inl (fun j => iI ((q j : Nat) : Int))))]) (w' := [(m0, .inr (1, [.int th, .ref t0, .ref k0, .ref p0, .int (iI ((w : Nat) : Int))])), (t0, .inl (cI, 24, .inl (fun j => iI ((tb a0 a1 j : Nat) : Int)))), (k0, .inl (cI, 12, .inl (fun j => iI ((K j : Nat) : Int)))), (p0, .inl (cI, 12, .inl (fun j => iI ((q j : Nat) : Int))))]) rfl h) (fun H locs hP hz hk hS => ?_)
    have hD : va_D (inW [(m0, .inr (1, [.int th, .ref t0, .ref k0, .ref p0, .int (iI ((w : Nat) : Int))])), (t0, .inl (cI, 24, .inl (fun j => iI ((tb a0 a1 j : Nat) : Int)))), (k0, .inl (cI, 12, .inl (fun j => iI ((K j : Nat) : Int)))), (p0, .inl (cI, 12, .inl (fun j => iI ((q j : Nat) : Int))))]) [(m0, .inr (1, [.int (iI 1), .ref t0, .ref k0, .ref p0, .int (iI ((w : Nat) : Int))])), (t0, .inl (cI, 24, .inl (fun j => iI ((tb a0 a1 j : Nat) : Int)))), (k0, .inl (cI, 12, .inl (fun j => iI ((K j : Nat) : Int)))), (p0, .inl (cI, 12, .inl (fun j => iI ((q j : Nat) : Int))))] := va_D_same (w := [(m0, .inr (1, [.int th, .ref t0, .ref k0, .ref p0, .int (iI ((w : Nat) : Int))])), (t0, .inl (cI, 24, .inl (fun j => iI ((tb a0 a1 j : Nat) : Int)))), (k0, .inl (cI, 12, .inl (fun j => iI ((K j : Nat) : Int)))), (p0, .inl (cI, 12, .inl (fun j => iI ((q j : Nat) : Int))))]) rfl hD
    refine st_i (y := iI 0) (congrArg iI (bI_f (by decide))) ?_
    refine ib_if_ne (tgt := 21) hx hb dX1_formOfOther_16 (by decide) ⟨by omega, by omega⟩ (fun c_16 => absurd c_16 (by decide)) (fun c_16 => ?_)
    refine ib_const hx hb dX1_formOfOther_19 ?_
    exact W.iret hx hb hr (fun t ht _ => ⟨rfl, by rw [ht]; exact hP, hS.F ht⟩) hS.2.2 dX1_formOfOther_20
  · skip
    refine ib_const hx hb dX1_formOfOther_8 ?_
    refine lv_goto (tgt := 13) hx hb dX1_formOfOther_9 (by decide) ?_
    exfalso; omega
