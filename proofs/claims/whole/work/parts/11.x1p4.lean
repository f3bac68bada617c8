set_option maxHeartbeats 4000000 in
set_option maxRecDepth 100000 in
theorem mX1_longestKept_x2 (l : Launch) (dC : Nat → ClassId) (dI : Nat → Nat → Nat) (cI : ClassId) (m0 t0 k0 p0 : Nat) (a0 a1 K q : Nat → Nat) (th : Int32) (w : Nat) (h0 : lt12 a0) (h1 : lt12 a1) (hw : w ≤ 12) (hq : ∀ i, i < w → q i < 12) (z0 z1 z2 : Int) (hz0 : inI z0) (hz1 : inI z1) (hz2 : inI z2) (hbad : (z0 = 0 ∨ z0 = 1) ∧ ¬ (0 ≤ z1 ∧ z1 ≤ 3 ∧ 0 ≤ z2 ∧ z2 ≤ 11)) : wr l yX1_longestKept wsX1_longestKept { frames := 3, cells := 0, slots := 0, locals := 63 } [.ref m0, .int (iI z0), .int (iI z1), .int (iI z2)] (dC, dI) [(m0, .inr (1, [.int th, .ref t0, .ref k0, .ref p0, .int (iI ((w : Nat) : Int))])), (t0, .inl (cI, 24, .inl (fun j => iI ((tb a0 a1 j : Nat) : Int)))), (k0, .inl (cI, 12, .inl (fun j => iI ((K j : Nat) : Int)))), (p0, .inl (cI, 12, .inl (fun j => iI ((q j : Nat) : Int))))] [(cI, .int)] [(m0, .inr (1, [.int (iI 2), .ref t0, .ref k0, .ref p0, .int (iI ((w : Nat) : Int))])), (t0, .inl (cI, 24, .inl (fun j => iI ((tb a0 a1 j : Nat) : Int)))), (k0, .inl (cI, 12, .inl (fun j => iI ((K j : Nat) : Int)))), (p0, .inl (cI, 12, .inl (fun j => iI ((q j : Nat) : Int))))] (some (.int (iI 0))) := by
  refine Met.ofW (cc := cX1_longestKept) (maxL := 8) (ret := (some .int)) (by decide) rfl ?_
  intro P0 e s m args below meth c s₁ B hml hv
  obtain ⟨rfl, hP, hK, hD0⟩ := hv
  have hx := B.exec
  have hb := B.bytes
  have hr := B.returns
  have hts := atoms_spec (ws := wsX1_longestKept) B.pre
  have hown : s.vm.findClass RX1 = some m.cls := findClass_of_methodNamed B.named
  have hlocks := B.notSynchronized
  have hinX : ∀ w ∈ u_ws RX1 TX1 5, w ∈ wsX1_longestKept := by decide +kernel
  have hD : va_D (inW [(m0, .inr (1, [.int th, .ref t0, .ref k0, .ref p0, .int (iI ((w : Nat) : Int))])), (t0, .inl (cI, 24, .inl (fun j => iI ((tb a0 a1 j : Nat) : Int)))), (k0, .inl (cI, 12, .inl (fun j => iI ((K j : Nat) : Int)))), (p0, .inl (cI, 12, .inl (fun j => iI ((q j : Nat) : Int))))]) [(m0, .inr (1, [.int th, .ref t0, .ref k0, .ref p0, .int (iI ((w : Nat) : Int))])), (t0, .inl (cI, 24, .inl (fun j => iI ((tb a0 a1 j : Nat) : Int)))), (k0, .inl (cI, 12, .inl (fun j => iI ((K j : Nat) : Int)))), (p0, .inl (cI, 12, .inl (fun j => iI ((q j : Nat) : Int))))] := va_D_in hD0
  have hS : va_S (inW [(m0, .inr (1, [.int th, .ref t0, .ref k0, .ref p0, .int (iI ((w : Nat) : Int))])), (t0, .inl (cI, 24, .inl (fun j => iI ((tb a0 a1 j : Nat) : Int)))), (k0, .inl (cI, 12, .inl (fun j => iI ((K j : Nat) : Int)))), (p0, .inl (cI, 12, .inl (fun j => iI ((q j : Nat) : Int))))]) s.heap s.heap [] := va_S.rf
  have hl := lv_entry ([.ref m0, .int (iI z0), .int (iI z1), .int (iI z2)]) (n := 8) (Nat.le_of_ble_eq_true rfl)
  rw [lg_entry_eq]
  generalize (lg_sl ([.ref m0, .int (iI z0), .int (iI z1), .int (iI z2)]) ++ List.replicate (8 - (lg_sl ([.ref m0, .int (iI z0), .int (iI z1), .int (iI z2)])).length) Slot.unset).toArray = ls at hl ⊢
  have hl : lv_has ls 8 [(0, .ref m0), (1, .int (iI z0)), (2, .int (iI z1)), (3, .int (iI z2))] := hl
  have hza0 := hz0.1
  have hza1 := hz1.1
  have hza2 := hz2.1
  have hzb0 := hz0.2
  have hzb1 := hz1.2
  have hzb2 := hz2.2
  refine lv_aload_n hx hb dX1_longestKept_0 rfl (lv_at hl 0 rfl) ?_
  refine lv_iload_n hx hb dX1_longestKept_1 rfl (lv_at hl 1 rfl) ?_
  refine rd_call (va_runS (As := [.int (iI z0)]) (rest := [.ref m0]) ⟨hx, hb, hml, hown, hts⟩ (mX1_isRow l z0 ⟨by omega, by omega⟩) (va_cwS 1 hts gX1_longestKept_X1_isRow rfl rfl rfl hdX1_isRow ⟨Nat.le_of_ble_eq_true rfl, Nat.le_of_ble_eq_true rfl⟩) tt_pre rfl rfl hl.1 rfl (lv_room (Nat.le_of_ble_eq_true rfl)) dX1_longestKept_2 ⟨Nat.le_of_ble_eq_true rfl, Nat.le_of_ble_eq_true rfl⟩) ?_
  refine bb_ne (tgt := 12) hx hb dX1_longestKept_5 (by decide) (fun c_5 => ?_) (fun c_5 => ?_)
  · skip
    refine lv_iload_n hx hb dX1_longestKept_12 rfl (lv_at hl 2 rfl) ?_
    refine lv_iload_n hx hb dX1_longestKept_13 rfl (lv_at hl 3 rfl) ?_
    refine rd_call (va_runS (As := [.int (iI z1), .int (iI z2)]) (rest := [.ref m0]) ⟨hx, hb, hml, hown, hts⟩ (mX1_isForm l z1 z2 ⟨by omega, by omega⟩ ⟨by omega, by omega⟩) (va_cwS 2 hts gX1_longestKept_X1_isForm rfl rfl rfl hdX1_isForm ⟨Nat.le_of_ble_eq_true rfl, Nat.le_of_ble_eq_true rfl⟩) tt_pre rfl rfl hl.1 rfl (lv_room (Nat.le_of_ble_eq_true rfl)) dX1_longestKept_14 ⟨Nat.le_of_ble_eq_true rfl, Nat.le_of_ble_eq_true rfl⟩) ?_
    refine bb_eq (tgt := 24) hx hb dX1_longestKept_17 (by decide) (fun c_17 => ?_) (fun c_17 => ?_)
    · skip
      refine ib_const hx hb dX1_longestKept_24 ?_
      refine wr_call (va_runV (As := [.int (iI 2)]) (rest := []) ⟨hx, hb, hml, hown, hts⟩ (mX1_goesWell l dC dI cI m0 t0 k0 p0 a0 a1 K q th w h0 h1 hw hq 2 ⟨by omega, by omega⟩) (cwV 1 hts gX1_longestKept_X1_goesWell rfl rfl rfl hvX1_goesWell ⟨Nat.le_of_ble_eq_true rfl, Nat.le_of_ble_eq_true rfl⟩) (bD_pre (ci := 1) (q0 := 0) hK hP hD rfl rfl rfl) rfl rfl hl.1 rfl (lv_room (Nat.le_of_ble_eq_true rfl)) dX1_longestKept_25 ⟨Nat.le_of_ble_eq_true rfl, Nat.le_of_ble_eq_true rfl⟩) hS (fun q9 h => inW_same (w := [(m0, .inr (1, [.int th, .ref t0, .ref k0, .ref p0, .int (iI ((w : Nat) : Int))])), (t0, .inl (cI, 24, .inl (fun j => iI ((tb a0 a1 j : Nat) : Int)))), (k0, .inl (cI, 12, .inl (fun j => iI ((K j : Nat) : Int)))), (p0, .inl (cI, 12, .inl (fun j => iI ((q j : Nat) : Int))))]) (w' := [(m0, .inr (1, [.int th, .ref t0, .ref k0, .ref p0, .int (iI ((w : Nat) : Int))])), (t0, .inl (cI, 24, .inl (fun j => iI ((tb a0 a1 j : Nat) : Int)))), (k0, .inl (cI, 12, .inl (fun j => iI ((K j : Nat) : Int)))), (p0, .inl (cI, 12, .inl (fun j => iI ((q j : Nat) : Int))))]) rfl h) (fun H locs hP hz hk hS => ?_)
      have hD : va_D (inW [(m0, .inr (1, [.int th, .ref t0, .ref k0, .ref p0, .int (iI ((w : Nat) : Int))])), (t0, .inl (cI, 24, .inl (fun j => iI ((tb a0 a1 j : Nat) : Int)))), (k0, .inl (cI, 12, .inl (fun j => iI ((K j : Nat) : Int)))), (p0, .inl (cI, 12, .inl (fun j => iI ((q j : Nat) : Int))))]) [(m0, .inr (1, [.int (iI 2), .ref t0, .ref k0, .ref p0, .int (iI ((w : Nat) : Int))])), (t0, .inl (cI, 24, .inl (fun j => iI ((tb a0 a1 j : Nat) : Int)))), (k0, .inl (cI, 12, .inl (fun j => iI ((K j : Nat) : Int)))), (p0, .inl (cI, 12, .inl (fun j => iI ((q j : Nat) : Int))))] := va_D_same (w := [(m0, .inr (1, [.int th, .ref t0, .ref k0, .ref p0, .int (iI ((w : Nat) : Int))])), (t0, .inl (cI, 24, .inl (fun j => iI ((tb a0 a1 j : Nat) : Int)))), (k0, .inl (cI, 12, .inl (fun j => iI ((K j : Nat) : Int)))), (p0, .inl (cI, 12, .inl (fun j => iI ((q j : Nat) : Int))))]) rfl hD
      refine st_i (y := iI 0) (congrArg iI (bI_f (by decide))) ?_
      refine ib_if_ne (tgt := 33) hx hb dX1_longestKept_28 (by decide) ⟨by omega, by omega⟩ (fun c_28 => absurd c_28 (by decide)) (fun c_28 => ?_)
      refine ib_const hx hb dX1_longestKept_31 ?_
      exact W.iret hx hb hr (fun t ht _ => ⟨rfl, by rw [ht]; exact hP, hS.F ht⟩) hS.2.2 dX1_longestKept_32
    · skip
      refine ib_const hx hb dX1_longestKept_20 ?_
      refine lv_goto (tgt := 25) hx hb dX1_longestKept_21 (by decide) ?_
      exfalso; omega
  · skip
    refine ib_const hx hb dX1_longestKept_8 ?_
    refine lv_goto (tgt := 25) hx hb dX1_longestKept_9 (by decide) ?_
    exfalso; omega

set_option maxHeartbeats 4000000 in
set_option maxRecDepth 100000 in
theorem mX1_mostKept_ok (l : Launch) (dC : Nat → ClassId) (dI : Nat → Nat → Nat) (cI : ClassId) (m0 t0 k0 p0 : Nat) (a0 a1 K q : Nat → Nat) (th : Int32) (w : Nat) (h0 : lt12 a0) (h1 : lt12 a1) (hw : w ≤ 12) (hq : ∀ i, i < w → q i < 12) (r k : Nat) (hr9 : r < 2) (hk1 : 2 ≤ k) (hk2 : k ≤ 11) : wr l yX1_mostKept wsX1_mostKept { frames := 4, cells := 0, slots := 0, locals := 101 } [.ref m0, .int (iI ((r : Nat) : Int)), .int (iI ((k : Nat) : Int))] (dC, dI) [(m0, .inr (1, [.int th, .ref t0, .ref k0, .ref p0, .int (iI ((w : Nat) : Int))])), (t0, .inl (cI, 24, .inl (fun j => iI ((tb a0 a1 j : Nat) : Int)))), (k0, .inl (cI, 12, .inl (fun j => iI ((K j : Nat) : Int)))), (p0, .inl (cI, 12, .inl (fun j => iI ((q j : Nat) : Int))))] [(cI, .int)] [(m0, .inr (1, [.int (iI 0), .ref t0, .ref k0, .ref p0, .int (iI ((w : Nat) : Int))])), (t0, .inl (cI, 24, .inl (fun j => iI ((tb a0 a1 j : Nat) : Int)))), (k0, .inl (cI, 12, .inl (fun j => iI ((K j : Nat) : Int)))), (p0, .inl (cI, 12, .inl (fun j => iI ((q j : Nat) : Int))))] (some (.int (iI (mkC (rw_ r a0 a1) k 48)))) := by
  refine Met.ofW (cc := cX1_mostKept) (maxL := 7) (ret := (some .int)) (by decide) rfl ?_
  intro P0 e s m args below meth c s₁ B hml hv
  obtain ⟨rfl, hP, hK, hD0⟩ := hv
  have hx := B.exec
  have hb := B.bytes
  have hr := B.returns
  have hts := atoms_spec (ws := wsX1_mostKept) B.pre
  have hown : s.vm.findClass RX1 = some m.cls := findClass_of_methodNamed B.named
  have hlocks := B.notSynchronized
  have hinX : ∀ w ∈ u_ws RX1 TX1 5, w ∈ wsX1_mostKept := by decide +kernel
  have hD : va_D (inW [(m0, .inr (1, [.int th, .ref t0, .ref k0, .ref p0, .int (iI ((w : Nat) : Int))])), (t0, .inl (cI, 24, .inl (fun j => iI ((tb a0 a1 j : Nat) : Int)))), (k0, .inl (cI, 12, .inl (fun j => iI ((K j : Nat) : Int)))), (p0, .inl (cI, 12, .inl (fun j => iI ((q j : Nat) : Int))))]) [(m0, .inr (1, [.int th, .ref t0, .ref k0, .ref p0, .int (iI ((w : Nat) : Int))])), (t0, .inl (cI, 24, .inl (fun j => iI ((tb a0 a1 j : Nat) : Int)))), (k0, .inl (cI, 12, .inl (fun j => iI ((K j : Nat) : Int)))), (p0, .inl (cI, 12, .inl (fun j => iI ((q j : Nat) : Int))))] := va_D_in hD0
  have hS : va_S (inW [(m0, .inr (1, [.int th, .ref t0, .ref k0, .ref p0, .int (iI ((w : Nat) : Int))])), (t0, .inl (cI, 24, .inl (fun j => iI ((tb a0 a1 j : Nat) : Int)))), (k0, .inl (cI, 12, .inl (fun j => iI ((K j : Nat) : Int)))), (p0, .inl (cI, 12, .inl (fun j => iI ((q j : Nat) : Int))))]) s.heap s.heap [] := va_S.rf
  have hl := lv_entry ([.ref m0, .int (iI ((r : Nat) : Int)), .int (iI ((k : Nat) : Int))]) (n := 7) (Nat.le_of_ble_eq_true rfl)
  rw [lg_entry_eq]
  generalize (lg_sl ([.ref m0, .int (iI ((r : Nat) : Int)), .int (iI ((k : Nat) : Int))]) ++ List.replicate (7 - (lg_sl ([.ref m0, .int (iI ((r : Nat) : Int)), .int (iI ((k : Nat) : Int))])).length) Slot.unset).toArray = ls at hl ⊢
  have hl : lv_has ls 7 [(0, .ref m0), (1, .int (iI ((r : Nat) : Int))), (2, .int (iI ((k : Nat) : Int)))] := hl
  refine lv_aload_n hx hb dX1_mostKept_0 rfl (lv_at hl 0 rfl) ?_
  refine lv_iload_n hx hb dX1_mostKept_1 rfl (lv_at hl 1 rfl) ?_
  refine rd_call (va_runS (As := [.int (iI ((r : Nat) : Int))]) (rest := [.ref m0]) ⟨hx, hb, hml, hown, hts⟩ (mX1_isRow l ((r : Nat) : Int) ⟨by omega, by omega⟩) (va_cwS 1 hts gX1_mostKept_X1_isRow rfl rfl rfl hdX1_isRow ⟨Nat.le_of_ble_eq_true rfl, Nat.le_of_ble_eq_true rfl⟩) tt_pre rfl rfl hl.1 rfl (lv_room (Nat.le_of_ble_eq_true rfl)) dX1_mostKept_2 ⟨Nat.le_of_ble_eq_true rfl, Nat.le_of_ble_eq_true rfl⟩) ?_
  refine bb_ne (tgt := 12) hx hb dX1_mostKept_5 (by decide) (fun c_5 => ?_) (fun c_5 => absurd c_5 (by omega))
  refine lv_iload_n hx hb dX1_mostKept_12 rfl (lv_at hl 2 rfl) ?_
  refine ib_const hx hb dX1_mostKept_13 ?_
  refine ib_bi hx hb dX1_mostKept_14 (by decide) ?_
  refine rd_call (va_runS (As := [.int (iI ((k : Nat) : Int)), .int (iI 2), .int (iI 11)]) (rest := [.ref m0]) ⟨hx, hb, hml, hown, hts⟩ (mX1_in l ((k : Nat) : Int) 2 11 ⟨by omega, by omega⟩ ⟨by omega, by omega⟩ ⟨by omega, by omega⟩) (va_cwS 3 hts gX1_mostKept_X1_in rfl rfl rfl hdX1_in ⟨Nat.le_of_ble_eq_true rfl, Nat.le_of_ble_eq_true rfl⟩) tt_pre rfl rfl hl.1 rfl (lv_room (Nat.le_of_ble_eq_true rfl)) dX1_mostKept_16 ⟨Nat.le_of_ble_eq_true rfl, Nat.le_of_ble_eq_true rfl⟩) ?_
  refine bb_eq (tgt := 26) hx hb dX1_mostKept_19 (by decide) (fun c_19 => absurd c_19 (by omega)) (fun c_19 => ?_)
  refine ib_const hx hb dX1_mostKept_22 ?_
  refine lv_goto (tgt := 27) hx hb dX1_mostKept_23 (by decide) ?_
  refine wr_call (va_runV (As := [.int (iI 0)]) (rest := []) ⟨hx, hb, hml, hown, hts⟩ (mX1_goesWell l dC dI cI m0 t0 k0 p0 a0 a1 K q th w h0 h1 hw hq 0 ⟨by omega, by omega⟩) (cwV 1 hts gX1_mostKept_X1_goesWell rfl rfl rfl hvX1_goesWell ⟨Nat.le_of_ble_eq_true rfl, Nat.le_of_ble_eq_true rfl⟩) (bD_pre (ci := 1) (q0 := 0) hK hP hD rfl rfl rfl) rfl rfl hl.1 rfl (lv_room (Nat.le_of_ble_eq_true rfl)) dX1_mostKept_27 ⟨Nat.le_of_ble_eq_true rfl, Nat.le_of_ble_eq_true rfl⟩) hS (fun q9 h => inW_same (w := [(m0, .inr (1, [.int th, .ref t0, .ref k0, .ref p0, .int (iI ((w : Nat) : Int))])), (t0, .inl (cI, 24, .inl (fun j => iI ((tb a0 a1 j : Nat) : Int)))), (k0, .inl (cI, 12, .inl (fun j => iI ((K j : Nat) : Int)))), (p0, .inl (cI, 12, .inl (fun j => iI ((q j : Nat) : Int))))]) (w' := [(m0, .inr (1, [.int th, .ref t0, .ref k0, .ref p0, .int (iI ((w : Nat) : Int))])), (t0, .inl (cI, 24, .inl (fun j => iI ((tb a0 a1 j : Nat) : Int)))), (k0, .inl (cI, 12, .inl (fun j => iI ((K j : Nat) : Int)))), (p0, .inl (cI, 12, .inl (fun j => iI ((q j : Nat) : Int))))]) rfl h) (fun H locs hP hz hk hS => ?_)
  have hD : va_D (inW [(m0, .inr (1, [.int th, .ref t0, .ref k0, .ref p0, .int (iI ((w : Nat) : Int))])), (t0, .inl (cI, 24, .inl (fun j => iI ((tb a0 a1 j : Nat) : Int)))), (k0, .inl (cI, 12, .inl (fun j => iI ((K j : Nat) : Int)))), (p0, .inl (cI, 12, .inl (fun j => iI ((q j : Nat) : Int))))]) [(m0, .inr (1, [.int (iI 0), .ref t0, .ref k0, .ref p0, .int (iI ((w : Nat) : Int))])), (t0, .inl (cI, 24, .inl (fun j => iI ((tb a0 a1 j : Nat) : Int)))), (k0, .inl (cI, 12, .inl (fun j => iI ((K j : Nat) : Int)))), (p0, .inl (cI, 12, .inl (fun j => iI ((q j : Nat) : Int))))] := va_D_same (w := [(m0, .inr (1, [.int th, .ref t0, .ref k0, .ref p0, .int (iI ((w : Nat) : Int))])), (t0, .inl (cI, 24, .inl (fun j => iI ((tb a0 a1 j : Nat) : Int)))), (k0, .inl (cI, 12, .inl (fun j => iI ((K j : Nat) : Int)))), (p0, .inl (cI, 12, .inl (fun j => iI ((q j : Nat) : Int))))]) rfl hD
  refine st_i (y := iI 1) (congrArg iI (bI_t (by decide))) ?_
  refine ib_if_ne (tgt := 35) hx hb dX1_mostKept_30 (by decide) ⟨by omega, by omega⟩ (fun c_30 => ?_) (fun c_30 => absurd c_30 (by decide))
  refine ib_const hx hb dX1_mostKept_35 ?_
  refine lv_istore_n (lv' := [(3, .int (iI (-1))), (0, .ref m0), (1, .int (iI ((r : Nat) : Int))), (2, .int (iI ((k : Nat) : Int)))]) hx hb dX1_mostKept_36 rfl hl (by decide) rfl (fun ls hl => ?_)
  refine ib_const hx hb dX1_mostKept_37 ?_
  refine lv_istore (lv' := [(4, .int (iI (-1))), (3, .int (iI (-1))), (0, .ref m0), (1, .int (iI ((r : Nat) : Int))), (2, .int (iI ((k : Nat) : Int)))]) hx hb dX1_mostKept_38 hl (by decide) rfl (fun ls hl => ?_)
  refine ib_const hx hb dX1_mostKept_40 ?_
  refine lv_istore (lv' := [(5, .int (iI 0)), (4, .int (iI (-1))), (3, .int (iI (-1))), (0, .ref m0), (1, .int (iI ((r : Nat) : Int))), (2, .int (iI ((k : Nat) : Int)))]) hx hb dX1_mostKept_41 hl (by decide) rfl (fun ls hl => ?_)
  have lp_43_1 : ∀ (j n : Nat), n + j = 48 → ∀ ls : Array Slot, lv_has ls 7 [(0, .ref m0), (1, .int (iI ((r : Nat) : Int))), (2, .int (iI ((k : Nat) : Int))), (3, .int (iI (mkC (rw_ r a0 a1) k n))), (4, .int (iI (mkM (rw_ r a0 a1) k n))), (5, .int (iI ((n : Nat) : Int)))] → W P0 l e (headSpec wsX1_mostKept { frames := 4, cells := 0, slots := 0, locals := 101 }).room s m ([.ref m0, .int (iI ((r : Nat) : Int)), .int (iI ((k : Nat) : Int))] : List Value).toArray below meth c H locs 0 0 (MQ below (wrQ (dC, dI) (inW [(m0, .inr (1, [.int th, .ref t0, .ref k0, .ref p0, .int (iI ((w : Nat) : Int))])), (t0, .inl (cI, 24, .inl (fun j => iI ((tb a0 a1 j : Nat) : Int)))), (k0, .inl (cI, 12, .inl (fun j => iI ((K j : Nat) : Int)))), (p0, .inl (cI, 12, .inl (fun j => iI ((q j : Nat) : Int))))]) [(m0, .inr (1, [.int (iI 0), .ref t0, .ref k0, .ref p0, .int (iI ((w : Nat) : Int))])), (t0, .inl (cI, 24, .inl (fun j => iI ((tb a0 a1 j : Nat) : Int)))), (k0, .inl (cI, 12, .inl (fun j => iI ((K j : Nat) : Int)))), (p0, .inl (cI, 12, .inl (fun j => iI ((q j : Nat) : Int))))] (some (.int (iI (mkC (rw_ r a0 a1) k 48))))) ([.ref m0, .int (iI ((r : Nat) : Int)), .int (iI ((k : Nat) : Int))] : List Value).toArray s 0 0 (inW [(m0, .inr (1, [.int th, .ref t0, .ref k0, .ref p0, .int (iI ((w : Nat) : Int))])), (t0, .inl (cI, 24, .inl (fun j => iI ((tb a0 a1 j : Nat) : Int)))), (k0, .inl (cI, 12, .inl (fun j => iI ((K j : Nat) : Int)))), (p0, .inl (cI, 12, .inl (fun j => iI ((q j : Nat) : Int))))])) (F0 m 43 ls []) := by
    intro j
    induction j with
    | zero =>
      intro n hn_43  ls hl
      have hmm := mkM_in (rw_ r a0 a1) k n
      have hmc := mkC_in (rw_ r a0 a1) k n
      refine lv_iload hx hb dX1_mostKept_43 (lv_at hl 5 rfl) ?_
      refine ib_bi hx hb dX1_mostKept_45 (by decide) ?_
      refine ib_icmp_ge (tgt := 110) hx hb dX1_mostKept_47 (by decide) ⟨by omega, by omega⟩ ⟨by omega, by omega⟩ (fun c_47 => ?_) (fun c_47 => absurd c_47 (by omega))
      refine lv_iload_n hx hb dX1_mostKept_110 rfl (lv_at hl 3 rfl) ?_
      refine st_i (y := iI (mkC (rw_ r a0 a1) k 48)) (congrArg (fun z => iI (mkC (rw_ r a0 a1) k z)) (show n = 48 by omega)) ?_
      exact W.iret hx hb hr (fun t ht _ => ⟨rfl, by rw [ht]; exact hP, hS.F ht⟩) hS.2.2 dX1_mostKept_111
    | succ j ih_43_1 =>
      intro n hn_43  ls hl
      have hmm := mkM_in (rw_ r a0 a1) k n
      have hmc := mkC_in (rw_ r a0 a1) k n
      refine lv_iload hx hb dX1_mostKept_43 (lv_at hl 5 rfl) ?_
      refine ib_bi hx hb dX1_mostKept_45 (by decide) ?_
      refine ib_icmp_ge (tgt := 110) hx hb dX1_mostKept_47 (by decide) ⟨by omega, by omega⟩ ⟨by omega, by omega⟩ (fun c_47 => absurd c_47 (by omega)) (fun c_47 => ?_)
      refine lv_iload hx hb dX1_mostKept_50 (lv_at hl 5 rfl) ?_
      refine lv_aload_n hx hb dX1_mostKept_52 rfl (lv_at hl 0 rfl) ?_
      refine lv_iload_n hx hb dX1_mostKept_53 rfl (lv_at hl 1 rfl) ?_
      refine rd_call (va_runV (As := [.int (iI ((r : Nat) : Int))]) (rest := [.int (iI ((n : Nat) : Int))]) ⟨hx, hb, hml, hown, hts⟩ (mX1_itself l dC dI cI m0 t0 k0 p0 a0 a1 K q (iI 0) w h0 h1 hw hq r (by omega)) (cwV 1 hts gX1_mostKept_X1_itself rfl rfl rfl hvX1_itself ⟨Nat.le_of_ble_eq_true rfl, Nat.le_of_ble_eq_true rfl⟩) (bW_pre (ci := 1) (q0 := 0) hK hP rfl rfl rfl) rfl rfl hl.1 rfl (lv_room (Nat.le_of_ble_eq_true rfl)) dX1_mostKept_54 ⟨Nat.le_of_ble_eq_true rfl, Nat.le_of_ble_eq_true rfl⟩) ?_
      have hr_54 := rw_lt h0 h1 r (i := 0) (by omega)
      refine ib_icmp_ne (tgt := 64) hx hb dX1_mostKept_57 (by decide) ⟨by omega, by omega⟩ ⟨by omega, by omega⟩ (fun c_57 => ?_) (fun c_57 => ?_)
      · skip
        refine lv_aload_n hx hb dX1_mostKept_64 rfl (lv_at hl 0 rfl) ?_
        refine lv_iload_n hx hb dX1_mostKept_65 rfl (lv_at hl 1 rfl) ?_
        refine lv_iload hx hb dX1_mostKept_66 (lv_at hl 5 rfl) ?_
        refine lv_iload_n hx hb dX1_mostKept_68 rfl (lv_at hl 2 rfl) ?_
        refine rd_call (va_runV (As := [.int (iI ((r : Nat) : Int)), .int (iI ((n : Nat) : Int)), .int (iI ((k : Nat) : Int))]) (rest := []) ⟨hx, hb, hml, hown, hts⟩ (mX1_setsKept l dC dI cI m0 t0 k0 p0 a0 a1 K q (iI 0) w h0 h1 hw hq r n k (by omega) (by omega) (by omega) (by omega)) (cwV 3 hts gX1_mostKept_X1_setsKept rfl rfl rfl hvX1_setsKept ⟨Nat.le_of_ble_eq_true rfl, Nat.le_of_ble_eq_true rfl⟩) (bW_pre (ci := 1) (q0 := 0) hK hP rfl rfl rfl) rfl rfl hl.1 rfl (lv_room (Nat.le_of_ble_eq_true rfl)) dX1_mostKept_69 ⟨Nat.le_of_ble_eq_true rfl, Nat.le_of_ble_eq_true rfl⟩) ?_
        have hk_69 := skN_le (rw_ r a0 a1) n k (13 - k)
        refine st_i (y := iI (mkV (rw_ r a0 a1) k n)) (congrArg iI (if_neg (by omega)).symm) ?_
        have hmv := mkV_in (rw_ r a0 a1) k n
        refine lv_istore (lv' := [(6, .int (iI (mkV (rw_ r a0 a1) k n))), (0, .ref m0), (1, .int (iI ((r : Nat) : Int))), (2, .int (iI ((k : Nat) : Int))), (3, .int (iI (mkC (rw_ r a0 a1) k n))), (4, .int (iI (mkM (rw_ r a0 a1) k n))), (5, .int (iI ((n : Nat) : Int)))]) hx hb dX1_mostKept_72 hl (by decide) rfl (fun ls hl => ?_)
        refine lv_iload hx hb dX1_mostKept_74 (lv_at hl 0 rfl) ?_
        refine lv_iload hx hb dX1_mostKept_76 (lv_at hl 5 rfl) ?_
        refine ib_icmp_le (tgt := 86) hx hb dX1_mostKept_78 (by decide) ⟨by omega, by omega⟩ ⟨by omega, by omega⟩ (fun c_78 => ?_) (fun c_78 => ?_)
        · skip
          refine lv_iload_n hx hb dX1_mostKept_86 rfl (lv_at hl 4 rfl) ?_
          refine lv_istore_n (lv' := [(3, .int (iI (mkC (rw_ r a0 a1) k n))), (6, .int (iI (mkV (rw_ r a0 a1) k n))), (0, .ref m0), (1, .int (iI ((r : Nat) : Int))), (2, .int (iI ((k : Nat) : Int))), (4, .int (iI (mkM (rw_ r a0 a1) k n))), (5, .int (iI ((n : Nat) : Int)))]) hx hb dX1_mostKept_87 rfl hl (by decide) rfl (fun ls hl => ?_)
          refine lv_iload hx hb dX1_mostKept_88 (lv_at hl 1 rfl) ?_
          refine lv_iload hx hb dX1_mostKept_90 (lv_at hl 5 rfl) ?_
          refine ib_icmp_le (tgt := 100) hx hb dX1_mostKept_92 (by decide) ⟨by omega, by omega⟩ ⟨by omega, by omega⟩ (fun c_92 => ?_) (fun c_92 => ?_)
          · skip
            refine lv_iload hx hb dX1_mostKept_100 (lv_at hl 5 rfl) ?_
            refine lv_istore (lv' := [(4, .int (iI (mkM (rw_ r a0 a1) k n))), (3, .int (iI (mkC (rw_ r a0 a1) k n))), (6, .int (iI (mkV (rw_ r a0 a1) k n))), (0, .ref m0), (1, .int (iI ((r : Nat) : Int))), (2, .int (iI ((k : Nat) : Int))), (5, .int (iI ((n : Nat) : Int)))]) hx hb dX1_mostKept_102 hl (by decide) rfl (fun ls hl => ?_)
            refine lv_iinc (v := iI ((n + 1 : Nat) : Int)) (lv' := [(5, .int (iI ((n + 1 : Nat) : Int))), (4, .int (iI (mkM (rw_ r a0 a1) k n))), (3, .int (iI (mkC (rw_ r a0 a1) k n))), (6, .int (iI (mkV (rw_ r a0 a1) k n))), (0, .ref m0), (1, .int (iI ((r : Nat) : Int))), (2, .int (iI ((k : Nat) : Int)))]) hx hb dX1_mostKept_104 hl (k := 6) rfl (iI_inc (by omega)) (by decide) rfl (fun ls hl => ?_)
            refine lv_goto (tgt := 43) hx hb dX1_mostKept_107 (by decide) ?_
            have hl : lv_has ls 7 [(5, .int (iI ((n + 1 : Nat) : Int))), (4, .int (iI (mkM (rw_ r a0 a1) k n))), (3, .int (iI (mkC (rw_ r a0 a1) k (n + 1)))), (6, .int (iI (mkV (rw_ r a0 a1) k n))), (0, .ref m0), (1, .int (iI ((r : Nat) : Int))), (2, .int (iI ((k : Nat) : Int)))] := by
              have e9 : iI (mkC (rw_ r a0 a1) k n) = iI (mkC (rw_ r a0 a1) k (n + 1)) := congrArg iI (if_neg (Int.not_lt.mpr c_78)).symm
              rw [← e9]; exact hl
            have hl : lv_has ls 7 [(5, .int (iI ((n + 1 : Nat) : Int))), (4, .int (iI (mkM (rw_ r a0 a1) k (n + 1)))), (3, .int (iI (mkC (rw_ r a0 a1) k (n + 1)))), (6, .int (iI (mkV (rw_ r a0 a1) k n))), (0, .ref m0), (1, .int (iI ((r : Nat) : Int))), (2, .int (iI ((k : Nat) : Int)))] := by
              have e9 : iI (mkM (rw_ r a0 a1) k n) = iI (mkM (rw_ r a0 a1) k (n + 1)) := congrArg iI (if_neg (Int.not_lt.mpr c_92)).symm
              rw [← e9]; exact hl
            exact ih_43_1 (n + 1) (by omega)  _ (lv_sub hl [4, 5, 6, 2, 1, 0] rfl)
          · skip
            refine lv_iload hx hb dX1_mostKept_95 (lv_at hl 1 rfl) ?_
            refine lv_goto (tgt := 102) hx hb dX1_mostKept_97 (by decide) ?_
            refine lv_istore (lv' := [(4, .int (iI (mkV (rw_ r a0 a1) k n))), (3, .int (iI (mkC (rw_ r a0 a1) k n))), (6, .int (iI (mkV (rw_ r a0 a1) k n))), (0, .ref m0), (1, .int (iI ((r : Nat) : Int))), (2, .int (iI ((k : Nat) : Int))), (5, .int (iI ((n : Nat) : Int)))]) hx hb dX1_mostKept_102 hl (by decide) rfl (fun ls hl => ?_)
            refine lv_iinc (v := iI ((n + 1 : Nat) : Int)) (lv' := [(5, .int (iI ((n + 1 : Nat) : Int))), (4, .int (iI (mkV (rw_ r a0 a1) k n))), (3, .int (iI (mkC (rw_ r a0 a1) k n))), (6, .int (iI (mkV (rw_ r a0 a1) k n))), (0, .ref m0), (1, .int (iI ((r : Nat) : Int))), (2, .int (iI ((k : Nat) : Int)))]) hx hb dX1_mostKept_104 hl (k := 6) rfl (iI_inc (by omega)) (by decide) rfl (fun ls hl => ?_)
            refine lv_goto (tgt := 43) hx hb dX1_mostKept_107 (by decide) ?_
            have hl : lv_has ls 7 [(5, .int (iI ((n + 1 : Nat) : Int))), (4, .int (iI (mkV (rw_ r a0 a1) k n))), (3, .int (iI (mkC (rw_ r a0 a1) k (n + 1)))), (6, .int (iI (mkV (rw_ r a0 a1) k n))), (0, .ref m0), (1, .int (iI ((r : Nat) : Int))), (2, .int (iI ((k : Nat) : Int)))] := by
              have e9 : iI (mkC (rw_ r a0 a1) k n) = iI (mkC (rw_ r a0 a1) k (n + 1)) := congrArg iI (if_neg (Int.not_lt.mpr c_78)).symm
              rw [← e9]; exact hl
            have hl : lv_has ls 7 [(5, .int (iI ((n + 1 : Nat) : Int))), (4, .int (iI (mkM (rw_ r a0 a1) k (n + 1)))), (3, .int (iI (mkC (rw_ r a0 a1) k (n + 1)))), (6, .int (iI (mkV (rw_ r a0 a1) k n))), (0, .ref m0), (1, .int (iI ((r : Nat) : Int))), (2, .int (iI ((k : Nat) : Int)))] := by
              have e9 : iI (mkV (rw_ r a0 a1) k n) = iI (mkM (rw_ r a0 a1) k (n + 1)) := congrArg iI (if_pos c_92).symm
              rw [← e9]; exact hl
            exact ih_43_1 (n + 1) (by omega)  _ (lv_sub hl [4, 5, 6, 2, 1, 0] rfl)
        · skip
          refine lv_iload hx hb dX1_mostKept_81 (lv_at hl 6 rfl) ?_
          refine lv_goto (tgt := 87) hx hb dX1_mostKept_83 (by decide) ?_
          refine lv_istore_n (lv' := [(3, .int (iI ((n : Nat) : Int))), (6, .int (iI (mkV (rw_ r a0 a1) k n))), (0, .ref m0), (1, .int (iI ((r : Nat) : Int))), (2, .int (iI ((k : Nat) : Int))), (4, .int (iI (mkM (rw_ r a0 a1) k n))), (5, .int (iI ((n : Nat) : Int)))]) hx hb dX1_mostKept_87 rfl hl (by decide) rfl (fun ls hl => ?_)
          refine lv_iload hx hb dX1_mostKept_88 (lv_at hl 1 rfl) ?_
          refine lv_iload hx hb dX1_mostKept_90 (lv_at hl 5 rfl) ?_
          refine ib_icmp_le (tgt := 100) hx hb dX1_mostKept_92 (by decide) ⟨by omega, by omega⟩ ⟨by omega, by omega⟩ (fun c_92 => ?_) (fun c_92 => ?_)
          · skip
            refine lv_iload hx hb dX1_mostKept_100 (lv_at hl 5 rfl) ?_
            refine lv_istore (lv' := [(4, .int (iI (mkM (rw_ r a0 a1) k n))), (3, .int (iI ((n : Nat) : Int))), (6, .int (iI (mkV (rw_ r a0 a1) k n))), (0, .ref m0), (1, .int (iI ((r : Nat) : Int))), (2, .int (iI ((k : Nat) : Int))), (5, .int (iI ((n : Nat) : Int)))]) hx hb dX1_mostKept_102 hl (by decide) rfl (fun ls hl => ?_)
            refine lv_iinc (v := iI ((n + 1 : Nat) : Int)) (lv' := [(5, .int (iI ((n + 1 : Nat) : Int))), (4, .int (iI (mkM (rw_ r a0 a1) k n))), (3, .int (iI ((n : Nat) : Int))), (6, .int (iI (mkV (rw_ r a0 a1) k n))), (0, .ref m0), (1, .int (iI ((r : Nat) : Int))), (2, .int (iI ((k : Nat) : Int)))]) hx hb dX1_mostKept_104 hl (k := 6) rfl (iI_inc (by omega)) (by decide) rfl (fun ls hl => ?_)
            refine lv_goto (tgt := 43) hx hb dX1_mostKept_107 (by decide) ?_
            have hl : lv_has ls 7 [(5, .int (iI ((n + 1 : Nat) : Int))), (4, .int (iI (mkM (rw_ r a0 a1) k n))), (3, .int (iI (mkC (rw_ r a0 a1) k (n + 1)))), (6, .int (iI (mkV (rw_ r a0 a1) k n))), (0, .ref m0), (1, .int (iI ((r : Nat) : Int))), (2, .int (iI ((k : Nat) : Int)))] := by
              have e9 : iI ((n : Nat) : Int) = iI (mkC (rw_ r a0 a1) k (n + 1)) := congrArg iI (if_pos c_78).symm
              rw [← e9]; exact hl
            have hl : lv_has ls 7 [(5, .int (iI ((n + 1 : Nat) : Int))), (4, .int (iI (mkM (rw_ r a0 a1) k (n + 1)))), (3, .int (iI (mkC (rw_ r a0 a1) k (n + 1)))), (6, .int (iI (mkV (rw_ r a0 a1) k n))), (0, .ref m0), (1, .int (iI ((r : Nat) : Int))), (2, .int (iI ((k : Nat) : Int)))] := by
              have e9 : iI (mkM (rw_ r a0 a1) k n) = iI (mkM (rw_ r a0 a1) k (n + 1)) := congrArg iI (if_neg (Int.not_lt.mpr c_92)).symm
              rw [← e9]; exact hl
            exact ih_43_1 (n + 1) (by omega)  _ (lv_sub hl [4, 5, 6, 2, 1, 0] rfl)
          · skip
            refine lv_iload hx hb dX1_mostKept_95 (lv_at hl 1 rfl) ?_
            refine lv_goto (tgt := 102) hx hb dX1_mostKept_97 (by decide) ?_
            refine lv_istore (lv' := [(4, .int (iI (mkV (rw_ r a0 a1) k n))), (3, .int (iI ((n : Nat) : Int))), (6, .int (iI (mkV (rw_ r a0 a1) k n))), (0, .ref m0), (1, .int (iI ((r : Nat) : Int))), (2, .int (iI ((k : Nat) : Int))), (5, .int (iI ((n : Nat) : Int)))]) hx hb dX1_mostKept_102 hl (by decide) rfl (fun ls hl => ?_)
            refine lv_iinc (v := iI ((n + 1 : Nat) : Int)) (lv' := [(5, .int (iI ((n + 1 : Nat) : Int))), (4, .int (iI (mkV (rw_ r a0 a1) k n))), (3, .int (iI ((n : Nat) : Int))), (6, .int (iI (mkV (rw_ r a0 a1) k n))), (0, .ref m0), (1, .int (iI ((r : Nat) : Int))), (2, .int (iI ((k : Nat) : Int)))]) hx hb dX1_mostKept_104 hl (k := 6) rfl (iI_inc (by omega)) (by decide) rfl (fun ls hl => ?_)
            refine lv_goto (tgt := 43) hx hb dX1_mostKept_107 (by decide) ?_
            have hl : lv_has ls 7 [(5, .int (iI ((n + 1 : Nat) : Int))), (4, .int (iI (mkV (rw_ r a0 a1) k n))), (3, .int (iI (mkC (rw_ r a0 a1) k (n + 1)))), (6, .int (iI (mkV (rw_ r a0 a1) k n))), (0, .ref m0), (1, .int (iI ((r : Nat) : Int))), (2, .int (iI ((k : Nat) : Int)))] := by
              have e9 : iI ((n : Nat) : Int) = iI (mkC (rw_ r a0 a1) k (n + 1)) := congrArg iI (if_pos c_78).symm
              rw [← e9]; exact hl
            have hl : lv_has ls 7 [(5, .int (iI ((n + 1 : Nat) : Int))), (4, .int (iI (mkM (rw_ r a0 a1) k (n + 1)))), (3, .int (iI (mkC (rw_ r a0 a1) k (n + 1)))), (6, .int (iI (mkV (rw_ r a0 a1) k n))), (0, .ref m0), (1, .int (iI ((r : Nat) : Int))), (2, .int (iI ((k : Nat) : Int)))] := by
              have e9 : iI (mkV (rw_ r a0 a1) k n) = iI (mkM (rw_ r a0 a1) k (n + 1)) := congrArg iI (if_pos c_92).symm
              rw [← e9]; exact hl
            exact ih_43_1 (n + 1) (by omega)  _ (lv_sub hl [4, 5, 6, 2, 1, 0] rfl)
      · skip
        refine ib_const hx hb dX1_mostKept_60 ?_
        refine lv_goto (tgt := 72) hx hb dX1_mostKept_61 (by decide) ?_
        refine st_i (y := iI (mkV (rw_ r a0 a1) k n)) (congrArg iI (if_pos (by omega)).symm) ?_
        have hmv := mkV_in (rw_ r a0 a1) k n
        refine lv_istore (lv' := [(6, .int (iI (mkV (rw_ r a0 a1) k n))), (0, .ref m0), (1, .int (iI ((r : Nat) : Int))), (2, .int (iI ((k : Nat) : Int))), (3, .int (iI (mkC (rw_ r a0 a1) k n))), (4, .int (iI (mkM (rw_ r a0 a1) k n))), (5, .int (iI ((n : Nat) : Int)))]) hx hb dX1_mostKept_72 hl (by decide) rfl (fun ls hl => ?_)
        refine lv_iload hx hb dX1_mostKept_74 (lv_at hl 0 rfl) ?_
        refine lv_iload hx hb dX1_mostKept_76 (lv_at hl 5 rfl) ?_
        refine ib_icmp_le (tgt := 86) hx hb dX1_mostKept_78 (by decide) ⟨by omega, by omega⟩ ⟨by omega, by omega⟩ (fun c_78 => ?_) (fun c_78 => ?_)
        · skip
          refine lv_iload_n hx hb dX1_mostKept_86 rfl (lv_at hl 4 rfl) ?_
          refine lv_istore_n (lv' := [(3, .int (iI (mkC (rw_ r a0 a1) k n))), (6, .int (iI (mkV (rw_ r a0 a1) k n))), (0, .ref m0), (1, .int (iI ((r : Nat) : Int))), (2, .int (iI ((k : Nat) : Int))), (4, .int (iI (mkM (rw_ r a0 a1) k n))), (5, .int (iI ((n : Nat) : Int)))]) hx hb dX1_mostKept_87 rfl hl (by decide) rfl (fun ls hl => ?_)
          refine lv_iload hx hb dX1_mostKept_88 (lv_at hl 1 rfl) ?_
          refine lv_iload hx hb dX1_mostKept_90 (lv_at hl 5 rfl) ?_
          refine ib_icmp_le (tgt := 100) hx hb dX1_mostKept_92 (by decide) ⟨by omega, by omega⟩ ⟨by omega, by omega⟩ (fun c_92 => ?_) (fun c_92 => ?_)
          · skip
            refine lv_iload hx hb dX1_mostKept_100 (lv_at hl 5 rfl) ?_
            refine lv_istore (lv' := [(4, .int (iI (mkM (rw_ r a0 a1) k n))), (3, .int (iI (mkC (rw_ r a0 a1) k n))), (6, .int (iI (mkV (rw_ r a0 a1) k n))), (0, .ref m0), (1, .int (iI ((r : Nat) : Int))), (2, .int (iI ((k : Nat) : Int))), (5, .int (iI ((n : Nat) : Int)))]) hx hb dX1_mostKept_102 hl (by decide) rfl (fun ls hl => ?_)
            refine lv_iinc (v := iI ((n + 1 : Nat) : Int)) (lv' := [(5, .int (iI ((n + 1 : Nat) : Int))), (4, .int (iI (mkM (rw_ r a0 a1) k n))), (3, .int (iI (mkC (rw_ r a0 a1) k n))), (6, .int (iI (mkV (rw_ r a0 a1) k n))), (0, .ref m0), (1, .int (iI ((r : Nat) : Int))), (2, .int (iI ((k : Nat) : Int)))]) hx hb dX1_mostKept_104 hl (k := 6) rfl (iI_inc (by omega)) (by decide) rfl (fun ls hl => ?_)
            refine lv_goto (tgt := 43) hx hb dX1_mostKept_107 (by decide) ?_
            have hl : lv_has ls 7 [(5, .int (iI ((n + 1 : Nat) : Int))), (4, .int (iI (mkM (rw_ r a0 a1) k n))), (3, .int (iI (mkC (rw_ r a0 a1) k (n + 1)))), (6, .int (iI (mkV (rw_ r a0 a1) k n))), (0, .ref m0), (1, .int (iI ((r : Nat) : Int))), (2, .int (iI ((k : Nat) : Int)))] := by
              have e9 : iI (mkC (rw_ r a0 a1) k n) = iI (mkC (rw_ r a0 a1) k (n + 1)) := congrArg iI (if_neg (Int.not_lt.mpr c_78)).symm
              rw [← e9]; exact hl
            have hl : lv_has ls 7 [(5, .int (iI ((n + 1 : Nat) : Int))), (4, .int (iI (mkM (rw_ r a0 a1) k (n + 1)))), (3, .int (iI (mkC (rw_ r a0 a1) k (n + 1)))), (6, .int (iI (mkV (rw_ r a0 a1) k n))), (0, .ref m0), (1, .int (iI ((r : Nat) : Int))), (2, .int (iI ((k : Nat) : Int)))] := by
              have e9 : iI (mkM (rw_ r a0 a1) k n) = iI (mkM (rw_ r a0 a1) k (n + 1)) := congrArg iI (if_neg (Int.not_lt.mpr c_92)).symm
              rw [← e9]; exact hl
            exact ih_43_1 (n + 1) (by omega)  _ (lv_sub hl [4, 5, 6, 2, 1, 0] rfl)
          · skip
            refine lv_iload hx hb dX1_mostKept_95 (lv_at hl 1 rfl) ?_
            refine lv_goto (tgt := 102) hx hb dX1_mostKept_97 (by decide) ?_
            refine lv_istore (lv' := [(4, .int (iI (mkV (rw_ r a0 a1) k n))), (3, .int (iI (mkC (rw_ r a0 a1) k n))), (6, .int (iI (mkV (rw_ r a0 a1) k n))), (0, .ref m0), (1, .int (iI ((r : Nat) : Int))), (2, .int (iI ((k : Nat) : Int))), (5, .int (iI ((n : Nat) : Int)))]) hx hb dX1_mostKept_102 hl (by decide) rfl (fun ls hl => ?_)
            refine lv_iinc (v := iI ((n + 1 : Nat) : Int)) (lv' := [(5, .int (iI ((n + 1 : Nat) : Int))), (4, .int (iI (mkV (rw_ r a0 a1) k n))), (3, .int (iI (mkC (rw_ r a0 a1) k n))), (6, .int (iI (mkV (rw_ r a0 a1) k n))), (0, .ref m0), (1, .int (iI ((r : Nat) : Int))), (2, .int (iI ((k : Nat) : Int)))]) hx hb dX1_mostKept_104 hl (k := 6) rfl (iI_inc (by omega)) (by decide) rfl (fun ls hl => ?_)
            refine lv_goto (tgt := 43) hx hb dX1_mostKept_107 (by decide) ?_
            have hl : lv_has ls 7 [(5, .int (iI ((n + 1 : Nat) : Int))), (4, .int (iI (mkV (rw_ r a0 a1) k n))), (3, .int (iI (mkC (rw_ r a0 a1) k (n + 1)))), (6, .int (iI (mkV (rw_ r a0 a1) k n))), (0, .ref m0), (1, .int (iI ((r : Nat) : Int))), (2, .int (iI ((k : Nat) : Int)))] := by
              have e9 : iI (mkC (rw_ r a0 a1) k n) = iI (mkC (rw_ r a0 a1) k (n + 1)) := congrArg iI (if_neg (Int.not_lt.mpr c_78)).symm
              rw [← e9]; exact hl
            have hl : lv_has ls 7 [(5, .int (iI ((n + 1 : Nat) : Int))), (4, .int (iI (mkM (rw_ r a0 a1) k (n + 1)))), (3, .int (iI (mkC (rw_ r a0 a1) k (n + 1)))), (6, .int (iI (mkV (rw_ r a0 a1) k n))), (0, .ref m0), (1, .int (iI ((r : Nat) : Int))), (2, .int (iI ((k : Nat) : Int)))] := by
              have e9 : iI (mkV (rw_ r a0 a1) k n) = iI (mkM (rw_ r a0 a1) k (n + 1)) := congrArg iI (if_pos c_92).symm
              rw [← e9]; exact hl
            exact ih_43_1 (n + 1) (by omega)  _ (lv_sub hl [4, 5, 6, 2, 1, 0] rfl)
        · skip
          refine lv_iload hx hb dX1_mostKept_81 (lv_at hl 6 rfl) ?_
          refine lv_goto (tgt := 87) hx hb dX1_mostKept_83 (by decide) ?_
          refine lv_istore_n (lv' := [(3, .int (iI ((n : Nat) : Int))), (6, .int (iI (mkV (rw_ r a0 a1) k n))), (0, .ref m0), (1, .int (iI ((r : Nat) : Int))), (2, .int (iI ((k : Nat) : Int))), (4, .int (iI (mkM (rw_ r a0 a1) k n))), (5, .int (iI ((n : Nat) : Int)))]) hx hb dX1_mostKept_87 rfl hl (by decide) rfl (fun ls hl => ?_)
          refine lv_iload hx hb dX1_mostKept_88 (lv_at hl 1 rfl) ?_
          refine lv_iload hx hb dX1_mostKept_90 (lv_at hl 5 rfl) ?_
          refine ib_icmp_le (tgt := 100) hx hb dX1_mostKept_92 (by decide) ⟨by omega, by omega⟩ ⟨by omega, by omega⟩ (fun c_92 => ?_) (fun c_92 => ?_)
          · skip
            refine lv_iload hx hb dX1_mostKept_100 (lv_at hl 5 rfl) ?_
            refine lv_istore (lv' := [(4, .int (iI (mkM (rw_ r a0 a1) k n))), (3, .int (iI ((n : Nat) : Int))), (6, .int (iI (mkV (rw_ r a0 a1) k n))), (0, .ref m0), (1, .int (iI ((r : Nat) : Int))), (2, .int (iI ((k : Nat) : Int))), (5, .int (iI ((n : Nat) : Int)))]) hx hb dX1_mostKept_102 hl (by decide) rfl (fun ls hl => ?_)
            refine lv_iinc (v := iI ((n + 1 : Nat) : Int)) (lv' := [(5, .int (iI ((n + 1 : Nat) : Int))), (4, .int (iI (mkM (rw_ r a0 a1) k n))), (3, .int (iI ((n : Nat) : Int))), (6, .int (iI (mkV (rw_ r a0 a1) k n))), (0, .ref m0), (1, .int (iI ((r : Nat) : Int))), (2, .int (iI ((k : Nat) : Int)))]) hx hb dX1_mostKept_104 hl (k := 6) rfl (iI_inc (by omega)) (by decide) rfl (fun ls hl => ?_)
            refine lv_goto (tgt := 43) hx hb dX1_mostKept_107 (by decide) ?_
            have hl : lv_has ls 7 [(5, .int (iI ((n + 1 : Nat) : Int))), (4, .int (iI (mkM (rw_ r a0 a1) k n))), (3, .int (iI (mkC (rw_ r a0 a1) k (n + 1)))), (6, .int (iI (mkV (rw_ r a0 a1) k n))), (0, .ref m0), (1, .int (iI ((r : Nat) : Int))), (2, .int (iI ((k : Nat) : Int)))] := by
              have e9 : iI ((n : Nat) : Int) = iI (mkC (rw_ r a0 a1) k (n + 1)) := congrArg iI (if_pos c_78).symm
              rw [← e9]; exact hl
            have hl : lv_has ls 7 [(5, .int (iI ((n + 1 : Nat) : Int))), (4, .int (iI (mkM (rw_ r a0 a1) k (n + 1)))), (3, .int (iI (mkC (rw_ r a0 a1) k (n + 1)))), (6, .int (iI (mkV (rw_ r a0 a1) k n))), (0, .ref m0), (1, .int (iI ((r : Nat) : Int))), (2, .int (iI ((k : Nat) : Int)))] := by
              have e9 : iI (mkM (rw_ r a0 a1) k n) = iI (mkM (rw_ r a0 a1) k (n + 1)) := congrArg iI (if_neg (Int.not_lt.mpr c_92)).symm
              rw [← e9]; exact hl
            exact ih_43_1 (n + 1) (by omega)  _ (lv_sub hl [4, 5, 6, 2, 1, 0] rfl)
          · skip
            refine lv_iload hx hb dX1_mostKept_95 (lv_at hl 1 rfl) ?_
            refine lv_goto (tgt := 102) hx hb dX1_mostKept_97 (by decide) ?_
            refine lv_istore (lv' := [(4, .int (iI (mkV (rw_ r a0 a1) k n))), (3, .int (iI ((n : Nat) : Int))), (6, .int (iI (mkV (rw_ r a0 a1) k n))), (0, .ref m0), (1, .int (iI ((r : Nat) : Int))), (2, .int (iI ((k : Nat) : Int))), (5, .int (iI ((n : Nat) : Int)))]) hx hb dX1_mostKept_102 hl (by decide) rfl (fun ls hl => ?_)
            refine lv_iinc (v := iI ((n + 1 : Nat) : Int)) (lv' := [(5, .int (iI ((n + 1 : Nat) : Int))), (4, .int (iI (mkV (rw_ r a0 a1) k n))), (3, .int (iI ((n : Nat) : Int))), (6, .int (iI (mkV (rw_ r a0 a1) k n))), (0, .ref m0), (1, .int (iI ((r : Nat) : Int))), (2, .int (iI ((k : Nat) : Int)))]) hx hb dX1_mostKept_104 hl (k := 6) rfl (iI_inc (by omega)) (by decide) rfl (fun ls hl => ?_)
            refine lv_goto (tgt := 43) hx hb dX1_mostKept_107 (by decide) ?_
            have hl : lv_has ls 7 [(5, .int (iI ((n + 1 : Nat) : Int))), (4, .int (iI (mkV (rw_ r a0 a1) k n))), (3, .int (iI (mkC (rw_ r a0 a1) k (n + 1)))), (6, .int (iI (mkV (rw_ r a0 a1) k n))), (0, .ref m0), (1, .int (iI ((r : Nat) : Int))), (2, .int (iI ((k : Nat) : Int)))] := by
              have e9 : iI ((n : Nat) : Int) = iI (mkC (rw_ r a0 a1) k (n + 1)) := congrArg iI (if_pos c_78).symm
              rw [← e9]; exact hl
            have hl : lv_has ls 7 [(5, .int (iI ((n + 1 : Nat) : Int))), (4, .int (iI (mkM (rw_ r a0 a1) k (n + 1)))), (3, .int (iI (mkC (rw_ r a0 a1) k (n + 1)))), (6, .int (iI (mkV (rw_ r a0 a1) k n))), (0, .ref m0), (1, .int (iI ((r : Nat) : Int))), (2, .int (iI ((k : Nat) : Int)))] := by
              have e9 : iI (mkV (rw_ r a0 a1) k n) = iI (mkM (rw_ r a0 a1) k (n + 1)) := congrArg iI (if_pos c_92).symm
              rw [← e9]; exact hl
            exact ih_43_1 (n + 1) (by omega)  _ (lv_sub hl [4, 5, 6, 2, 1, 0] rfl)
  exact lp_43_1 48 0 (by omega)  _ (lv_sub hl [3, 4, 5, 2, 1, 0] rfl)

set_option maxHeartbeats 4000000 in
set_option maxRecDepth 100000 in
theorem mX1_mostKept_x1 (l : Launch) (dC : Nat → ClassId) (dI : Nat → Nat → Nat) (cI : ClassId) (m0 t0 k0 p0 : Nat) (a0 a1 K q : Nat → Nat) (th : Int32) (w : Nat) (h0 : lt12 a0) (h1 : lt12 a1) (hw : w ≤ 12) (hq : ∀ i, i < w → q i < 12) (z0 z1 : Int) (hz0 : inI z0) (hz1 : inI z1) (hbad : ¬ (z0 = 0 ∨ z0 = 1)) : wr l yX1_mostKept wsX1_mostKept { frames := 1, cells := 0, slots := 0, locals := 22 } [.ref m0, .int (iI z0), .int (iI z1)] (dC, dI) [(m0, .inr (1, [.int th, .ref t0, .ref k0, .ref p0, .int (iI ((w : Nat) : Int))])), (t0, .inl (cI, 24, .inl (fun j => iI ((tb a0 a1 j : Nat) : Int)))), (k0, .inl (cI, 12, .inl (fun j => iI ((K j : Nat) : Int)))), (p0, .inl (cI, 12, .inl (fun j => iI ((q j : Nat) : Int))))] [(cI, .int)] [(m0, .inr (1, [.int (iI 1), .ref t0, .ref k0, .ref p0, .int (iI ((w : Nat) : Int))])), (t0, .inl (cI, 24, .inl (fun j => iI ((tb a0 a1 j : Nat) : Int)))), (k0, .inl (cI, 12, .inl (fun j => iI ((K j : Nat) : Int)))), (p0, .inl (cI, 12, .inl (fun j => iI ((q j : Nat) : Int))))] (some (.int (iI 0))) := by
  refine Met.ofW (cc := cX1_mostKept) (maxL := 7) (ret := (some .int)) (by decide) rfl ?_
  intro P0 e s m args below meth c s₁ B hml hv
  obtain ⟨rfl, hP, hK, hD0⟩ := hv
  have hx := B.exec
  have hb := B.bytes
  have hr := B.returns
  have hts := atoms_spec (ws := wsX1_mostKept) B.pre
  have hown : s.vm.findClass RX1 = some m.cls := findClass_of_methodNamed B.named
  have hlocks := B.notSynchronized
  have hinX : ∀ w ∈ u_ws RX1 TX1 5, w ∈ wsX1_mostKept := by decide +kernel
  have hD : va_D (inW [(m0, .inr (1, [.int th, .ref t0, .ref k0, .ref p0, .int (iI ((w : Nat) : Int))])), (t0, .inl (cI, 24, .inl (fun j => iI ((tb a0 a1 j : Nat) : Int)))), (k0, .inl (cI, 12, .inl (fun j => iI ((K j : Nat) : Int)))), (p0, .inl (cI, 12, .inl (fun j => iI ((q j : Nat) : Int))))]) [(m0, .inr (1, [.int th, .ref t0, .ref k0, .ref p0, .int (iI ((w : Nat) : Int))])), (t0, .inl (cI, 24, .inl (fun j => iI ((tb a0 a1 j : Nat) : Int)))), (k0, .inl (cI, 12, .inl (fun j => iI ((K j : Nat) : Int)))), (p0, .inl (cI, 12, .inl (fun j => iI ((q j : Nat) : Int))))] := va_D_in hD0
  have hS : va_S (inW [(m0, .inr (1, [.int th, .ref t0, .ref k0, .ref p0, .int (iI ((w : Nat) : Int))])), (t0, .inl (cI, 24, .inl (fun j => iI ((tb a0 a1 j : Nat) : Int)))), (k0, .inl (cI, 12, .inl (fun j => iI ((K j : Nat) : Int)))), (p0, .inl (cI, 12, .inl (fun j => iI ((q j : Nat) : Int))))]) s.heap s.heap [] := va_S.rf
  have hl := lv_entry ([.ref m0, .int (iI z0), .int (iI z1)]) (n := 7) (Nat.le_of_ble_eq_true rfl)
  rw [lg_entry_eq]
  generalize (lg_sl ([.ref m0, .int (iI z0), .int (iI z1)]) ++ List.replicate (7 - (lg_sl ([.ref m0, .int (iI z0), .int (iI z1)])).length) Slot.unset).toArray = ls at hl ⊢
  have hl : lv_has ls 7 [(0, .ref m0), (1, .int (iI z0)), (2, .int (iI z1))] := hl
  have hza0 := hz0.1
  have hza1 := hz1.1
  have hzb0 := hz0.2
  have hzb1 := hz1.2
  refine lv_aload_n hx hb dX1_mostKept_0 rfl (lv_at hl 0 rfl) ?_
  refine lv_iload_n hx hb dX1_mostKept_1 rfl (lv_at hl 1 rfl) ?_
  refine rd_call (va_runS (As := [.int (iI z0)]) (rest := [.ref m0]) ⟨hx, hb, hml, hown, hts⟩ (mX1_isRow l z0 ⟨by omega, by omega⟩) (va_cwS 1 hts gX1_mostKept_X1_isRow rfl rfl rfl hdX1_isRow ⟨Nat.le_of_ble_eq_true rfl, Nat.le_of_ble_eq_true rfl⟩) tt_pre rfl rfl hl.1 rfl (lv_room (Nat.le_of_ble_eq_true rfl)) dX1_mostKept_2 ⟨Nat.le_of_ble_eq_true rfl, Nat.le_of_ble_eq_true rfl⟩) ?_
  refine bb_ne (tgt := 12) hx hb dX1_mostKept_5 (by decide) (fun c_5 => ?_) (fun c_5 => ?_)
  · skip
    refine lv_iload_n hx hb dX1_mostKept_12 rfl (lv_at hl 2 rfl) ?_
    refine ib_const hx hb dX1_mostKept_13 ?_
    refine ib_bi hx hb dX1_mostKept_14 (by decide) ?_
    refine rd_call (va_runS (As := [.int (iI z1), .int (iI 2), .int (iI 11)]) (rest := [.ref m0]) ⟨hx, hb, hml, hown, hts⟩ (mX1_in l z1 2 11 ⟨by omega, by omega⟩ ⟨by omega, by omega⟩ ⟨by omega, by omega⟩) (va_cwS 3 hts gX1_mostKept_X1_in rfl rfl rfl hdX1_in ⟨Nat.le_of_ble_eq_true rfl, Nat.le_of_ble_eq_true rfl⟩) tt_pre rfl rfl hl.1 rfl (lv_room (Nat.le_of_ble_eq_true rfl)) dX1_mostKept_16 ⟨Nat.le_of_ble_eq_true rfl, Nat.le_of_ble_eq_true rfl⟩) ?_
    refine bb_eq (tgt := 26) hx hb dX1_mostKept_19 (by decide) (fun c_19 => ?_) (fun c_19 => ?_)
    · skip
      refine ib_const hx hb dX1_mostKept_26 ?_
      exfalso; omega
    · skip
      refine ib_const hx hb dX1_mostKept_22 ?_
      refine lv_goto (tgt := 27) hx hb dX1_mostKept_23 (by decide) ?_
      exfalso; omega
  · skip
    refine ib_const hx hb dX1_mostKept_8 ?_
    refine lv_goto (tgt := 27) hx hb dX1_mostKept_9 (by decide) ?_
    refine wr_call (va_runV (As := [.int (iI 1)]) (rest := []) ⟨hx, hb, hml, hown, hts⟩ (mX1_goesWell l dC dI cI m0 t0 k0 p0 a0 a1 K q th w h0 h1 hw hq 1 ⟨by omega, by omega⟩) (cwV 1 hts gX1_mostKept_X1_goesWell rfl rfl rfl hvX1_goesWell ⟨Nat.le_of_ble_eq_true rfl, Nat.le_of_ble_eq_true rfl⟩) (bD_pre (ci := 1) (q0 := 0) hK hP hD rfl rfl rfl) rfl rfl hl.1 rfl (lv_room (Nat.le_of_ble_eq_true rfl)) dX1_mostKept_27 ⟨Nat.le_of_ble_eq_true rfl, Nat.le_of_ble_eq_true rfl⟩) hS (fun q9 h => inW_same (w := [(m0, .inr (1, [.int th, .ref t0, .ref k0, .ref p0, .int (iI ((w : Nat) : Int))])), (t0, .inl (cI, 24, .inl (fun j => iI ((tb a0 a1 j : Nat) : Int)))), (k0, .inl (cI, 12, .inl (fun j => iI ((K j : Nat) : Int)))), (p0, .inl (cI, 12, .inl (fun j => iI ((q j : Nat) : Int))))]) (w' := [(m0, .inr (1, [.int th, .ref t0, .ref k0, .ref p0, .int (iI ((w : Nat) : Int))])), (t0, .inl (cI, 24, .inl (fun j => iI ((tb a0 a1 j : Nat) : Int)))), (k0, .inl (cI, 12, .inl (fun j => iI ((K j : Nat) : Int)))), (p0, .inl (cI, 12, .inl (fun j => iI ((q j : Nat) : Int))))]) rfl h) (fun H locs hP hz hk hS => ?_)
    have hD : va_D (inW [(m0, .inr (1, [.int th, .ref t0, .ref k0, .ref p0, .int (iI ((w : Nat) : Int))])), (t0, .inl (cI, 24, .inl (fun j => iI ((tb a0 a1 j : Nat) : Int)))), (k0, .inl (cI, 12, .inl (fun j => iI ((K j : Nat) : Int)))), (p0, .inl (cI, 12, .inl (fun j => iI ((q j : Nat) : Int))))]) [(m0, .inr (1, [.int (iI 1), .ref t0, .ref k0, .ref p0, .int (iI ((w : Nat) : Int))])), (t0, .inl (cI, 24, .inl (fun j => iI ((tb a0 a1 j : Nat) : Int)))), (k0, .inl (cI, 12, .inl (fun j => iI ((K j : Nat) : Int)))), (p0, .inl (cI, 12, .inl (fun j => iI ((q j : Nat) : Int))))] := va_D_same (w := [(m0, .inr (1, [.int th, .ref t0, .ref k0, .ref p0, .int (iI ((w : Nat) : Int))])), (t0, .inl (cI, 24, .inl (fun j => iI ((tb a0 a1 j : Nat) : Int)))), (k0, .inl (cI, 12, .inl (fun j => iI ((K j : Nat) : Int)))), (p0, .inl (cI, 12, .inl (fun j => iI ((q j : Nat) : Int))))]) rfl hD
    refine st_i (y := iI 0) (congrArg iI (bI_f (by decide))) ?_
    refine ib_if_ne (tgt := 35) hx hb dX1_mostKept_30 (by decide) ⟨by omega, by omega⟩ (fun c_30 => absurd c_30 (by decide)) (fun c_30 => ?_)
    refine ib_const hx hb dX1_mostKept_33 ?_
    exact W.iret hx hb hr (fun t ht _ => ⟨rfl, by rw [ht]; exact hP, hS.F ht⟩) hS.2.2 dX1_mostKept_34

set_option maxHeartbeats 4000000 in
set_option maxRecDepth 100000 in
theorem mX1_mostKept_x2 (l : Launch) (dC : Nat → ClassId) (dI : Nat → Nat → Nat) (cI : ClassId) (m0 t0 k0 p0 : Nat) (a0 a1 K q : Nat → Nat) (th : Int32) (w : Nat) (h0 : lt12 a0) (h1 : lt12 a1) (hw : w ≤ 12) (hq : ∀ i, i < w → q i < 12) (z0 z1 : Int) (hz0 : inI z0) (hz1 : inI z1) (hbad : (z0 = 0 ∨ z0 = 1) ∧ ¬ (2 ≤ z1 ∧ z1 ≤ 11)) : wr l yX1_mostKept wsX1_mostKept { frames := 1, cells := 0, slots := 0, locals := 22 } [.ref m0, .int (iI z0), .int (iI z1)] (dC, dI) [(m0, .inr (1, [.int th, .ref t0, .ref k0, .ref p0, .int (iI ((w : Nat) : Int))])), (t0, .inl (cI, 24, .inl (fun j => iI ((tb a0 a1 j : Nat) : Int)))), (k0, .inl (cI, 12, .inl (fun j => iI ((K j : Nat) : Int)))), (p0, .inl (cI, 12, .inl (fun j => iI ((q j : Nat) : Int))))] [(cI, .int)] [(m0, .inr (1, [.int (iI 2), .ref t0, .ref k0, .ref p0, .int (iI ((w : Nat) : Int))])), (t0, .inl (cI, 24, .inl (fun j => iI ((tb a0 a1 j : Nat) : Int)))), (k0, .inl (cI, 12, .inl (fun j => iI ((K j : Nat) : Int)))), (p0, .inl (cI, 12, .inl (fun j => iI ((q j : Nat) : Int))))] (some (.int (iI 0))) := by
  refine Met.ofW (cc := cX1_mostKept) (maxL := 7) (ret := (some .int)) (by decide) rfl ?_
  intro P0 e s m args below meth c s₁ B hml hv
  obtain ⟨rfl, hP, hK, hD0⟩ := hv
  have hx := B.exec
  have hb := B.bytes
  have hr := B.returns
  have hts := atoms_spec (ws := wsX1_mostKept) B.pre
  have hown : s.vm.findClass RX1 = some m.cls := findClass_of_methodNamed B.named
  have hlocks := B.notSynchronized
  have hinX : ∀ w ∈ u_ws RX1 TX1 5, w ∈ wsX1_mostKept := by decide +kernel
  have hD : va_D (inW [(m0, .inr (1, [.int th, .ref t0, .ref k0, .ref p0, .int (iI ((w : Nat) : Int))])), (t0, .inl (cI, 24, .inl (fun j => iI ((tb a0 a1 j : Nat) : Int)))), (k0, .inl (cI, 12, .inl (fun j => iI ((K j : Nat) : Int)))), (p0, .inl (cI, 12, .inl (fun j => iI ((q j : Nat) : Int))))]) [(m0, .inr (1, [.int th, .ref t0, .ref k0, .ref p0, .int (iI ((w : Nat) : Int))])), (t0, .inl (cI, 24, .inl (fun j => iI ((tb a0 a1 j : Nat) : Int)))), (k0, .inl (cI, 12, .inl (fun j => iI ((K j : Nat) : Int)))), (p0, .inl (cI, 12, .inl (fun j => iI ((q j : Nat) : Int))))] := va_D_in hD0
  have hS : va_S (inW [(m0, .inr (1, [.int th, .ref t0, .ref k0, .ref p0, .int (iI ((w : Nat) : Int))])), (t0, .inl (cI, 24, .inl (fun j => iI ((tb a0 a1 j : Nat) : Int)))), (k0, .inl (cI, 12, .inl (fun j => iI ((K j : Nat) : Int)))), (p0, .inl (cI, 12, .inl (fun j => iI ((q j : Nat) : Int))))]) s.heap s.heap [] := va_S.rf
  have hl := lv_entry ([.ref m0, .int (iI z0), .int (iI z1)]) (n := 7) (Nat.le_of_ble_eq_true rfl)
  rw [lg_entry_eq]
  generalize (lg_sl ([.ref m0, .int (iI z0), .int (iI z1)]) ++ List.replicate (7 - (lg_sl ([.ref m0, .int (iI z0), .int (iI z1)])).length) Slot.unset).toArray = ls at hl ⊢
  have hl : lv_has ls 7 [(0, .ref m0), (1, .int (iI z0)), (2, .int (iI z1))] := hl
  have hza0 := hz0.1
  have hza1 := hz1.1
  have hzb0 := hz0.2
  have hzb1 := hz1.2
  refine lv_aload_n hx hb dX1_mostKept_0 rfl (lv_at hl 0 rfl) ?_
  refine lv_iload_n hx hb dX1_mostKept_1 rfl (lv_at hl 1 rfl) ?_
  refine rd_call (va_runS (As := [.int (iI z0)]) (rest := [.ref m0]) ⟨hx, hb, hml, hown, hts⟩ (mX1_isRow l z0 ⟨by omega, by omega⟩) (va_cwS 1 hts gX1_mostKept_X1_isRow rfl rfl rfl hdX1_isRow ⟨Nat.le_of_ble_eq_true rfl, Nat.le_of_ble_eq_true rfl⟩) tt_pre rfl rfl hl.1 rfl (lv_room (Nat.le_of_ble_eq_true rfl)) dX1_mostKept_2 ⟨Nat.le_of_ble_eq_true rfl, Nat.le_of_ble_eq_true rfl⟩) ?_
  refine bb_ne (tgt := 12) hx hb dX1_mostKept_5 (by decide) (fun c_5 => ?_) (fun c_5 => ?_)
  · skip
    refine lv_iload_n hx hb dX1_mostKept_12 rfl (lv_at hl 2 rfl) ?_
    refine ib_const hx hb dX1_mostKept_13 ?_
    refine ib_bi hx hb dX1_mostKept_14 (by decide) ?_
    refine rd_call (va_runS (As := [.int (iI z1), .int (iI 2), .int (iI 11)]) (rest := [.ref m0]) ⟨hx, hb, hml, hown, hts⟩ (mX1_in l z1 2 11 ⟨by omega, by omega⟩ ⟨by omega, by omega⟩ ⟨by omega, by omega⟩) (va_cwS 3 hts gX1_mostKept_X1_in rfl rfl rfl hdX1_in ⟨Nat.le_of_ble_eq_true rfl, Nat.le_of_ble_eq_true rfl⟩) tt_pre rfl rfl hl.1 rfl (lv_room (Nat.le_of_ble_eq_true rfl)) dX1_mostKept_16 ⟨Nat.le_of_ble_eq_true rfl, Nat.le_of_ble_eq_true rfl⟩) ?_
    refine bb_eq (tgt := 26) hx hb dX1_mostKept_19 (by decide) (fun c_19 => ?_) (fun c_19 => ?_)
    · skip
      refine ib_const hx hb dX1_mostKept_26 ?_
      refine wr_call (va_runV (As := [.int (iI 2)]) (rest := []) ⟨hx, hb, hml, hown, hts⟩ (mX1_goesWell l dC dI cI m0 t0 k0 p0 a0 a1 K q th w h0 h1 hw hq 2 ⟨by omega, by omega⟩) (cwV 1 hts gX1_mostKept_X1_goesWell rfl rfl rfl hvX1_goesWell ⟨Nat.le_of_ble_eq_true rfl, Nat.le_of_ble_eq_true rfl⟩) (bD_pre (ci := 1) (q0 := 0) hK hP hD rfl rfl rfl) rfl rfl hl.1 rfl (lv_room (Nat.le_of_ble_eq_true rfl)) dX1_mostKept_27 ⟨Nat.le_of_ble_eq_true rfl, Nat.le_of_ble_eq_true rfl⟩) hS (fun q9 h => inW_same (w := [(m0, .inr (1, [.int th, .ref t0, .ref k0, .ref p0, .int (iI ((w : Nat) : Int))])), (t0, .inl (cI, 24, .inl (fun j => iI ((tb a0 a1 j : Nat) : Int)))), (k0, .inl (cI, 12, .inl (fun j => iI ((K j : Nat) : Int)))), (p0, .inl (cI, 12, .inl (fun j => iI ((q j : Nat) : Int))))]) (w' := [(m0, .inr (1, [.int th, .ref t0, .ref k0, .ref p0, .int (iI ((w : Nat) : Int))])), (t0, .inl (cI, 24, .inl (fun j => iI ((tb a0 a1 j : Nat) : Int)))), (k0, .inl (cI, 12, .inl (fun j => iI ((K j : Nat) : Int)))), (p0, .inl (cI, 12, .inl (fun j => iI ((q j : Nat) : Int))))]) rfl h) (fun H locs hP hz hk hS => ?_)
      have hD : va_D (inW [(m0, .inr (1, [.int th, .ref t0, .ref k0, .ref p0, .int (iI ((w : Nat) : Int))])), (t0, .inl (cI, 24, .inl (fun j => iI ((tb a0 a1 j : Nat) : Int)))), (k0, .inl (cI, 12, .inl (fun j => iI ((K j : Nat) : Int)))), (p0, .inl (cI, 12, .inl (fun j => iI ((q j : Nat) : Int))))]) [(m0, .inr (1, [.int (iI 2), .ref t0, .ref k0, .ref p0, .int (iI ((w : Nat) : Int))])), (t0, .inl (cI, 24, .inl (fun j => iI ((tb a0 a1 j : Nat) : Int)))), (k0, .inl (cI, 12, .inl (fun j => iI ((K j : Nat) : Int)))), (p0, .inl (cI, 12, .inl (fun j => iI ((q j : Nat) : Int))))] := va_D_same (w := [(m0, .inr (1, [.int th, .ref t0, .ref k0, .ref p0, .int (iI ((w : Nat) : Int))])), (t0, .inl (cI, 24, .inl (fun j => iI ((tb a0 a1 j : Nat) : Int)))), (k0, .inl (cI, 12, .inl (fun j => iI ((K j : Nat) : Int)))), (p0, .inl (cI, 12, .inl (fun j => iI ((q j : Nat) : Int))))]) rfl hD
      refine st_i (y := iI 0) (congrArg iI (bI_f (by decide))) ?_
      refine ib_if_ne (tgt := 35) hx hb dX1_mostKept_30 (by decide) ⟨by omega, by omega⟩ (fun c_30 => absurd c_30 (by decide)) (fun c_30 => ?_)
      refine ib_const hx hb dX1_mostKept_33 ?_
      exact W.iret hx hb hr (fun t ht _ => ⟨rfl, by rw [ht]; exact hP, hS.F ht⟩) hS.2.2 dX1_mostKept_34
    · skip
      refine ib_const hx hb dX1_mostKept_22 ?_
      refine lv_goto (tgt := 27) hx hb dX1_mostKept_23 (by decide) ?_
      exfalso; omega
  · skip
    refine ib_const hx hb dX1_mostKept_8 ?_
    refine lv_goto (tgt := 27) hx hb dX1_mostKept_9 (by decide) ?_
    exfalso; omega

set_option maxHeartbeats 4000000 in
set_option maxRecDepth 100000 in
theorem mX1_cuts_ok (l : Launch) (dC : Nat → ClassId) (dI : Nat → Nat → Nat) (cI : ClassId) (m0 t0 k0 p0 : Nat) (a0 a1 K q : Nat → Nat) (th : Int32) (w : Nat) (h0 : lt12 a0) (h1 : lt12 a1) (hw : w ≤ 12) (hq : ∀ i, i < w → q i < 12) (c1 c2 : Nat) (hc1 : c1 < 48) (hc2 : c2 < 48) : wr l yX1_cuts wsX1_cuts { frames := 3, cells := 0, slots := 0, locals := 74 } [.ref m0, .int (iI ((c1 : Nat) : Int)), .int (iI ((c2 : Nat) : Int))] (dC, dI) [(m0, .inr (1, [.int th, .ref t0, .ref k0, .ref p0, .int (iI ((w : Nat) : Int))])), (t0, .inl (cI, 24, .inl (fun j => iI ((tb a0 a1 j : Nat) : Int)))), (k0, .inl (cI, 12, .inl (fun j => iI ((K j : Nat) : Int)))), (p0, .inl (cI, 12, .inl (fun j => iI ((q j : Nat) : Int))))] [(cI, .int)] [(m0, .inr (1, [.int (iI 0), .ref t0, .ref k0, .ref p0, .int (iI ((w : Nat) : Int))])), (t0, .inl (cI, 24, .inl (fun j => iI ((tb a0 a1 j : Nat) : Int)))), (k0, .inl (cI, 12, .inl (fun j => iI ((K j : Nat) : Int)))), (p0, .inl (cI, 12, .inl (fun j => iI ((q j : Nat) : Int))))] (some (.int (iI ((ctN (fm (rw_ 0 a0 a1) c1) (fm (rw_ 1 a0 a1) c2) 13 : Nat) : Int)))) := by
  refine Met.ofW (cc := cX1_cuts) (maxL := 6) (ret := (some .int)) (by decide) rfl ?_
  intro P0 e s m args below meth c s₁ B hml hv
  obtain ⟨rfl, hP, hK, hD0⟩ := hv
  have hx := B.exec
  have hb := B.bytes
  have hr := B.returns
  have hts := atoms_spec (ws := wsX1_cuts) B.pre
  have hown : s.vm.findClass RX1 = some m.cls := findClass_of_methodNamed B.named
  have hlocks := B.notSynchronized
  have hinX : ∀ w ∈ u_ws RX1 TX1 5, w ∈ wsX1_cuts := by decide +kernel
  have hD : va_D (inW [(m0, .inr (1, [.int th, .ref t0, .ref k0, .ref p0, .int (iI ((w : Nat) : Int))])), (t0, .inl (cI, 24, .inl (fun j => iI ((tb a0 a1 j : Nat) : Int)))), (k0, .inl (cI, 12, .inl (fun j => iI ((K j : Nat) : Int)))), (p0, .inl (cI, 12, .inl (fun j => iI ((q j : Nat) : Int))))]) [(m0, .inr (1, [.int th, .ref t0, .ref k0, .ref p0, .int (iI ((w : Nat) : Int))])), (t0, .inl (cI, 24, .inl (fun j => iI ((tb a0 a1 j : Nat) : Int)))), (k0, .inl (cI, 12, .inl (fun j => iI ((K j : Nat) : Int)))), (p0, .inl (cI, 12, .inl (fun j => iI ((q j : Nat) : Int))))] := va_D_in hD0
  have hS : va_S (inW [(m0, .inr (1, [.int th, .ref t0, .ref k0, .ref p0, .int (iI ((w : Nat) : Int))])), (t0, .inl (cI, 24, .inl (fun j => iI ((tb a0 a1 j : Nat) : Int)))), (k0, .inl (cI, 12, .inl (fun j => iI ((K j : Nat) : Int)))), (p0, .inl (cI, 12, .inl (fun j => iI ((q j : Nat) : Int))))]) s.heap s.heap [] := va_S.rf
  have hl := lv_entry ([.ref m0, .int (iI ((c1 : Nat) : Int)), .int (iI ((c2 : Nat) : Int))]) (n := 6) (Nat.le_of_ble_eq_true rfl)
  rw [lg_entry_eq]
  generalize (lg_sl ([.ref m0, .int (iI ((c1 : Nat) : Int)), .int (iI ((c2 : Nat) : Int))]) ++ List.replicate (6 - (lg_sl ([.ref m0, .int (iI ((c1 : Nat) : Int)), .int (iI ((c2 : Nat) : Int))])).length) Slot.unset).toArray = ls at hl ⊢
  have hl : lv_has ls 6 [(0, .ref m0), (1, .int (iI ((c1 : Nat) : Int))), (2, .int (iI ((c2 : Nat) : Int)))] := hl
  refine lv_aload_n hx hb dX1_cuts_0 rfl (lv_at hl 0 rfl) ?_
  refine lv_iload_n hx hb dX1_cuts_1 rfl (lv_at hl 1 rfl) ?_
  refine rd_call (va_runS (As := [.int (iI ((c1 : Nat) : Int))]) (rest := [.ref m0]) ⟨hx, hb, hml, hown, hts⟩ (mX1_isCode l ((c1 : Nat) : Int) ⟨by omega, by omega⟩) (va_cwS 1 hts gX1_cuts_X1_isCode rfl rfl rfl hdX1_isCode ⟨Nat.le_of_ble_eq_true rfl, Nat.le_of_ble_eq_true rfl⟩) tt_pre rfl rfl hl.1 rfl (lv_room (Nat.le_of_ble_eq_true rfl)) dX1_cuts_2 ⟨Nat.le_of_ble_eq_true rfl, Nat.le_of_ble_eq_true rfl⟩) ?_
  refine bb_eq (tgt := 19) hx hb dX1_cuts_5 (by decide) (fun c_5 => absurd c_5 (by omega)) (fun c_5 => ?_)
  refine lv_iload_n hx hb dX1_cuts_8 rfl (lv_at hl 2 rfl) ?_
  refine rd_call (va_runS (As := [.int (iI ((c2 : Nat) : Int))]) (rest := [.ref m0]) ⟨hx, hb, hml, hown, hts⟩ (mX1_isCode l ((c2 : Nat) : Int) ⟨by omega, by omega⟩) (va_cwS 1 hts gX1_cuts_X1_isCode rfl rfl rfl hdX1_isCode ⟨Nat.le_of_ble_eq_true rfl, Nat.le_of_ble_eq_true rfl⟩) tt_pre rfl rfl hl.1 rfl (lv_room (Nat.le_of_ble_eq_true rfl)) dX1_cuts_9 ⟨Nat.le_of_ble_eq_true rfl, Nat.le_of_ble_eq_true rfl⟩) ?_
  refine bb_eq (tgt := 19) hx hb dX1_cuts_12 (by decide) (fun c_12 => absurd c_12 (by omega)) (fun c_12 => ?_)
  refine ib_const hx hb dX1_cuts_15 ?_
  refine lv_goto (tgt := 20) hx hb dX1_cuts_16 (by decide) ?_
  refine wr_call (va_runV (As := [.int (iI 0)]) (rest := []) ⟨hx, hb, hml, hown, hts⟩ (mX1_goesWell l dC dI cI m0 t0 k0 p0 a0 a1 K q th w h0 h1 hw hq 0 ⟨by omega, by omega⟩) (cwV 1 hts gX1_cuts_X1_goesWell rfl rfl rfl hvX1_goesWell ⟨Nat.le_of_ble_eq_true rfl, Nat.le_of_ble_eq_true rfl⟩) (bD_pre (ci := 1) (q0 := 0) hK hP hD rfl rfl rfl) rfl rfl hl.1 rfl (lv_room (Nat.le_of_ble_eq_true rfl)) dX1_cuts_20 ⟨Nat.le_of_ble_eq_true rfl, Nat.le_of_ble_eq_true rfl⟩) hS (fun q9 h => inW_same (w := [(m0, .inr (1, [.int th, .ref t0, .ref k0, .ref p0, .int (iI ((w : Nat) : Int))])), (t0, .inl (cI, 24, .inl (fun j => iI ((tb a0 a1 j : Nat) : Int)))), (k0, .inl (cI, 12, .inl (fun j => iI ((K j : Nat) : Int)))), (p0, .inl (cI, 12, .inl (fun j => iI ((q j : Nat) : Int))))]) (w' := [(m0, .inr (1, [.int th, .ref t0, .ref k0, .ref p0, .int (iI ((w : Nat) : Int))])), (t0, .inl (cI, 24, .inl (fun j => iI ((tb a0 a1 j : Nat) : Int)))), (k0, .inl (cI, 12, .inl (fun j => iI ((K j : Nat) : Int)))), (p0, .inl (cI, 12, .inl (fun j => iI ((q j : Nat) : Int))))]) rfl h) (fun H locs hP hz hk hS => ?_)
  have hD : va_D (inW [(m0, .inr (1, [.int th, .ref t0, .ref k0, .ref p0, .int (iI ((w : Nat) : Int))])), (t0, .inl (cI, 24, .inl (fun j => iI ((tb a0 a1 j : Nat) : Int)))), (k0, .inl (cI, 12, .inl (fun j => iI ((K j : Nat) : Int)))), (p0, .inl (cI, 12, .inl (fun j => iI ((q j : Nat) : Int))))]) [(m0, .inr (1, [.int (iI 0), .ref t0, .ref k0, .ref p0, .int (iI ((w : Nat) : Int))])), (t0, .inl (cI, 24, .inl (fun j => iI ((tb a0 a1 j : Nat) : Int)))), (k0, .inl (cI, 12, .inl (fun j => iI ((K j : Nat) : Int)))), (p0, .inl (cI, 12, .inl (fun j => iI ((q j : Nat) : Int))))] := va_D_same (w := [(m0, .inr (1, [.int th, .ref t0, .ref k0, .ref p0, .int (iI ((w : Nat) : Int))])), (t0, .inl (cI, 24, .inl (fun j => iI ((tb a0 a1 j : Nat) : Int)))), (k0, .inl (cI, 12, .inl (fun j => iI ((K j : Nat) : Int)))), (p0, .inl (cI, 12, .inl (fun j => iI ((q j : Nat) : Int))))]) rfl hD
  refine st_i (y := iI 1) (congrArg iI (bI_t (by decide))) ?_
  refine ib_if_ne (tgt := 28) hx hb dX1_cuts_23 (by decide) ⟨by omega, by omega⟩ (fun c_23 => ?_) (fun c_23 => absurd c_23 (by decide))
  refine ib_const hx hb dX1_cuts_28 ?_
  refine lv_istore_n (lv' := [(3, .int (iI 0)), (0, .ref m0), (1, .int (iI ((c1 : Nat) : Int))), (2, .int (iI ((c2 : Nat) : Int)))]) hx hb dX1_cuts_29 rfl hl (by decide) rfl (fun ls hl => ?_)
  refine ib_const hx hb dX1_cuts_30 ?_
  refine lv_istore (lv' := [(4, .int (iI 0)), (3, .int (iI 0)), (0, .ref m0), (1, .int (iI ((c1 : Nat) : Int))), (2, .int (iI ((c2 : Nat) : Int)))]) hx hb dX1_cuts_31 hl (by decide) rfl (fun ls hl => ?_)
  have lp_33_1 : ∀ (j n : Nat), n + j = 13 → ∀ ls : Array Slot, lv_has ls 6 [(0, .ref m0), (1, .int (iI ((c1 : Nat) : Int))), (2, .int (iI ((c2 : Nat) : Int))), (3, .int (iI ((ctN (fm (rw_ 0 a0 a1) c1) (fm (rw_ 1 a0 a1) c2) n : Nat) : Int))), (4, .int (iI ((n : Nat) : Int)))] → W P0 l e (headSpec wsX1_cuts { frames := 3, cells := 0, slots := 0, locals := 74 }).room s m ([.ref m0, .int (iI ((c1 : Nat) : Int)), .int (iI ((c2 : Nat) : Int))] : List Value).toArray below meth c H locs 0 0 (MQ below (wrQ (dC, dI) (inW [(m0, .inr (1, [.int th, .ref t0, .ref k0, .ref p0, .int (iI ((w : Nat) : Int))])), (t0, .inl (cI, 24, .inl (fun j => iI ((tb a0 a1 j : Nat) : Int)))), (k0, .inl (cI, 12, .inl (fun j => iI ((K j : Nat) : Int)))), (p0, .inl (cI, 12, .inl (fun j => iI ((q j : Nat) : Int))))]) [(m0, .inr (1, [.int (iI 0), .ref t0, .ref k0, .ref p0, .int (iI ((w : Nat) : Int))])), (t0, .inl (cI, 24, .inl (fun j => iI ((tb a0 a1 j : Nat) : Int)))), (k0, .inl (cI, 12, .inl (fun j => iI ((K j : Nat) : Int)))), (p0, .inl (cI, 12, .inl (fun j => iI ((q j : Nat) : Int))))] (some (.int (iI ((ctN (fm (rw_ 0 a0 a1) c1) (fm (rw_ 1 a0 a1) c2) 13 : Nat) : Int))))) ([.ref m0, .int (iI ((c1 : Nat) : Int)), .int (iI ((c2 : Nat) : Int))] : List Value).toArray s 0 0 (inW [(m0, .inr (1, [.int th, .ref t0, .ref k0, .ref p0, .int (iI ((w : Nat) : Int))])), (t0, .inl (cI, 24, .inl (fun j => iI ((tb a0 a1 j : Nat) : Int)))), (k0, .inl (cI, 12, .inl (fun j => iI ((K j : Nat) : Int)))), (p0, .inl (cI, 12, .inl (fun j => iI ((q j : Nat) : Int))))])) (F0 m 33 ls []) := by
    intro j
    induction j with
    | zero =>
      intro n hn_33  ls hl
      have hct := ctN_lt (fm (rw_ 0 a0 a1) c1) (fm (rw_ 1 a0 a1) c2) n (by omega)
      refine lv_iload hx hb dX1_cuts_33 (lv_at hl 4 rfl) ?_
      refine ib_bi hx hb dX1_cuts_35 (by decide) ?_
      refine ib_icmp_gt (tgt := 89) hx hb dX1_cuts_37 (by decide) ⟨by omega, by omega⟩ ⟨by omega, by omega⟩ (fun c_37 => ?_) (fun c_37 => absurd c_37 (by omega))
      refine lv_iload_n hx hb dX1_cuts_89 rfl (lv_at hl 3 rfl) ?_
      refine st_i (y := iI ((ctN (fm (rw_ 0 a0 a1) c1) (fm (rw_ 1 a0 a1) c2) 13 : Nat) : Int)) (congrArg (fun z : Nat => iI ((z : Nat) : Int)) (show ctN (fm (rw_ 0 a0 a1) c1) (fm (rw_ 1 a0 a1) c2) n = ctN (fm (rw_ 0 a0 a1) c1) (fm (rw_ 1 a0 a1) c2) 13 by rw [show n = 13 by omega])) ?_
      exact W.iret hx hb hr (fun t ht _ => ⟨rfl, by rw [ht]; exact hP, hS.F ht⟩) hS.2.2 dX1_cuts_90
    | succ j ih_33_1 =>
      intro n hn_33  ls hl
      have hct := ctN_lt (fm (rw_ 0 a0 a1) c1) (fm (rw_ 1 a0 a1) c2) n (by omega)
      refine lv_iload hx hb dX1_cuts_33 (lv_at hl 4 rfl) ?_
      refine ib_bi hx hb dX1_cuts_35 (by decide) ?_
      refine ib_icmp_gt (tgt := 89) hx hb dX1_cuts_37 (by decide) ⟨by omega, by omega⟩ ⟨by omega, by omega⟩ (fun c_37 => absurd c_37 (by omega)) (fun c_37 => ?_)
      refine lv_aload_n hx hb dX1_cuts_40 rfl (lv_at hl 0 rfl) ?_
      refine ib_const hx hb dX1_cuts_41 ?_
      refine lv_iload_n hx hb dX1_cuts_42 rfl (lv_at hl 1 rfl) ?_
      refine ib_const hx hb dX1_cuts_43 ?_
      refine lv_iload hx hb dX1_cuts_44 (lv_at hl 4 rfl) ?_
      refine rd_call (va_runV (As := [.int (iI 0), .int (iI ((c1 : Nat) : Int)), .int (iI 0), .int (iI ((n : Nat) : Int))]) (rest := []) ⟨hx, hb, hml, hown, hts⟩ (mX1_setOf l dC dI cI m0 t0 k0 p0 a0 a1 K q (iI 0) w h0 h1 hw hq 0 c1 0 n (by omega) (by omega) (by omega)) (cwV 4 hts gX1_cuts_X1_setOf rfl rfl rfl hvX1_setOf ⟨Nat.le_of_ble_eq_true rfl, Nat.le_of_ble_eq_true rfl⟩) (bW_pre (ci := 1) (q0 := 0) hK hP rfl rfl rfl) rfl rfl hl.1 rfl (lv_room (Nat.le_of_ble_eq_true rfl)) dX1_cuts_46 ⟨Nat.le_of_ble_eq_true rfl, Nat.le_of_ble_eq_true rfl⟩) ?_
      have hs_46 := setF_lt (fm_lt (rw_ 0 a0 a1) c1) 0 n
      refine lv_aload_n hx hb dX1_cuts_49 rfl (lv_at hl 0 rfl) ?_
      refine ib_const hx hb dX1_cuts_50 ?_
      refine lv_iload_n hx hb dX1_cuts_51 rfl (lv_at hl 2 rfl) ?_
      refine ib_const hx hb dX1_cuts_52 ?_
      refine ib_bi hx hb dX1_cuts_53 (by decide) ?_
      refine lv_iload hx hb dX1_cuts_55 (lv_at hl 4 rfl) ?_
      refine ib_sub (z := ((12 - n : Nat) : Int)) hx hb dX1_cuts_57 (by omega) ?_
      refine rd_call (va_runV (As := [.int (iI 1), .int (iI ((c2 : Nat) : Int)), .int (iI 0), .int (iI ((12 - n : Nat) : Int))]) (rest := [.int (iI ((setF (fm (rw_ 0 a0 a1) c1) 0 n : Nat) : Int))]) ⟨hx, hb, hml, hown, hts⟩ (mX1_setOf l dC dI cI m0 t0 k0 p0 a0 a1 K q (iI 0) w h0 h1 hw hq 1 c2 0 (12 - n) (by omega) (by omega) (by omega)) (cwV 4 hts gX1_cuts_X1_setOf rfl rfl rfl hvX1_setOf ⟨Nat.le_of_ble_eq_true rfl, Nat.le_of_ble_eq_true rfl⟩) (bW_pre (ci := 1) (q0 := 0) hK hP rfl rfl rfl) rfl rfl hl.1 rfl (lv_room (Nat.le_of_ble_eq_true rfl)) dX1_cuts_58 ⟨Nat.le_of_ble_eq_true rfl, Nat.le_of_ble_eq_true rfl⟩) ?_
      have hs_58 := setF_lt (fm_lt (rw_ 1 a0 a1) c2) 0 (12 - n)
      refine lv_ior hx hb dX1_cuts_61 ?_
      refine st_i (y := iI ((setF (fm (rw_ 0 a0 a1) c1) 0 n ||| setF (fm (rw_ 1 a0 a1) c2) 0 (12 - n) : Nat) : Int)) (ir_or _ _) ?_
      refine lv_istore (lv' := [(5, .int (iI ((setF (fm (rw_ 0 a0 a1) c1) 0 n ||| setF (fm (rw_ 1 a0 a1) c2) 0 (12 - n) : Nat) : Int))), (0, .ref m0), (1, .int (iI ((c1 : Nat) : Int))), (2, .int (iI ((c2 : Nat) : Int))), (3, .int (iI ((ctN (fm (rw_ 0 a0 a1) c1) (fm (rw_ 1 a0 a1) c2) n : Nat) : Int))), (4, .int (iI ((n : Nat) : Int)))]) hx hb dX1_cuts_62 hl (by decide) rfl (fun ls hl => ?_)
      refine lv_iload_n hx hb dX1_cuts_64 rfl (lv_at hl 4 rfl) ?_
      refine lv_iload hx hb dX1_cuts_65 (lv_at hl 0 rfl) ?_
      refine ib_si hx hb dX1_cuts_67 (by decide) ?_
      have hor : setF (fm (rw_ 0 a0 a1) c1) 0 n ||| setF (fm (rw_ 1 a0 a1) c2) 0 (12 - n) < 2 ^ 12 := Nat.or_lt_two_pow (setF_lt (fm_lt (rw_ 0 a0 a1) c1) 0 n) (setF_lt (fm_lt (rw_ 1 a0 a1) c2) 0 (12 - n))
      refine ib_icmp_ne (tgt := 80) hx hb dX1_cuts_70 (by decide) ⟨by omega, by omega⟩ ⟨by omega, by omega⟩ (fun c_70 => ?_) (fun c_70 => ?_)
      · skip
        refine ib_const hx hb dX1_cuts_80 ?_
        refine lv_ior hx hb dX1_cuts_81 ?_
        refine st_i (y := iI ((ctN (fm (rw_ 0 a0 a1) c1) (fm (rw_ 1 a0 a1) c2) n ||| 0 : Nat) : Int)) (ir_or _ 0) ?_
        refine lv_istore_n (lv' := [(3, .int (iI ((ctN (fm (rw_ 0 a0 a1) c1) (fm (rw_ 1 a0 a1) c2) n ||| 0 : Nat) : Int))), (5, .int (iI ((setF (fm (rw_ 0 a0 a1) c1) 0 n ||| setF (fm (rw_ 1 a0 a1) c2) 0 (12 - n) : Nat) : Int))), (0, .ref m0), (1, .int (iI ((c1 : Nat) : Int))), (2, .int (iI ((c2 : Nat) : Int))), (4, .int (iI ((n : Nat) : Int)))]) hx hb dX1_cuts_82 rfl hl (by decide) rfl (fun ls hl => ?_)
        refine lv_iinc (v := iI ((n + 1 : Nat) : Int)) (lv' := [(4, .int (iI ((n + 1 : Nat) : Int))), (3, .int (iI ((ctN (fm (rw_ 0 a0 a1) c1) (fm (rw_ 1 a0 a1) c2) n ||| 0 : Nat) : Int))), (5, .int (iI ((setF (fm (rw_ 0 a0 a1) c1) 0 n ||| setF (fm (rw_ 1 a0 a1) c2) 0 (12 - n) : Nat) : Int))), (0, .ref m0), (1, .int (iI ((c1 : Nat) : Int))), (2, .int (iI ((c2 : Nat) : Int)))]) hx hb dX1_cuts_83 hl (k := 5) rfl (iI_inc (by omega)) (by decide) rfl (fun ls hl => ?_)
        refine lv_goto (tgt := 33) hx hb dX1_cuts_86 (by decide) ?_
        have hl : lv_has ls 6 [(4, .int (iI ((n + 1 : Nat) : Int))), (3, .int (iI ((ctN (fm (rw_ 0 a0 a1) c1) (fm (rw_ 1 a0 a1) c2) (n + 1) : Nat) : Int))), (5, .int (iI ((setF (fm (rw_ 0 a0 a1) c1) 0 n ||| setF (fm (rw_ 1 a0 a1) c2) 0 (12 - n) : Nat) : Int))), (0, .ref m0), (1, .int (iI ((c1 : Nat) : Int))), (2, .int (iI ((c2 : Nat) : Int)))] := by
          have e9 : iI ((ctN (fm (rw_ 0 a0 a1) c1) (fm (rw_ 1 a0 a1) c2) n ||| 0 : Nat) : Int) = iI ((ctN (fm (rw_ 0 a0 a1) c1) (fm (rw_ 1 a0 a1) c2) (n + 1) : Nat) : Int) := congrArg (fun z : Nat => iI ((z : Nat) : Int)) (if_neg (by omega)).symm
          rw [← e9]; exact hl
        exact ih_33_1 (n + 1) (by omega)  _ (lv_sub hl [3, 4, 5, 1, 0] rfl)
      · skip
        refine ib_const hx hb dX1_cuts_73 ?_
        refine lv_iload hx hb dX1_cuts_74 (lv_at hl 5 rfl) ?_
        refine lv_ishl hx hb dX1_cuts_76 ?_
        refine st_i (y := iI ((2 ^ n : Nat) : Int)) (ir_shl1 (by omega)) ?_
        refine lv_goto (tgt := 81) hx hb dX1_cuts_77 (by decide) ?_
        refine lv_ior hx hb dX1_cuts_81 ?_
        refine st_i (y := iI ((ctN (fm (rw_ 0 a0 a1) c1) (fm (rw_ 1 a0 a1) c2) n ||| 2 ^ n : Nat) : Int)) (ir_or _ _) ?_
        refine lv_istore_n (lv' := [(3, .int (iI ((ctN (fm (rw_ 0 a0 a1) c1) (fm (rw_ 1 a0 a1) c2) n ||| 2 ^ n : Nat) : Int))), (5, .int (iI ((setF (fm (rw_ 0 a0 a1) c1) 0 n ||| setF (fm (rw_ 1 a0 a1) c2) 0 (12 - n) : Nat) : Int))), (0, .ref m0), (1, .int (iI ((c1 : Nat) : Int))), (2, .int (iI ((c2 : Nat) : Int))), (4, .int (iI ((n : Nat) : Int)))]) hx hb dX1_cuts_82 rfl hl (by decide) rfl (fun ls hl => ?_)
        refine lv_iinc (v := iI ((n + 1 : Nat) : Int)) (lv' := [(4, .int (iI ((n + 1 : Nat) : Int))), (3, .int (iI ((ctN (fm (rw_ 0 a0 a1) c1) (fm (rw_ 1 a0 a1) c2) n ||| 2 ^ n : Nat) : Int))), (5, .int (iI ((setF (fm (rw_ 0 a0 a1) c1) 0 n ||| setF (fm (rw_ 1 a0 a1) c2) 0 (12 - n) : Nat) : Int))), (0, .ref m0), (1, .int (iI ((c1 : Nat) : Int))), (2, .int (iI ((c2 : Nat) : Int)))]) hx hb dX1_cuts_83 hl (k := 5) rfl (iI_inc (by omega)) (by decide) rfl (fun ls hl => ?_)
        refine lv_goto (tgt := 33) hx hb dX1_cuts_86 (by decide) ?_
        have hl : lv_has ls 6 [(4, .int (iI ((n + 1 : Nat) : Int))), (3, .int (iI ((ctN (fm (rw_ 0 a0 a1) c1) (fm (rw_ 1 a0 a1) c2) (n + 1) : Nat) : Int))), (5, .int (iI ((setF (fm (rw_ 0 a0 a1) c1) 0 n ||| setF (fm (rw_ 1 a0 a1) c2) 0 (12 - n) : Nat) : Int))), (0, .ref m0), (1, .int (iI ((c1 : Nat) : Int))), (2, .int (iI ((c2 : Nat) : Int)))] := by
          have e9 : iI ((ctN (fm (rw_ 0 a0 a1) c1) (fm (rw_ 1 a0 a1) c2) n ||| 2 ^ n : Nat) : Int) = iI ((ctN (fm (rw_ 0 a0 a1) c1) (fm (rw_ 1 a0 a1) c2) (n + 1) : Nat) : Int) := congrArg (fun z : Nat => iI ((z : Nat) : Int)) (if_pos (by omega)).symm
          rw [← e9]; exact hl
        exact ih_33_1 (n + 1) (by omega)  _ (lv_sub hl [3, 4, 5, 1, 0] rfl)
  exact lp_33_1 13 0 (by omega)  _ (lv_sub hl [2, 3, 4, 1, 0] rfl)

set_option maxHeartbeats 4000000 in
set_option maxRecDepth 100000 in
theorem mX1_cuts_x1 (l : Launch) (dC : Nat → ClassId) (dI : Nat → Nat → Nat) (cI : ClassId) (m0 t0 k0 p0 : Nat) (a0 a1 K q : Nat → Nat) (th : Int32) (w : Nat) (h0 : lt12 a0) (h1 : lt12 a1) (hw : w ≤ 12) (hq : ∀ i, i < w → q i < 12) (z0 z1 : Int) (hz0 : inI z0) (hz1 : inI z1) (hbad : ¬ ((0 ≤ z0 ∧ z0 ≤ 47) ∧ (0 ≤ z1 ∧ z1 ≤ 47))) : wr l yX1_cuts wsX1_cuts { frames := 2, cells := 0, slots := 0, locals := 42 } [.ref m0, .int (iI z0), .int (iI z1)] (dC, dI) [(m0, .inr (1, [.int th, .ref t0, .ref k0, .ref p0, .int (iI ((w : Nat) : Int))])), (t0, .inl (cI, 24, .inl (fun j => iI ((tb a0 a1 j : Nat) : Int)))), (k0, .inl (cI, 12, .inl (fun j => iI ((K j : Nat) : Int)))), (p0, .inl (cI, 12, .inl (fun j => iI ((q j : Nat) : Int))))] [(cI, .int)] [(m0, .inr (1, [.int (iI 1), .ref t0, .ref k0, .ref p0, .int (iI ((w : Nat) : Int))])), (t0, .inl (cI, 24, .inl (fun j => iI ((tb a0 a1 j : Nat) : Int)))), (k0, .inl (cI, 12, .inl (fun j => iI ((K j : Nat) : Int)))), (p0, .inl (cI, 12, .inl (fun j => iI ((q j : Nat) : Int))))] (some (.int (iI 0))) := by
  refine Met.ofW (cc := cX1_cuts) (maxL := 6) (ret := (some .int)) (by decide) rfl ?_
  intro P0 e s m args below meth c s₁ B hml hv
  obtain ⟨rfl, hP, hK, hD0⟩ := hv
  have hx := B.exec
  have hb := B.bytes
  have hr := B.returns
  have hts := atoms_spec (ws := wsX1_cuts) B.pre
  have hown : s.vm.findClass RX1 = some m.cls := findClass_of_methodNamed B.named
  have hlocks := B.notSynchronized
  have hinX : ∀ w ∈ u_ws RX1 TX1 5, w ∈ wsX1_cuts := by decide +kernel
  have hD : va_D (inW [(m0, .inr (1, [.int th, .ref t0, .ref k0, .ref p0, .int (iI ((w : Nat) : Int))])), (t0, .inl (cI, 24, .inl (fun j => iI ((tb a0 a1 j : Nat) : Int)))), (k0, .inl (cI, 12, .inl (fun j => iI ((K j : Nat) : Int)))), (p0, .inl (cI, 12, .inl (fun j => iI ((q j : Nat) : Int))))]) [(m0, .inr (1, [.int th, .ref t0, .ref k0, .ref p0, .int (iI ((w : Nat) : Int))])), (t0, .inl (cI, 24, .inl (fun j => iI ((tb a0 a1 j : Nat) : Int)))), (k0, .inl (cI, 12, .inl (fun j => iI ((K j : Nat) : Int)))), (p0, .inl (cI, 12, .inl (fun j => iI ((q j : Nat) : Int))))] := va_D_in hD0
  have hS : va_S (inW [(m0, .inr (1, [.int th, .ref t0, .ref k0, .ref p0, .int (iI ((w : Nat) : Int))])), (t0, .inl (cI, 24, .inl (fun j => iI ((tb a0 a1 j : Nat) : Int)))), (k0, .inl (cI, 12, .inl (fun j => iI ((K j : Nat) : Int)))), (p0, .inl (cI, 12, .inl (fun j => iI ((q j : Nat) : Int))))]) s.heap s.heap [] := va_S.rf
  have hl := lv_entry ([.ref m0, .int (iI z0), .int (iI z1)]) (n := 6) (Nat.le_of_ble_eq_true rfl)
  rw [lg_entry_eq]
  generalize (lg_sl ([.ref m0, .int (iI z0), .int (iI z1)]) ++ List.replicate (6 - (lg_sl ([.ref m0, .int (iI z0), .int (iI z1)])).length) Slot.unset).toArray = ls at hl ⊢
  have hl : lv_has ls 6 [(0, .ref m0), (1, .int (iI z0)), (2, .int (iI z1))] := hl
  have hza0 := hz0.1
  have hza1 := hz1.1
  have hzb0 := hz0.2
  have hzb1 := hz1.2
  refine lv_aload_n hx hb dX1_cuts_0 rfl (lv_at hl 0 rfl) ?_
  refine lv_iload_n hx hb dX1_cuts_1 rfl (lv_at hl 1 rfl) ?_
  refine rd_call (va_runS (As := [.int (iI z0)]) (rest := [.ref m0]) ⟨hx, hb, hml, hown, hts⟩ (mX1_isCode l z0 ⟨by omega, by omega⟩) (va_cwS 1 hts gX1_cuts_X1_isCode rfl rfl rfl hdX1_isCode ⟨Nat.le_of_ble_eq_true rfl, Nat.le_of_ble_eq_true rfl⟩) tt_pre rfl rfl hl.1 rfl (lv_room (Nat.le_of_ble_eq_true rfl)) dX1_cuts_2 ⟨Nat.le_of_ble_eq_true rfl, Nat.le_of_ble_eq_true rfl⟩) ?_
  refine bb_eq (tgt := 19) hx hb dX1_cuts_5 (by decide) (fun c_5 => ?_) (fun c_5 => ?_)
  · skip
    refine ib_const hx hb dX1_cuts_19 ?_
    refine wr_call (va_runV (As := [.int (iI 1)]) (rest := []) ⟨hx, hb, hml, hown, hts⟩ (mX1_goesWell l dC dI cI m0 t0 k0 p0 a0 a1 K q th w h0 h1 hw hq 1 ⟨by omega, by omega⟩) (cwV 1 hts gX1_cuts_X1_goesWell rfl rfl rfl hvX1_goesWell ⟨Nat.le_of_ble_eq_true rfl, Nat.le_of_ble_eq_true rfl⟩) (bD_pre (ci := 1) (q0 := 0) hK hP hD rfl rfl rfl) rfl rfl hl.1 rfl (lv_room (Nat.le_of_ble_eq_true rfl)) dX1_cuts_20 ⟨Nat.le_of_ble_eq_true rfl, Nat.le_of_ble_eq_true rfl⟩) hS (fun q9 h => inW_same (w := [(m0, .inr (1, [.int th, .ref t0, .ref k0, .ref p0, .int (iI ((w : Nat) : Int))])), (t0, .inl (cI, 24, .inl (fun j => iI ((tb a0 a1 j : Nat) : Int)))), (k0, .inl (cI, 12, .inl (fun j => iI ((K j : Nat) : Int)))), (p0, .inl (cI, 12, .inl (fun j => iI ((q j : Nat) : Int))))]) (w' := [(m0, .inr (1, [.int th, .ref t0, .ref k0, .ref p0, .int (iI ((w : Nat) : Int))])), (t0, .inl (cI, 24, .inl (fun j => iI ((tb a0 a1 j : Nat) : Int)))), (k0, .inl (cI, 12, .inl (fun j => iI ((K j : Nat) : Int)))), (p0, .inl (cI, 12, .inl (fun j => iI ((q j : Nat) : Int))))]) rfl h) (fun H locs hP hz hk hS => ?_)
    have hD : va_D (inW [(m0, .inr (1, [.int th, .ref t0, .ref k0, .ref p0, .int (iI ((w : Nat) : Int))])), (t0, .inl (cI, 24, .inl (fun j => iI ((tb a0 a1 j : Nat) : Int)))), (k0, .inl (cI, 12, .inl (fun j => iI ((K j : Nat) : Int)))), (p0, .inl (cI, 12, .inl (fun j => iI ((q j : Nat) : Int))))]) [(m0, .inr (1, [.int (iI 1), .ref t0, .ref k0, .ref p0, .int (iI ((w : Nat) : Int))])), (t0, .inl (cI, 24, .inl (fun j => iI ((tb a0 a1 j : Nat) : Int)))), (k0, .inl (cI, 12, .inl (fun j => iI ((K j : Nat) : Int)))), (p0, .inl (cI, 12, .inl (fun j => iI ((q j : Nat) : Int))))] := va_D_same (w := [(m0, .inr (1, [.int th, .ref t0, .ref k0, .ref p0, .int (iI ((w : Nat) : Int))])), (t0, .inl (cI, 24, .inl (fun j => iI ((tb a0 a1 j : Nat) : Int)))), (k0, .inl (cI, 12, .inl (fun j => iI ((K j : Nat) : Int)))), (p0, .inl (cI, 12, .inl (fun j => iI ((q j : Nat) : Int))))]) rfl hD
    refine st_i (y := iI 0) (congrArg iI (bI_f (by decide))) ?_
    refine ib_if_ne (tgt := 28) hx hb dX1_cuts_23 (by decide) ⟨by omega, by omega⟩ (fun c_23 => absurd c_23 (by decide)) (fun c_23 => ?_)
    refine ib_const hx hb dX1_cuts_26 ?_
    exact W.iret hx hb hr (fun t ht _ => ⟨rfl, by rw [ht]; exact hP, hS.F ht⟩) hS.2.2 dX1_cuts_27
  · skip
    refine lv_iload_n hx hb dX1_cuts_8 rfl (lv_at hl 2 rfl) ?_
    refine rd_call (va_runS (As := [.int (iI z1)]) (rest := [.ref m0]) ⟨hx, hb, hml, hown, hts⟩ (mX1_isCode l z1 ⟨by omega, by omega⟩) (va_cwS 1 hts gX1_cuts_X1_isCode rfl rfl rfl hdX1_isCode ⟨Nat.le_of_ble_eq_true rfl, Nat.le_of_ble_eq_true rfl⟩) tt_pre rfl rfl hl.1 rfl (lv_room (Nat.le_of_ble_eq_true rfl)) dX1_cuts_9 ⟨Nat.le_of_ble_eq_true rfl, Nat.le_of_ble_eq_true rfl⟩) ?_
    refine bb_eq (tgt := 19) hx hb dX1_cuts_12 (by decide) (fun c_12 => ?_) (fun c_12 => ?_)
    · skip
      refine ib_const hx hb dX1_cuts_19 ?_
      refine wr_call (va_runV (As := [.int (iI 1)]) (rest := []) ⟨hx, hb, hml, hown, hts⟩ (mX1_goesWell l dC dI cI m0 t0 k0 p0 a0 a1 K q th w h0 h1 hw hq 1 ⟨by omega, by omega⟩) (cwV 1 hts gX1_cuts_X1_goesWell rfl rfl rfl hvX1_goesWell ⟨Nat.le_of_ble_eq_true rfl, Nat.le_of_ble_eq_true rfl⟩) (bD_pre (ci := 1) (q0 := 0) hK hP hD rfl rfl rfl) rfl rfl hl.1 rfl (lv_room (Nat.le_of_ble_eq_true rfl)) dX1_cuts_20 ⟨Nat.le_of_ble_eq_true rfl, Nat.le_of_ble_eq_true rfl⟩) hS (fun q9 h => inW_same (w := [(m0, .inr (1, [.int th, .ref t0, .ref k0, .ref p0, .int (iI ((w : Nat) : Int))])), (t0, .inl (cI, 24, .inl (fun j => iI ((tb a0 a1 j : Nat) : Int)))), (k0, .inl (cI, 12, .inl (fun j => iI ((K j : Nat) : Int)))), (p0, .inl (cI, 12, .inl (fun j => iI ((q j : Nat) : Int))))]) (w' := [(m0, .inr (1, [.int th, .ref t0, .ref k0, .ref p0, .int (iI ((w : Nat) : Int))])), (t0, .inl (cI, 24, .inl (fun j => iI ((tb a0 a1 j : Nat) : Int)))), (k0, .inl (cI, 12, .inl (fun j => iI ((K j : Nat) : Int)))), (p0, .inl (cI, 12, .inl (fun j => iI ((q j : Nat) : Int))))]) rfl h) (fun H locs hP hz hk hS => ?_)
      have hD : va_D (inW [(m0, .inr (1, [.int th, .ref t0, .ref k0, .ref p0, .int (iI ((w : Nat) : Int))])), (t0, .inl (cI, 24, .inl (fun j => iI ((tb a0 a1 j : Nat) : Int)))), (k0, .inl (cI, 12, .inl (fun j => iI ((K j : Nat) : Int)))), (p0, .inl (cI, 12, .inl (fun j => iI ((q j : Nat) : Int))))]) [(m0, .inr (1, [.int (iI 1), .ref t0, .ref k0, .ref p0, .int (iI ((w : Nat) : Int))])), (t0, .inl (cI, 24, .inl (fun j => iI ((tb a0 a1 j : Nat) : Int)))), (k0, .inl (cI, 12, .inl (fun j => iI ((K j : Nat) : Int)))), (p0, .inl (cI, 12, .inl (fun j => iI ((q j : Nat) : Int))))] := va_D_same (w := [(m0, .inr (1, [.int th, .ref t0, .ref k0, .ref p0, .int (iI ((w : Nat) : Int))])), (t0, .inl (cI, 24, .inl (fun j => iI ((tb a0 a1 j : Nat) : Int)))), (k0, .inl (cI, 12, .inl (fun j => iI ((K j : Nat) : Int)))), (p0, .inl (cI, 12, .inl (fun j => iI ((q j : Nat) : Int))))]) rfl hD
      refine st_i (y := iI 0) (congrArg iI (bI_f (by decide))) ?_
      refine ib_if_ne (tgt := 28) hx hb dX1_cuts_23 (by decide) ⟨by omega, by omega⟩ (fun c_23 => absurd c_23 (by decide)) (fun c_23 => ?_)
      refine ib_const hx hb dX1_cuts_26 ?_
      exact W.iret hx hb hr (fun t ht _ => ⟨rfl, by rw [ht]; exact hP, hS.F ht⟩) hS.2.2 dX1_cuts_27
    · skip
      refine ib_const hx hb dX1_cuts_15 ?_
      refine lv_goto (tgt := 20) hx hb dX1_cuts_16 (by decide) ?_
      exfalso; omega

set_option maxHeartbeats 4000000 in
set_option maxRecDepth 100000 in
theorem mX1_write_ok (l : Launch) (dC : Nat → ClassId) (dI : Nat → Nat → Nat) (cI : ClassId) (m0 t0 k0 p0 : Nat) (a0 a1 K q : Nat → Nat) (th : Int32) (w : Nat) (h0 : lt12 a0) (h1 : lt12 a1) (hw : w ≤ 12) (hq : ∀ i, i < w → q i < 12) (t : Nat) (ht : t < 12) (hnw : ¬ orN (wtB q t) w = true) (hw12 : w < 12) : wr l yX1_write wsX1_write { frames := 2, cells := 0, slots := 0, locals := 42 } [.ref m0, .int (iI ((t : Nat) : Int))] (dC, dI) [(m0, .inr (1, [.int th, .ref t0, .ref k0, .ref p0, .int (iI ((w : Nat) : Int))])), (t0, .inl (cI, 24, .inl (fun j => iI ((tb a0 a1 j : Nat) : Int)))), (k0, .inl (cI, 12, .inl (fun j => iI ((K j : Nat) : Int)))), (p0, .inl (cI, 12, .inl (fun j => iI ((q j : Nat) : Int))))] [(cI, .int)] [(m0, .inr (1, [.int (iI 0), .ref t0, .ref k0, .ref p0, .int (iI ((w + 1 : Nat) : Int))])), (t0, .inl (cI, 24, .inl (fun j => iI ((tb a0 a1 j : Nat) : Int)))), (k0, .inl (cI, 12, .inl (fun j => iI ((K j : Nat) : Int)))), (p0, .inl (cI, 12, .inl (fun j => iI (((upq q w t) j : Nat) : Int))))] (some (.int (iI ((w + 1 : Nat) : Int)))) := by
  refine Met.ofW (cc := cX1_write) (maxL := 2) (ret := (some .int)) (by decide) rfl ?_
  intro P0 e s m args below meth c s₁ B hml hv
  obtain ⟨rfl, hP, hK, hD0⟩ := hv
  have hx := B.exec
  have hb := B.bytes
  have hr := B.returns
  have hts := atoms_spec (ws := wsX1_write) B.pre
  have hown : s.vm.findClass RX1 = some m.cls := findClass_of_methodNamed B.named
  have hlocks := B.notSynchronized
  have hinX : ∀ w ∈ u_ws RX1 TX1 5, w ∈ wsX1_write := by decide +kernel
  have hD : va_D (inW [(m0, .inr (1, [.int th, .ref t0, .ref k0, .ref p0, .int (iI ((w : Nat) : Int))])), (t0, .inl (cI, 24, .inl (fun j => iI ((tb a0 a1 j : Nat) : Int)))), (k0, .inl (cI, 12, .inl (fun j => iI ((K j : Nat) : Int)))), (p0, .inl (cI, 12, .inl (fun j => iI ((q j : Nat) : Int))))]) [(m0, .inr (1, [.int th, .ref t0, .ref k0, .ref p0, .int (iI ((w : Nat) : Int))])), (t0, .inl (cI, 24, .inl (fun j => iI ((tb a0 a1 j : Nat) : Int)))), (k0, .inl (cI, 12, .inl (fun j => iI ((K j : Nat) : Int)))), (p0, .inl (cI, 12, .inl (fun j => iI ((q j : Nat) : Int))))] := va_D_in hD0
  have hS : va_S (inW [(m0, .inr (1, [.int th, .ref t0, .ref k0, .ref p0, .int (iI ((w : Nat) : Int))])), (t0, .inl (cI, 24, .inl (fun j => iI ((tb a0 a1 j : Nat) : Int)))), (k0, .inl (cI, 12, .inl (fun j => iI ((K j : Nat) : Int)))), (p0, .inl (cI, 12, .inl (fun j => iI ((q j : Nat) : Int))))]) s.heap s.heap [] := va_S.rf
  have hl := lv_entry ([.ref m0, .int (iI ((t : Nat) : Int))]) (n := 2) (Nat.le_of_ble_eq_true rfl)
  rw [lg_entry_eq]
  generalize (lg_sl ([.ref m0, .int (iI ((t : Nat) : Int))]) ++ List.replicate (2 - (lg_sl ([.ref m0, .int (iI ((t : Nat) : Int))])).length) Slot.unset).toArray = ls at hl ⊢
  have hl : lv_has ls 2 [(0, .ref m0), (1, .int (iI ((t : Nat) : Int)))] := hl
  refine lv_aload_n hx hb dX1_write_0 rfl (lv_at hl 0 rfl) ?_
  refine lv_iload_n hx hb dX1_write_1 rfl (lv_at hl 1 rfl) ?_
  refine rd_call (va_runS (As := [.int (iI ((t : Nat) : Int))]) (rest := [.ref m0]) ⟨hx, hb, hml, hown, hts⟩ (mX1_isTone l ((t : Nat) : Int) ⟨by omega, by omega⟩) (va_cwS 1 hts gX1_write_X1_isTone rfl rfl rfl hdX1_isTone ⟨Nat.le_of_ble_eq_true rfl, Nat.le_of_ble_eq_true rfl⟩) tt_pre rfl rfl hl.1 rfl (lv_room (Nat.le_of_ble_eq_true rfl)) dX1_write_2 ⟨Nat.le_of_ble_eq_true rfl, Nat.le_of_ble_eq_true rfl⟩) ?_
  refine bb_ne (tgt := 12) hx hb dX1_write_5 (by decide) (fun c_5 => ?_) (fun c_5 => absurd c_5 (by omega))
  refine lv_aload_n hx hb dX1_write_12 rfl (lv_at hl 0 rfl) ?_
  refine lv_iload_n hx hb dX1_write_13 rfl (lv_at hl 1 rfl) ?_
  refine rd_call (va_runV (As := [.int (iI ((t : Nat) : Int))]) (rest := [.ref m0]) ⟨hx, hb, hml, hown, hts⟩ (mX1_isWritten l dC dI cI m0 t0 k0 p0 a0 a1 K q th w h0 h1 hw hq t (by omega)) (cwV 1 hts gX1_write_X1_isWritten rfl rfl rfl hvX1_isWritten ⟨Nat.le_of_ble_eq_true rfl, Nat.le_of_ble_eq_true rfl⟩) (bW_pre (ci := 1) (q0 := 0) hK hP rfl rfl rfl) rfl rfl hl.1 rfl (lv_room (Nat.le_of_ble_eq_true rfl)) dX1_write_14 ⟨Nat.le_of_ble_eq_true rfl, Nat.le_of_ble_eq_true rfl⟩) ?_
  refine bb_eq (tgt := 24) hx hb dX1_write_17 (by decide) (fun c_17 => ?_) (fun c_17 => absurd c_17 (hnw))
  refine ib_const hx hb dX1_write_24 ?_
  refine wr_call (va_runV (As := [.int (iI 0)]) (rest := []) ⟨hx, hb, hml, hown, hts⟩ (mX1_goesWell l dC dI cI m0 t0 k0 p0 a0 a1 K q th w h0 h1 hw hq 0 ⟨by omega, by omega⟩) (cwV 1 hts gX1_write_X1_goesWell rfl rfl rfl hvX1_goesWell ⟨Nat.le_of_ble_eq_true rfl, Nat.le_of_ble_eq_true rfl⟩) (bD_pre (ci := 1) (q0 := 0) hK hP hD rfl rfl rfl) rfl rfl hl.1 rfl (lv_room (Nat.le_of_ble_eq_true rfl)) dX1_write_25 ⟨Nat.le_of_ble_eq_true rfl, Nat.le_of_ble_eq_true rfl⟩) hS (fun q9 h => inW_same (w := [(m0, .inr (1, [.int th, .ref t0, .ref k0, .ref p0, .int (iI ((w : Nat) : Int))])), (t0, .inl (cI, 24, .inl (fun j => iI ((tb a0 a1 j : Nat) : Int)))), (k0, .inl (cI, 12, .inl (fun j => iI ((K j : Nat) : Int)))), (p0, .inl (cI, 12, .inl (fun j => iI ((q j : Nat) : Int))))]) (w' := [(m0, .inr (1, [.int th, .ref t0, .ref k0, .ref p0, .int (iI ((w : Nat) : Int))])), (t0, .inl (cI, 24, .inl (fun j => iI ((tb a0 a1 j : Nat) : Int)))), (k0, .inl (cI, 12, .inl (fun j => iI ((K j : Nat) : Int)))), (p0, .inl (cI, 12, .inl (fun j => iI ((q j : Nat) : Int))))]) rfl h) (fun H locs hP hz hk hS => ?_)
  have hD : va_D (inW [(m0, .inr (1, [.int th, .ref t0, .ref k0, .ref p0, .int (iI ((w : Nat) : Int))])), (t0, .inl (cI, 24, .inl (fun j => iI ((tb a0 a1 j : Nat) : Int)))), (k0, .inl (cI, 12, .inl (fun j => iI ((K j : Nat) : Int)))), (p0, .inl (cI, 12, .inl (fun j => iI ((q j : Nat) : Int))))]) [(m0, .inr (1, [.int (iI 0), .ref t0, .ref k0, .ref p0, .int (iI ((w : Nat) : Int))])), (t0, .inl (cI, 24, .inl (fun j => iI ((tb a0 a1 j : Nat) : Int)))), (k0, .inl (cI, 12, .inl (fun j => iI ((K j : Nat) : Int)))), (p0, .inl (cI, 12, .inl (fun j => iI ((q j : Nat) : Int))))] := va_D_same (w := [(m0, .inr (1, [.int th, .ref t0, .ref k0, .ref p0, .int (iI ((w : Nat) : Int))])), (t0, .inl (cI, 24, .inl (fun j => iI ((tb a0 a1 j : Nat) : Int)))), (k0, .inl (cI, 12, .inl (fun j => iI ((K j : Nat) : Int)))), (p0, .inl (cI, 12, .inl (fun j => iI ((q j : Nat) : Int))))]) rfl hD
  refine st_i (y := iI 1) (congrArg iI (bI_t (by decide))) ?_
  refine ib_if_ne (tgt := 33) hx hb dX1_write_28 (by decide) ⟨by omega, by omega⟩ (fun c_28 => ?_) (fun c_28 => absurd c_28 (by decide))
  refine lv_aload_n hx hb dX1_write_33 rfl (lv_at hl 0 rfl) ?_
  refine va_get (D := (dC, dI)) (ci := 1) (v := .ref p0) (C := RX1) (T := TX1) (N := 5) hx hb hts hinX hown hK hP 0 rfl rfl 3 (by decide) (hts (.fieldLink RX1 16 "ToneRowsModel" "phrase" "[I") (by decide +kernel)) (fun _ h9 => h9) rfl dX1_write_34 ?_
  refine lv_aload_n hx hb dX1_write_37 rfl (lv_at hl 0 rfl) ?_
  refine va_get (D := (dC, dI)) (ci := 1) (v := .int (iI ((w : Nat) : Int))) (C := RX1) (T := TX1) (N := 5) hx hb hts hinX hown hK hP 0 rfl rfl 4 (by decide) (hts (.fieldLink RX1 88 "ToneRowsModel" "written" "I") (by decide +kernel)) (fun _ h9 => h9) rfl dX1_write_38 ?_
  refine lv_iload_n hx hb dX1_write_41 rfl (lv_at hl 1 rfl) ?_
  refine ib_ast (f := fun j => iI ((q j : Nat) : Int)) (i := w) (x := iI ((t : Nat) : Int)) hx hb hK hP hD hS 3 0 (fun j => iI ((upq q w t j : Nat) : Int)) rfl rfl (by first | rfl | omega) (by omega) (by omega) (fun j hj => by unfold upq; split <;> rfl) dX1_write_42 (fun H locs hP hD hS => ?_)
  have hP : va_P (dC, dI) vwCl [(m0, .inr (1, [.int (iI 0), .ref t0, .ref k0, .ref p0, .int (iI ((w : Nat) : Int))])), (t0, .inl (cI, 24, .inl (fun j => iI ((tb a0 a1 j : Nat) : Int)))), (k0, .inl (cI, 12, .inl (fun j => iI ((K j : Nat) : Int)))), (p0, .inl (cI, 12, .inl (fun j => iI ((upq q w t j : Nat) : Int))))] H := hP
  have hD : va_D (inW [(m0, .inr (1, [.int th, .ref t0, .ref k0, .ref p0, .int (iI ((w : Nat) : Int))])), (t0, .inl (cI, 24, .inl (fun j => iI ((tb a0 a1 j : Nat) : Int)))), (k0, .inl (cI, 12, .inl (fun j => iI ((K j : Nat) : Int)))), (p0, .inl (cI, 12, .inl (fun j => iI ((q j : Nat) : Int))))]) [(m0, .inr (1, [.int (iI 0), .ref t0, .ref k0, .ref p0, .int (iI ((w : Nat) : Int))])), (t0, .inl (cI, 24, .inl (fun j => iI ((tb a0 a1 j : Nat) : Int)))), (k0, .inl (cI, 12, .inl (fun j => iI ((K j : Nat) : Int)))), (p0, .inl (cI, 12, .inl (fun j => iI ((upq q w t j : Nat) : Int))))] := hD
  refine lv_aload_n hx hb dX1_write_43 rfl (lv_at hl 0 rfl) ?_
  refine lv_dup hx hb dX1_write_44 rfl ?_
  refine va_get (D := (dC, dI)) (ci := 1) (v := .int (iI ((w : Nat) : Int))) (C := RX1) (T := TX1) (N := 5) hx hb hts hinX hown hK hP 0 rfl rfl 4 (by decide) (hts (.fieldLink RX1 88 "ToneRowsModel" "written" "I") (by decide +kernel)) (fun _ h9 => h9) rfl dX1_write_45 ?_
  refine ib_const hx hb dX1_write_48 ?_
  refine ib_add (z := ((w + 1 : Nat) : Int)) hx hb dX1_write_49 (by omega) ?_
  refine va_put (D := (dC, dI)) (ci := 1) (v := .int (iI ((w + 1 : Nat) : Int))) (ty := .int) (C := RX1) (T := TX1) (N := 5) hx hb hts hinX tyX1 tyX1_ok nmX1 hown hK hP hD hS 0 rfl rfl 4 (by decide) (hts (.fieldLink RX1 88 "ToneRowsModel" "written" "I") (by decide +kernel)) (fun _ h9 => h9) rfl (by decide +kernel) rfl rfl (Nat.le_of_ble_eq_true rfl) dX1_write_50 (fun H locs hP hD hS => ?_)
  have hP : va_P (dC, dI) vwCl [(m0, .inr (1, [.int (iI 0), .ref t0, .ref k0, .ref p0, .int (iI ((w + 1 : Nat) : Int))])), (t0, .inl (cI, 24, .inl (fun j => iI ((tb a0 a1 j : Nat) : Int)))), (k0, .inl (cI, 12, .inl (fun j => iI ((K j : Nat) : Int)))), (p0, .inl (cI, 12, .inl (fun j => iI ((upq q w t j : Nat) : Int))))] H := hP
  have hD : va_D (inW [(m0, .inr (1, [.int th, .ref t0, .ref k0, .ref p0, .int (iI ((w : Nat) : Int))])), (t0, .inl (cI, 24, .inl (fun j => iI ((tb a0 a1 j : Nat) : Int)))), (k0, .inl (cI, 12, .inl (fun j => iI ((K j : Nat) : Int)))), (p0, .inl (cI, 12, .inl (fun j => iI ((q j : Nat) : Int))))]) [(m0, .inr (1, [.int (iI 0), .ref t0, .ref k0, .ref p0, .int (iI ((w + 1 : Nat) : Int))])), (t0, .inl (cI, 24, .inl (fun j => iI ((tb a0 a1 j : Nat) : Int)))), (k0, .inl (cI, 12, .inl (fun j => iI ((K j : Nat) : Int)))), (p0, .inl (cI, 12, .inl (fun j => iI ((upq q w t j : Nat) : Int))))] := hD
  refine lv_aload_n hx hb dX1_write_53 rfl (lv_at hl 0 rfl) ?_
  refine va_get (D := (dC, dI)) (ci := 1) (v := .int (iI ((w + 1 : Nat) : Int))) (C := RX1) (T := TX1) (N := 5) hx hb hts hinX hown hK hP 0 rfl rfl 4 (by decide) (hts (.fieldLink RX1 88 "ToneRowsModel" "written" "I") (by decide +kernel)) (fun _ h9 => h9) rfl dX1_write_54 ?_
  exact W.iret hx hb hr (fun t ht _ => ⟨rfl, by rw [ht]; exact hP, hS.F ht⟩) hS.2.2 dX1_write_57

set_option maxHeartbeats 4000000 in
set_option maxRecDepth 100000 in
theorem mX1_write_x1 (l : Launch) (dC : Nat → ClassId) (dI : Nat → Nat → Nat) (cI : ClassId) (m0 t0 k0 p0 : Nat) (a0 a1 K q : Nat → Nat) (th : Int32) (w : Nat) (h0 : lt12 a0) (h1 : lt12 a1) (hw : w ≤ 12) (hq : ∀ i, i < w → q i < 12) (z0 : Int) (hz0 : inI z0) (hbad : ¬ (0 ≤ z0 ∧ z0 ≤ 11)) : wr l yX1_write wsX1_write { frames := 2, cells := 0, slots := 0, locals := 42 } [.ref m0, .int (iI z0)] (dC, dI) [(m0, .inr (1, [.int th, .ref t0, .ref k0, .ref p0, .int (iI ((w : Nat) : Int))])), (t0, .inl (cI, 24, .inl (fun j => iI ((tb a0 a1 j : Nat) : Int)))), (k0, .inl (cI, 12, .inl (fun j => iI ((K j : Nat) : Int)))), (p0, .inl (cI, 12, .inl (fun j => iI ((q j : Nat) : Int))))] [(cI, .int)] [(m0, .inr (1, [.int (iI 1), .ref t0, .ref k0, .ref p0, .int (iI ((w : Nat) : Int))])), (t0, .inl (cI, 24, .inl (fun j => iI ((tb a0 a1 j : Nat) : Int)))), (k0, .inl (cI, 12, .inl (fun j => iI ((K j : Nat) : Int)))), (p0, .inl (cI, 12, .inl (fun j => iI ((q j : Nat) : Int))))] (some (.int (iI 0))) := by
  refine Met.ofW (cc := cX1_write) (maxL := 2) (ret := (some .int)) (by decide) rfl ?_
  intro P0 e s m args below meth c s₁ B hml hv
  obtain ⟨rfl, hP, hK, hD0⟩ := hv
  have hx := B.exec
  have hb := B.bytes
  have hr := B.returns
  have hts := atoms_spec (ws := wsX1_write) B.pre
  have hown : s.vm.findClass RX1 = some m.cls := findClass_of_methodNamed B.named
  have hlocks := B.notSynchronized
  have hinX : ∀ w ∈ u_ws RX1 TX1 5, w ∈ wsX1_write := by decide +kernel
  have hD : va_D (inW [(m0, .inr (1, [.int th, .ref t0, .ref k0, .ref p0, .int (iI ((w : Nat) : Int))])), (t0, .inl (cI, 24, .inl (fun j => iI ((tb a0 a1 j : Nat) : Int)))), (k0, .inl (cI, 12, .inl (fun j => iI ((K j : Nat) : Int)))), (p0, .inl (cI, 12, .inl (fun j => iI ((q j : Nat) : Int))))]) [(m0, .inr (1, [.int th, .ref t0, .ref k0, .ref p0, .int (iI ((w : Nat) : Int))])), (t0, .inl (cI, 24, .inl (fun j => iI ((tb a0 a1 j : Nat) : Int)))), (k0, .inl (cI, 12, .inl (fun j => iI ((K j : Nat) : Int)))), (p0, .inl (cI, 12, .inl (fun j => iI ((q j : Nat) : Int))))] := va_D_in hD0
  have hS : va_S (inW [(m0, .inr (1, [.int th, .ref t0, .ref k0, .ref p0, .int (iI ((w : Nat) : Int))])), (t0, .inl (cI, 24, .inl (fun j => iI ((tb a0 a1 j : Nat) : Int)))), (k0, .inl (cI, 12, .inl (fun j => iI ((K j : Nat) : Int)))), (p0, .inl (cI, 12, .inl (fun j => iI ((q j : Nat) : Int))))]) s.heap s.heap [] := va_S.rf
  have hl := lv_entry ([.ref m0, .int (iI z0)]) (n := 2) (Nat.le_of_ble_eq_true rfl)
  rw [lg_entry_eq]
  generalize (lg_sl ([.ref m0, .int (iI z0)]) ++ List.replicate (2 - (lg_sl ([.ref m0, .int (iI z0)])).length) Slot.unset).toArray = ls at hl ⊢
  have hl : lv_has ls 2 [(0, .ref m0), (1, .int (iI z0))] := hl
  have hza0 := hz0.1
  have hzb0 := hz0.2
  refine lv_aload_n hx hb dX1_write_0 rfl (lv_at hl 0 rfl) ?_
  refine lv_iload_n hx hb dX1_write_1 rfl (lv_at hl 1 rfl) ?_
  refine rd_call (va_runS (As := [.int (iI z0)]) (rest := [.ref m0]) ⟨hx, hb, hml, hown, hts⟩ (mX1_isTone l z0 ⟨by omega, by omega⟩) (va_cwS 1 hts gX1_write_X1_isTone rfl rfl rfl hdX1_isTone ⟨Nat.le_of_ble_eq_true rfl, Nat.le_of_ble_eq_true rfl⟩) tt_pre rfl rfl hl.1 rfl (lv_room (Nat.le_of_ble_eq_true rfl)) dX1_write_2 ⟨Nat.le_of_ble_eq_true rfl, Nat.le_of_ble_eq_true rfl⟩) ?_
  refine bb_ne (tgt := 12) hx hb dX1_write_5 (by decide) (fun c_5 => absurd c_5 (by omega)) (fun c_5 => ?_)
  refine ib_const hx hb dX1_write_8 ?_
  refine lv_goto (tgt := 25) hx hb dX1_write_9 (by decide) ?_
  refine wr_call (va_runV (As := [.int (iI 1)]) (rest := []) ⟨hx, hb, hml, hown, hts⟩ (mX1_goesWell l dC dI cI m0 t0 k0 p0 a0 a1 K q th w h0 h1 hw hq 1 ⟨by omega, by omega⟩) (cwV 1 hts gX1_write_X1_goesWell rfl rfl rfl hvX1_goesWell ⟨Nat.le_of_ble_eq_true rfl, Nat.le_of_ble_eq_true rfl⟩) (bD_pre (ci := 1) (q0 := 0) hK hP hD rfl rfl rfl) rfl rfl hl.1 rfl (lv_room (Nat.le_of_ble_eq_true rfl)) dX1_write_25 ⟨Nat.le_of_ble_eq_true rfl, Nat.le_of_ble_eq_true rfl⟩) hS (fun q9 h => inW_same (w := [(m0, .inr (1, [.int th, .ref t0, .ref k0, .ref p0, .int (iI ((w : Nat) : Int))])), (t0, .inl (cI, 24, .inl (fun j => iI ((tb a0 a1 j : Nat) : Int)))), (k0, .inl (cI, 12, .inl (fun j => iI ((K j : Nat) : Int)))), (p0, .inl (cI, 12, .inl (fun j => iI ((q j : Nat) : Int))))]) (w' := [(m0, .inr (1, [.int th, .ref t0, .ref k0, .ref p0, .int (iI ((w : Nat) : Int))])), (t0, .inl (cI, 24, .inl (fun j => iI ((tb a0 a1 j : Nat) : Int)))), (k0, .inl (cI, 12, .inl (fun j => iI ((K j : Nat) : Int)))), (p0, .inl (cI, 12, .inl (fun j => iI ((q j : Nat) : Int))))]) rfl h) (fun H locs hP hz hk hS => ?_)
  have hD : va_D (inW [(m0, .inr (1, [.int th, .ref t0, .ref k0, .ref p0, .int (iI ((w : Nat) : Int))])), (t0, .inl (cI, 24, .inl (fun j => iI ((tb a0 a1 j : Nat) : Int)))), (k0, .inl (cI, 12, .inl (fun j => iI ((K j : Nat) : Int)))), (p0, .inl (cI, 12, .inl (fun j => iI ((q j : Nat) : Int))))]) [(m0, .inr (1, [.int (iI 1), .ref t0, .ref k0, .ref p0, .int (iI ((w : Nat) : Int))])), (t0, .inl (cI, 24, .inl (fun j => iI ((tb a0 a1 j : Nat) : Int)))), (k0, .inl (cI, 12, .inl (fun j => iI ((K j : Nat) : Int)))), (p0, .inl (cI, 12, .inl (fun j => iI ((q j : Nat) : Int))))] := va_D_same (w := [(m0, .inr (1, [.int th, .ref t0, .ref k0, .ref p0, .int (iI ((w : Nat) : Int))])), (t0, .inl (cI, 24, .inl (fun j => iI ((tb a0 a1 j : Nat) : Int)))), (k0, .inl (cI, 12, .inl (fun j => iI ((K j : Nat) : Int)))), (p0, .inl (cI, 12, .inl (fun j => iI ((q j : Nat) : Int))))]) rfl hD
  refine st_i (y := iI 0) (congrArg iI (bI_f (by decide))) ?_
  refine ib_if_ne (tgt := 33) hx hb dX1_write_28 (by decide) ⟨by omega, by omega⟩ (fun c_28 => absurd c_28 (by decide)) (fun c_28 => ?_)
  refine ib_const hx hb dX1_write_31 ?_
  exact W.iret hx hb hr (fun t ht _ => ⟨rfl, by rw [ht]; exact hP, hS.F ht⟩) hS.2.2 dX1_write_32

set_option maxHeartbeats 4000000 in
set_option maxRecDepth 100000 in
theorem mX1_write_x2 (l : Launch) (dC : Nat → ClassId) (dI : Nat → Nat → Nat) (cI : ClassId) (m0 t0 k0 p0 : Nat) (a0 a1 K q : Nat → Nat) (th : Int32) (w : Nat) (h0 : lt12 a0) (h1 : lt12 a1) (hw : w ≤ 12) (hq : ∀ i, i < w → q i < 12) (t : Nat) (ht : t < 12) (hwr : orN (wtB q t) w = true) : wr l yX1_write wsX1_write { frames := 2, cells := 0, slots := 0, locals := 42 } [.ref m0, .int (iI ((t : Nat) : Int))] (dC, dI) [(m0, .inr (1, [.int th, .ref t0, .ref k0, .ref p0, .int (iI ((w : Nat) : Int))])), (t0, .inl (cI, 24, .inl (fun j => iI ((tb a0 a1 j : Nat) : Int)))), (k0, .inl (cI, 12, .inl (fun j => iI ((K j : Nat) : Int)))), (p0, .inl (cI, 12, .inl (fun j => iI ((q j : Nat) : Int))))] [(cI, .int)] [(m0, .inr (1, [.int (iI 2), .ref t0, .ref k0, .ref p0, .int (iI ((w : Nat) : Int))])), (t0, .inl (cI, 24, .inl (fun j => iI ((tb a0 a1 j : Nat) : Int)))), (k0, .inl (cI, 12, .inl (fun j => iI ((K j : Nat) : Int)))), (p0, .inl (cI, 12, .inl (fun j => iI ((q j : Nat) : Int))))] (some (.int (iI 0))) := by
  refine Met.ofW (cc := cX1_write) (maxL := 2) (ret := (some .int)) (by decide) rfl ?_
  intro P0 e s m args below meth c s₁ B hml hv
  obtain ⟨rfl, hP, hK, hD0⟩ := hv
  have hx := B.exec
  have hb := B.bytes
  have hr := B.returns
  have hts := atoms_spec (ws := wsX1_write) B.pre
  have hown : s.vm.findClass RX1 = some m.cls := findClass_of_methodNamed B.named
  have hlocks := B.notSynchronized
  have hinX : ∀ w ∈ u_ws RX1 TX1 5, w ∈ wsX1_write := by decide +kernel
  have hD : va_D (inW [(m0, .inr (1, [.int th, .ref t0, .ref k0, .ref p0, .int (iI ((w : Nat) : Int))])), (t0, .inl (cI, 24, .inl (fun j => iI ((tb a0 a1 j : Nat) : Int)))), (k0, .inl (cI, 12, .inl (fun j => iI ((K j : Nat) : Int)))), (p0, .inl (cI, 12, .inl (fun j => iI ((q j : Nat) : Int))))]) [(m0, .inr (1, [.int th, .ref t0, .ref k0, .ref p0, .int (iI ((w : Nat) : Int))])), (t0, .inl (cI, 24, .inl (fun j => iI ((tb a0 a1 j : Nat) : Int)))), (k0, .inl (cI, 12, .inl (fun j => iI ((K j : Nat) : Int)))), (p0, .inl (cI, 12, .inl (fun j => iI ((q j : Nat) : Int))))] := va_D_in hD0
  have hS : va_S (inW [(m0, .inr (1, [.int th, .ref t0, .ref k0, .ref p0, .int (iI ((w : Nat) : Int))])), (t0, .inl (cI, 24, .inl (fun j => iI ((tb a0 a1 j : Nat) : Int)))), (k0, .inl (cI, 12, .inl (fun j => iI ((K j : Nat) : Int)))), (p0, .inl (cI, 12, .inl (fun j => iI ((q j : Nat) : Int))))]) s.heap s.heap [] := va_S.rf
  have hl := lv_entry ([.ref m0, .int (iI ((t : Nat) : Int))]) (n := 2) (Nat.le_of_ble_eq_true rfl)
  rw [lg_entry_eq]
  generalize (lg_sl ([.ref m0, .int (iI ((t : Nat) : Int))]) ++ List.replicate (2 - (lg_sl ([.ref m0, .int (iI ((t : Nat) : Int))])).length) Slot.unset).toArray = ls at hl ⊢
  have hl : lv_has ls 2 [(0, .ref m0), (1, .int (iI ((t : Nat) : Int)))] := hl
  refine lv_aload_n hx hb dX1_write_0 rfl (lv_at hl 0 rfl) ?_
  refine lv_iload_n hx hb dX1_write_1 rfl (lv_at hl 1 rfl) ?_
  refine rd_call (va_runS (As := [.int (iI ((t : Nat) : Int))]) (rest := [.ref m0]) ⟨hx, hb, hml, hown, hts⟩ (mX1_isTone l ((t : Nat) : Int) ⟨by omega, by omega⟩) (va_cwS 1 hts gX1_write_X1_isTone rfl rfl rfl hdX1_isTone ⟨Nat.le_of_ble_eq_true rfl, Nat.le_of_ble_eq_true rfl⟩) tt_pre rfl rfl hl.1 rfl (lv_room (Nat.le_of_ble_eq_true rfl)) dX1_write_2 ⟨Nat.le_of_ble_eq_true rfl, Nat.le_of_ble_eq_true rfl⟩) ?_
  refine bb_ne (tgt := 12) hx hb dX1_write_5 (by decide) (fun c_5 => ?_) (fun c_5 => absurd c_5 (by omega))
  refine lv_aload_n hx hb dX1_write_12 rfl (lv_at hl 0 rfl) ?_
  refine lv_iload_n hx hb dX1_write_13 rfl (lv_at hl 1 rfl) ?_
  refine rd_call (va_runV (As := [.int (iI ((t : Nat) : Int))]) (rest := [.ref m0]) ⟨hx, hb, hml, hown, hts⟩ (mX1_isWritten l dC dI cI m0 t0 k0 p0 a0 a1 K q th w h0 h1 hw hq t (by omega)) (cwV 1 hts gX1_write_X1_isWritten rfl rfl rfl hvX1_isWritten ⟨Nat.le_of_ble_eq_true rfl, Nat.le_of_ble_eq_true rfl⟩) (bW_pre (ci := 1) (q0 := 0) hK hP rfl rfl rfl) rfl rfl hl.1 rfl (lv_room (Nat.le_of_ble_eq_true rfl)) dX1_write_14 ⟨Nat.le_of_ble_eq_true rfl, Nat.le_of_ble_eq_true rfl⟩) ?_
  refine bb_eq (tgt := 24) hx hb dX1_write_17 (by decide) (fun c_17 => absurd c_17 (fun q9 => q9 hwr)) (fun c_17 => ?_)
  refine ib_const hx hb dX1_write_20 ?_
  refine lv_goto (tgt := 25) hx hb dX1_write_21 (by decide) ?_
  refine wr_call (va_runV (As := [.int (iI 2)]) (rest := []) ⟨hx, hb, hml, hown, hts⟩ (mX1_goesWell l dC dI cI m0 t0 k0 p0 a0 a1 K q th w h0 h1 hw hq 2 ⟨by omega, by omega⟩) (cwV 1 hts gX1_write_X1_goesWell rfl rfl rfl hvX1_goesWell ⟨Nat.le_of_ble_eq_true rfl, Nat.le_of_ble_eq_true rfl⟩) (bD_pre (ci := 1) (q0 := 0) hK hP hD rfl rfl rfl) rfl rfl hl.1 rfl (lv_room (Nat.le_of_ble_eq_true rfl)) dX1_write_25 ⟨Nat.le_of_ble_eq_true rfl, Nat.le_of_ble_eq_true rfl⟩) hS (fun q9 h => inW_same (w := [(m0, .inr (1, [.int th, .ref t0, .ref k0, .ref p0, .int (iI ((w : Nat) : Int))])), (t0, .inl (cI, 24, .inl (fun j => iI ((tb a0 a1 j : Nat) : Int)))), (k0, .inl (cI, 12, .inl (fun j => iI ((K j : Nat) : Int)))), (p0, .inl (cI, 12, .inl (fun j => iI ((q j : Nat) : Int))))]) (w' := [(m0, .inr (1, [.int th, .ref t0, .ref k0, .ref p0, .int (iI ((w : Nat) : Int))])), (t0, .inl (cI, 24, .inl (fun j => iI ((tb a0 a1 j : Nat) : Int)))), (k0, .inl (cI, 12, .inl (fun j => iI ((K j : Nat) : Int)))), (p0, .inl (cI, 12, .inl (fun j => iI ((q j : Nat) : Int))))]) rfl h) (fun H locs hP hz hk hS => ?_)
  have hD : va_D (inW [(m0, .inr (1, [.int th, .ref t0, .ref k0, .ref p0, .int (iI ((w : Nat) : Int))])), (t0, .inl (cI, 24, .inl (fun j => iI ((tb a0 a1 j : Nat) : Int)))), (k0, .inl (cI, 12, .inl (fun j => iI ((K j : Nat) : Int)))), (p0, .inl (cI, 12, .inl (fun j => iI ((q j : Nat) : Int))))]) [(m0, .inr (1, [.int (iI 2), .ref t0, .ref k0, .ref p0, .int (iI ((w : Nat) : Int))])), (t0, .inl (cI, 24, .inl (fun j => iI ((tb a0 a1 j : Nat) : Int)))), (k0, .inl (cI, 12, .inl (fun j => iI ((K j : Nat) : Int)))), (p0, .inl (cI, 12, .inl (fun j => iI ((q j : Nat) : Int))))] := va_D_same (w := [(m0, .inr (1, [.int th, .ref t0, .ref k0, .ref p0, .int (iI ((w : Nat) : Int))])), (t0, .inl (cI, 24, .inl (fun j => iI ((tb a0 a1 j : Nat) : Int)))), (k0, .inl (cI, 12, .inl (fun j => iI ((K j : Nat) : Int)))), (p0, .inl (cI, 12, .inl (fun j => iI ((q j : Nat) : Int))))]) rfl hD
  refine st_i (y := iI 0) (congrArg iI (bI_f (by decide))) ?_
  refine ib_if_ne (tgt := 33) hx hb dX1_write_28 (by decide) ⟨by omega, by omega⟩ (fun c_28 => absurd c_28 (by decide)) (fun c_28 => ?_)
  refine ib_const hx hb dX1_write_31 ?_
  exact W.iret hx hb hr (fun t ht _ => ⟨rfl, by rw [ht]; exact hP, hS.F ht⟩) hS.2.2 dX1_write_32

set_option maxHeartbeats 4000000 in
set_option maxRecDepth 100000 in
theorem mX1_erase_ok (l : Launch) (dC : Nat → ClassId) (dI : Nat → Nat → Nat) (cI : ClassId) (m0 t0 k0 p0 : Nat) (a0 a1 K q : Nat → Nat) (th : Int32) (w : Nat) (h0 : lt12 a0) (h1 : lt12 a1) (hw : w ≤ 12) (hq : ∀ i, i < w → q i < 12)  : wr l yX1_erase wsX1_erase { frames := 0, cells := 0, slots := 0, locals := 0 } [.ref m0] (dC, dI) [(m0, .inr (1, [.int th, .ref t0, .ref k0, .ref p0, .int (iI ((w : Nat) : Int))])), (t0, .inl (cI, 24, .inl (fun j => iI ((tb a0 a1 j : Nat) : Int)))), (k0, .inl (cI, 12, .inl (fun j => iI ((K j : Nat) : Int)))), (p0, .inl (cI, 12, .inl (fun j => iI ((q j : Nat) : Int))))] [(cI, .int)] [(m0, .inr (1, [.int (iI 0), .ref t0, .ref k0, .ref p0, .int (iI 0)])), (t0, .inl (cI, 24, .inl (fun j => iI ((tb a0 a1 j : Nat) : Int)))), (k0, .inl (cI, 12, .inl (fun j => iI ((K j : Nat) : Int)))), (p0, .inl (cI, 12, .inl (fun j => iI ((q j : Nat) : Int))))] (some (.int (iI ((w : Nat) : Int)))) := by
  refine Met.ofW (cc := cX1_erase) (maxL := 2) (ret := (some .int)) (by decide) rfl ?_
  intro P0 e s m args below meth c s₁ B hml hv
  obtain ⟨rfl, hP, hK, hD0⟩ := hv
  have hx := B.exec
  have hb := B.bytes
  have hr := B.returns
  have hts := atoms_spec (ws := wsX1_erase) B.pre
  have hown : s.vm.findClass RX1 = some m.cls := findClass_of_methodNamed B.named
  have hlocks := B.notSynchronized
  have hinX : ∀ w ∈ u_ws RX1 TX1 5, w ∈ wsX1_erase := by decide +kernel
  have hD : va_D (inW [(m0, .inr (1, [.int th, .ref t0, .ref k0, .ref p0, .int (iI ((w : Nat) : Int))])), (t0, .inl (cI, 24, .inl (fun j => iI ((tb a0 a1 j : Nat) : Int)))), (k0, .inl (cI, 12, .inl (fun j => iI ((K j : Nat) : Int)))), (p0, .inl (cI, 12, .inl (fun j => iI ((q j : Nat) : Int))))]) [(m0, .inr (1, [.int th, .ref t0, .ref k0, .ref p0, .int (iI ((w : Nat) : Int))])), (t0, .inl (cI, 24, .inl (fun j => iI ((tb a0 a1 j : Nat) : Int)))), (k0, .inl (cI, 12, .inl (fun j => iI ((K j : Nat) : Int)))), (p0, .inl (cI, 12, .inl (fun j => iI ((q j : Nat) : Int))))] := va_D_in hD0
  have hS : va_S (inW [(m0, .inr (1, [.int th, .ref t0, .ref k0, .ref p0, .int (iI ((w : Nat) : Int))])), (t0, .inl (cI, 24, .inl (fun j => iI ((tb a0 a1 j : Nat) : Int)))), (k0, .inl (cI, 12, .inl (fun j => iI ((K j : Nat) : Int)))), (p0, .inl (cI, 12, .inl (fun j => iI ((q j : Nat) : Int))))]) s.heap s.heap [] := va_S.rf
  have hl := lv_entry ([.ref m0]) (n := 2) (Nat.le_of_ble_eq_true rfl)
  rw [lg_entry_eq]
  generalize (lg_sl ([.ref m0]) ++ List.replicate (2 - (lg_sl ([.ref m0])).length) Slot.unset).toArray = ls at hl ⊢
  have hl : lv_has ls 2 [(0, .ref m0)] := hl
  refine lv_aload_n hx hb dX1_erase_0 rfl (lv_at hl 0 rfl) ?_
  refine ib_const hx hb dX1_erase_1 ?_
  refine va_put (D := (dC, dI)) (ci := 1) (v := .int (iI 0)) (ty := .int) (C := RX1) (T := TX1) (N := 5) hx hb hts hinX tyX1 tyX1_ok nmX1 hown hK hP hD hS 0 rfl rfl 0 (by decide) (hts (.fieldLink RX1 19 "ToneRowsModel" "thrown" "I") (by decide +kernel)) (fun _ h9 => h9) rfl (by decide +kernel) rfl rfl (Nat.le_of_ble_eq_true rfl) dX1_erase_2 (fun H locs hP hD hS => ?_)
  have hP : va_P (dC, dI) vwCl [(m0, .inr (1, [.int (iI 0), .ref t0, .ref k0, .ref p0, .int (iI ((w : Nat) : Int))])), (t0, .inl (cI, 24, .inl (fun j => iI ((tb a0 a1 j : Nat) : Int)))), (k0, .inl (cI, 12, .inl (fun j => iI ((K j : Nat) : Int)))), (p0, .inl (cI, 12, .inl (fun j => iI ((q j : Nat) : Int))))] H := hP
  have hD : va_D (inW [(m0, .inr (1, [.int th, .ref t0, .ref k0, .ref p0, .int (iI ((w : Nat) : Int))])), (t0, .inl (cI, 24, .inl (fun j => iI ((tb a0 a1 j : Nat) : Int)))), (k0, .inl (cI, 12, .inl (fun j => iI ((K j : Nat) : Int)))), (p0, .inl (cI, 12, .inl (fun j => iI ((q j : Nat) : Int))))]) [(m0, .inr (1, [.int (iI 0), .ref t0, .ref k0, .ref p0, .int (iI ((w : Nat) : Int))])), (t0, .inl (cI, 24, .inl (fun j => iI ((tb a0 a1 j : Nat) : Int)))), (k0, .inl (cI, 12, .inl (fun j => iI ((K j : Nat) : Int)))), (p0, .inl (cI, 12, .inl (fun j => iI ((q j : Nat) : Int))))] := hD
  refine lv_aload_n hx hb dX1_erase_5 rfl (lv_at hl 0 rfl) ?_
  refine va_get (D := (dC, dI)) (ci := 1) (v := .int (iI ((w : Nat) : Int))) (C := RX1) (T := TX1) (N := 5) hx hb hts hinX hown hK hP 0 rfl rfl 4 (by decide) (hts (.fieldLink RX1 88 "ToneRowsModel" "written" "I") (by decide +kernel)) (fun _ h9 => h9) rfl dX1_erase_6 ?_
  refine lv_istore_n (lv' := [(1, .int (iI ((w : Nat) : Int))), (0, .ref m0)]) hx hb dX1_erase_9 rfl hl (by decide) rfl (fun ls hl => ?_)
  refine lv_aload_n hx hb dX1_erase_10 rfl (lv_at hl 1 rfl) ?_
  refine ib_const hx hb dX1_erase_11 ?_
  refine va_put (D := (dC, dI)) (ci := 1) (v := .int (iI 0)) (ty := .int) (C := RX1) (T := TX1) (N := 5) hx hb hts hinX tyX1 tyX1_ok nmX1 hown hK hP hD hS 0 rfl rfl 4 (by decide) (hts (.fieldLink RX1 88 "ToneRowsModel" "written" "I") (by decide +kernel)) (fun _ h9 => h9) rfl (by decide +kernel) rfl rfl (Nat.le_of_ble_eq_true rfl) dX1_erase_12 (fun H locs hP hD hS => ?_)
  have hP : va_P (dC, dI) vwCl [(m0, .inr (1, [.int (iI 0), .ref t0, .ref k0, .ref p0, .int (iI 0)])), (t0, .inl (cI, 24, .inl (fun j => iI ((tb a0 a1 j : Nat) : Int)))), (k0, .inl (cI, 12, .inl (fun j => iI ((K j : Nat) : Int)))), (p0, .inl (cI, 12, .inl (fun j => iI ((q j : Nat) : Int))))] H := hP
  have hD : va_D (inW [(m0, .inr (1, [.int th, .ref t0, .ref k0, .ref p0, .int (iI ((w : Nat) : Int))])), (t0, .inl (cI, 24, .inl (fun j => iI ((tb a0 a1 j : Nat) : Int)))), (k0, .inl (cI, 12, .inl (fun j => iI ((K j : Nat) : Int)))), (p0, .inl (cI, 12, .inl (fun j => iI ((q j : Nat) : Int))))]) [(m0, .inr (1, [.int (iI 0), .ref t0, .ref k0, .ref p0, .int (iI 0)])), (t0, .inl (cI, 24, .inl (fun j => iI ((tb a0 a1 j : Nat) : Int)))), (k0, .inl (cI, 12, .inl (fun j => iI ((K j : Nat) : Int)))), (p0, .inl (cI, 12, .inl (fun j => iI ((q j : Nat) : Int))))] := hD
  refine lv_iload_n hx hb dX1_erase_15 rfl (lv_at hl 0 rfl) ?_
  exact W.iret hx hb hr (fun t ht _ => ⟨rfl, by rw [ht]; exact hP, hS.F ht⟩) hS.2.2 dX1_erase_16

set_option maxHeartbeats 4000000 in
set_option maxRecDepth 100000 in
theorem mX1_formsWithPhrase_ok (l : Launch) (dC : Nat → ClassId) (dI : Nat → Nat → Nat) (cI : ClassId) (m0 t0 k0 p0 : Nat) (a0 a1 K q : Nat → Nat) (th : Int32) (w : Nat) (h0 : lt12 a0) (h1 : lt12 a1) (hw : w ≤ 12) (hq : ∀ i, i < w → q i < 12) (r : Nat) (hr9 : r < 2) : wr l yX1_formsWithPhrase wsX1_formsWithPhrase { frames := 3, cells := 0, slots := 0, locals := 73 } [.ref m0, .int (iI ((r : Nat) : Int))] (dC, dI) [(m0, .inr (1, [.int th, .ref t0, .ref k0, .ref p0, .int (iI ((w : Nat) : Int))])), (t0, .inl (cI, 24, .inl (fun j => iI ((tb a0 a1 j : Nat) : Int)))), (k0, .inl (cI, 12, .inl (fun j => iI ((K j : Nat) : Int)))), (p0, .inl (cI, 12, .inl (fun j => iI ((q j : Nat) : Int))))] [(cI, .int)] [(m0, .inr (1, [.int (iI 0), .ref t0, .ref k0, .ref p0, .int (iI ((w : Nat) : Int))])), (t0, .inl (cI, 24, .inl (fun j => iI ((tb a0 a1 j : Nat) : Int)))), (k0, .inl (cI, 12, .inl (fun j => iI ((K j : Nat) : Int)))), (p0, .inl (cI, 12, .inl (fun j => iI ((q j : Nat) : Int))))] (some (.long (fpL (rw_ r a0 a1) q w 48))) := by
  refine Met.ofW (cc := cX1_formsWithPhrase) (maxL := 5) (ret := (some .long)) (by decide) rfl ?_
  intro P0 e s m args below meth c s₁ B hml hv
  obtain ⟨rfl, hP, hK, hD0⟩ := hv
  have hx := B.exec
  have hb := B.bytes
  have hr := B.returns
  have hts := atoms_spec (ws := wsX1_formsWithPhrase) B.pre
  have hown : s.vm.findClass RX1 = some m.cls := findClass_of_methodNamed B.named
  have hlocks := B.notSynchronized
  have hinX : ∀ w ∈ u_ws RX1 TX1 5, w ∈ wsX1_formsWithPhrase := by decide +kernel
  have hD : va_D (inW [(m0, .inr (1, [.int th, .ref t0, .ref k0, .ref p0, .int (iI ((w : Nat) : Int))])), (t0, .inl (cI, 24, .inl (fun j => iI ((tb a0 a1 j : Nat) : Int)))), (k0, .inl (cI, 12, .inl (fun j => iI ((K j : Nat) : Int)))), (p0, .inl (cI, 12, .inl (fun j => iI ((q j : Nat) : Int))))]) [(m0, .inr (1, [.int th, .ref t0, .ref k0, .ref p0, .int (iI ((w : Nat) : Int))])), (t0, .inl (cI, 24, .inl (fun j => iI ((tb a0 a1 j : Nat) : Int)))), (k0, .inl (cI, 12, .inl (fun j => iI ((K j : Nat) : Int)))), (p0, .inl (cI, 12, .inl (fun j => iI ((q j : Nat) : Int))))] := va_D_in hD0
  have hS : va_S (inW [(m0, .inr (1, [.int th, .ref t0, .ref k0, .ref p0, .int (iI ((w : Nat) : Int))])), (t0, .inl (cI, 24, .inl (fun j => iI ((tb a0 a1 j : Nat) : Int)))), (k0, .inl (cI, 12, .inl (fun j => iI ((K j : Nat) : Int)))), (p0, .inl (cI, 12, .inl (fun j => iI ((q j : Nat) : Int))))]) s.heap s.heap [] := va_S.rf
  have hl := lv_entry ([.ref m0, .int (iI ((r : Nat) : Int))]) (n := 5) (Nat.le_of_ble_eq_true rfl)
  rw [lg_entry_eq]
  generalize (lg_sl ([.ref m0, .int (iI ((r : Nat) : Int))]) ++ List.replicate (5 - (lg_sl ([.ref m0, .int (iI ((r : Nat) : Int))])).length) Slot.unset).toArray = ls at hl ⊢
  have hl : lv_has ls 5 [(0, .ref m0), (1, .int (iI ((r : Nat) : Int)))] := hl
  refine lv_aload_n hx hb dX1_formsWithPhrase_0 rfl (lv_at hl 0 rfl) ?_
  refine lv_iload_n hx hb dX1_formsWithPhrase_1 rfl (lv_at hl 1 rfl) ?_
  refine rd_call (va_runS (As := [.int (iI ((r : Nat) : Int))]) (rest := [.ref m0]) ⟨hx, hb, hml, hown, hts⟩ (mX1_isRow l ((r : Nat) : Int) ⟨by omega, by omega⟩) (va_cwS 1 hts gX1_formsWithPhrase_X1_isRow rfl rfl rfl hdX1_isRow ⟨Nat.le_of_ble_eq_true rfl, Nat.le_of_ble_eq_true rfl⟩) tt_pre rfl rfl hl.1 rfl (lv_room (Nat.le_of_ble_eq_true rfl)) dX1_formsWithPhrase_2 ⟨Nat.le_of_ble_eq_true rfl, Nat.le_of_ble_eq_true rfl⟩) ?_
  refine bb_eq (tgt := 12) hx hb dX1_formsWithPhrase_5 (by decide) (fun c_5 => absurd c_5 (by omega)) (fun c_5 => ?_)
  refine ib_const hx hb dX1_formsWithPhrase_8 ?_
  refine lv_goto (tgt := 13) hx hb dX1_formsWithPhrase_9 (by decide) ?_
  refine wr_call (va_runV (As := [.int (iI 0)]) (rest := []) ⟨hx, hb, hml, hown, hts⟩ (mX1_goesWell l dC dI cI m0 t0 k0 p0 a0 a1 K q th w h0 h1 hw hq 0 ⟨by omega, by omega⟩) (cwV 1 hts gX1_formsWithPhrase_X1_goesWell rfl rfl rfl hvX1_goesWell ⟨Nat.le_of_ble_eq_true rfl, Nat.le_of_ble_eq_true rfl⟩) (bD_pre (ci := 1) (q0 := 0) hK hP hD rfl rfl rfl) rfl rfl hl.1 rfl (lv_room (Nat.le_of_ble_eq_true rfl)) dX1_formsWithPhrase_13 ⟨Nat.le_of_ble_eq_true rfl, Nat.le_of_ble_eq_true rfl⟩) hS (fun q9 h => inW_same (w := [(m0, .inr (1, [.int th, .ref t0, .ref k0, .ref p0, .int (iI ((w : Nat) : Int))])), (t0, .inl (cI, 24, .inl (fun j => iI ((tb a0 a1 j : Nat) : Int)))), (k0, .inl (cI, 12, .inl (fun j => iI ((K j : Nat) : Int)))), (p0, .inl (cI, 12, .inl (fun j => iI ((q j : Nat) : Int))))]) (w' := [(m0, .inr (1, [.int th, .ref t0, .ref k0, .ref p0, .int (iI ((w : Nat) : Int))])), (t0, .inl (cI, 24, .inl (fun j => iI ((tb a0 a1 j : Nat) : Int)))), (k0, .inl (cI, 12, .inl (fun j => iI ((K j : Nat) : Int)))), (p0, .inl (cI, 12, .inl (fun j => iI ((q j : Nat) : Int))))]) rfl h) (fun H locs hP hz hk hS => ?_)
  have hD : va_D (inW [(m0, .inr (1, [.int th, .ref t0, .ref k0, .ref p0, .int (iI ((w : Nat) : Int))])), (t0, .inl (cI, 24, .inl (fun j => iI ((tb a0 a1 j : Nat) : Int)))), (k0, .inl (cI, 12, .inl (fun j => iI ((K j : Nat) : Int)))), (p0, .inl (cI, 12, .inl (fun j => iI ((q j : Nat) : Int))))]) [(m0, .inr (1, [.int (iI 0), .ref t0, .ref k0, .ref p0, .int (iI ((w : Nat) : Int))])), (t0, .inl (cI, 24, .inl (fun j => iI ((tb a0 a1 j : Nat) : Int)))), (k0, .inl (cI, 12, .inl (fun j => iI ((K j : Nat) : Int)))), (p0, .inl (cI, 12, .inl (fun j => iI ((q j : Nat) : Int))))] := va_D_same (w := [(m0, .inr (1, [.int th, .ref t0, .ref k0, .ref p0, .int (iI ((w : Nat) : Int))])), (t0, .inl (cI, 24, .inl (fun j => iI ((tb a0 a1 j : Nat) : Int)))), (k0, .inl (cI, 12, .inl (fun j => iI ((K j : Nat) : Int)))), (p0, .inl (cI, 12, .inl (fun j => iI ((q j : Nat) : Int))))]) rfl hD
  refine st_i (y := iI 1) (congrArg iI (bI_t (by decide))) ?_
  refine ib_if_ne (tgt := 21) hx hb dX1_formsWithPhrase_16 (by decide) ⟨by omega, by omega⟩ (fun c_16 => ?_) (fun c_16 => absurd c_16 (by decide))
  refine lv_lconst (v := 0) hx hb dX1_formsWithPhrase_21 (by decide) ?_
  refine lv_lstore_n (lv' := [(2, .long (0 : Int64)), (0, .ref m0), (1, .int (iI ((r : Nat) : Int)))]) hx hb dX1_formsWithPhrase_22 rfl hl (by decide) rfl (fun ls hl => ?_)
  refine ib_const hx hb dX1_formsWithPhrase_23 ?_
  refine lv_istore (lv' := [(4, .int (iI 0)), (2, .long (0 : Int64)), (0, .ref m0), (1, .int (iI ((r : Nat) : Int)))]) hx hb dX1_formsWithPhrase_24 hl (by decide) rfl (fun ls hl => ?_)
  have lp_26_1 : ∀ (j n : Nat), n + j = 48 → ∀ ls : Array Slot, lv_has ls 5 [(0, .ref m0), (1, .int (iI ((r : Nat) : Int))), (2, .long (fpL (rw_ r a0 a1) q w n)), (4, .int (iI ((n : Nat) : Int)))] → W P0 l e (headSpec wsX1_formsWithPhrase { frames := 3, cells := 0, slots := 0, locals := 73 }).room s m ([.ref m0, .int (iI ((r : Nat) : Int))] : List Value).toArray below meth c H locs 0 0 (MQ below (wrQ (dC, dI) (inW [(m0, .inr (1, [.int th, .ref t0, .ref k0, .ref p0, .int (iI ((w : Nat) : Int))])), (t0, .inl (cI, 24, .inl (fun j => iI ((tb a0 a1 j : Nat) : Int)))), (k0, .inl (cI, 12, .inl (fun j => iI ((K j : Nat) : Int)))), (p0, .inl (cI, 12, .inl (fun j => iI ((q j : Nat) : Int))))]) [(m0, .inr (1, [.int (iI 0), .ref t0, .ref k0, .ref p0, .int (iI ((w : Nat) : Int))])), (t0, .inl (cI, 24, .inl (fun j => iI ((tb a0 a1 j : Nat) : Int)))), (k0, .inl (cI, 12, .inl (fun j => iI ((K j : Nat) : Int)))), (p0, .inl (cI, 12, .inl (fun j => iI ((q j : Nat) : Int))))] (some (.long (fpL (rw_ r a0 a1) q w 48)))) ([.ref m0, .int (iI ((r : Nat) : Int))] : List Value).toArray s 0 0 (inW [(m0, .inr (1, [.int th, .ref t0, .ref k0, .ref p0, .int (iI ((w : Nat) : Int))])), (t0, .inl (cI, 24, .inl (fun j => iI ((tb a0 a1 j : Nat) : Int)))), (k0, .inl (cI, 12, .inl (fun j => iI ((K j : Nat) : Int)))), (p0, .inl (cI, 12, .inl (fun j => iI ((q j : Nat) : Int))))])) (F0 m 26 ls []) := by
    intro j
    induction j with
    | zero =>
      intro n hn_26  ls hl
      refine lv_iload hx hb dX1_formsWithPhrase_26 (lv_at hl 3 rfl) ?_
      refine ib_bi hx hb dX1_formsWithPhrase_28 (by decide) ?_
      refine ib_icmp_ge (tgt := 61) hx hb dX1_formsWithPhrase_30 (by decide) ⟨by omega, by omega⟩ ⟨by omega, by omega⟩ (fun c_30 => ?_) (fun c_30 => absurd c_30 (by omega))
      refine lv_lload_n hx hb dX1_formsWithPhrase_61 rfl (lv_at hl 2 rfl) ?_
      refine st_l (y := fpL (rw_ r a0 a1) q w 48) (congrArg (fpL (rw_ r a0 a1) q w) (show n = 48 by omega)) ?_
      exact W.lret hx hb hr (fun t ht _ => ⟨rfl, by rw [ht]; exact hP, hS.F ht⟩) hS.2.2 dX1_formsWithPhrase_62
    | succ j ih_26_1 =>
      intro n hn_26  ls hl
      refine lv_iload hx hb dX1_formsWithPhrase_26 (lv_at hl 3 rfl) ?_
      refine ib_bi hx hb dX1_formsWithPhrase_28 (by decide) ?_
      refine ib_icmp_ge (tgt := 61) hx hb dX1_formsWithPhrase_30 (by decide) ⟨by omega, by omega⟩ ⟨by omega, by omega⟩ (fun c_30 => absurd c_30 (by omega)) (fun c_30 => ?_)
      refine lv_lload_n hx hb dX1_formsWithPhrase_33 rfl (lv_at hl 2 rfl) ?_
      refine lv_aload_n hx hb dX1_formsWithPhrase_34 rfl (lv_at hl 0 rfl) ?_
      refine lv_iload_n hx hb dX1_formsWithPhrase_35 rfl (lv_at hl 1 rfl) ?_
      refine lv_iload hx hb dX1_formsWithPhrase_36 (lv_at hl 3 rfl) ?_
      refine rd_call (va_runV (As := [.int (iI ((r : Nat) : Int)), .int (iI ((n : Nat) : Int))]) (rest := [.long (fpL (rw_ r a0 a1) q w n)]) ⟨hx, hb, hml, hown, hts⟩ (mX1_placeIn l dC dI cI m0 t0 k0 p0 a0 a1 K q (iI 0) w h0 h1 hw hq r n (by omega) (by omega)) (cwV 2 hts gX1_formsWithPhrase_X1_placeIn rfl rfl rfl hvX1_placeIn ⟨Nat.le_of_ble_eq_true rfl, Nat.le_of_ble_eq_true rfl⟩) (bW_pre (ci := 1) (q0 := 0) hK hP rfl rfl rfl) rfl rfl hl.1 rfl (lv_room (Nat.le_of_ble_eq_true rfl)) dX1_formsWithPhrase_38 ⟨Nat.le_of_ble_eq_true rfl, Nat.le_of_ble_eq_true rfl⟩) ?_
      have hpl_38 := plF_in (rw_ r a0 a1) q n w
      refine ib_const hx hb dX1_formsWithPhrase_41 ?_
      refine ib_icmp_ne (tgt := 49) hx hb dX1_formsWithPhrase_42 (by decide) ⟨by omega, by omega⟩ ⟨by omega, by omega⟩ (fun c_42 => ?_) (fun c_42 => ?_)
      · skip
        refine lv_lconst (v := 1) hx hb dX1_formsWithPhrase_49 (by decide) ?_
        refine lv_iload hx hb dX1_formsWithPhrase_50 (lv_at hl 3 rfl) ?_
        refine lv_lshl hx hb dX1_formsWithPhrase_52 rfl ?_
        refine st_l (y := bitL n) (rfl) ?_
        refine lv_lor hx hb dX1_formsWithPhrase_53 ?_
        refine lv_lstore_n (lv' := [(2, .long ((fpL (rw_ r a0 a1) q w n) ||| (bitL n))), (0, .ref m0), (1, .int (iI ((r : Nat) : Int))), (4, .int (iI ((n : Nat) : Int)))]) hx hb dX1_formsWithPhrase_54 rfl hl (by decide) rfl (fun ls hl => ?_)
        refine lv_iinc (v := iI ((n + 1 : Nat) : Int)) (lv' := [(4, .int (iI ((n + 1 : Nat) : Int))), (2, .long ((fpL (rw_ r a0 a1) q w n) ||| (bitL n))), (0, .ref m0), (1, .int (iI ((r : Nat) : Int)))]) hx hb dX1_formsWithPhrase_55 hl (k := 3) rfl (iI_inc (by omega)) (by decide) rfl (fun ls hl => ?_)
        refine lv_goto (tgt := 26) hx hb dX1_formsWithPhrase_58 (by decide) ?_
        have hl : lv_has ls 5 [(4, .int (iI ((n + 1 : Nat) : Int))), (2, .long (fpL (rw_ r a0 a1) q w (n + 1))), (0, .ref m0), (1, .int (iI ((r : Nat) : Int)))] := by
          have e9 : (fpL (rw_ r a0 a1) q w n) ||| (bitL n) = fpL (rw_ r a0 a1) q w (n + 1) := (if_neg c_42).symm
          rw [← e9]; exact hl
        exact ih_26_1 (n + 1) (by omega)  _ (lv_sub hl [2, 3, 1, 0] rfl)
      · skip
        refine lv_lconst (v := 0) hx hb dX1_formsWithPhrase_45 (by decide) ?_
        refine lv_goto (tgt := 53) hx hb dX1_formsWithPhrase_46 (by decide) ?_
        refine lv_lor hx hb dX1_formsWithPhrase_53 ?_
        refine lv_lstore_n (lv' := [(2, .long ((fpL (rw_ r a0 a1) q w n) ||| (0 : Int64))), (0, .ref m0), (1, .int (iI ((r : Nat) : Int))), (4, .int (iI ((n : Nat) : Int)))]) hx hb dX1_formsWithPhrase_54 rfl hl (by decide) rfl (fun ls hl => ?_)
        refine lv_iinc (v := iI ((n + 1 : Nat) : Int)) (lv' := [(4, .int (iI ((n + 1 : Nat) : Int))), (2, .long ((fpL (rw_ r a0 a1) q w n) ||| (0 : Int64))), (0, .ref m0), (1, .int (iI ((r : Nat) : Int)))]) hx hb dX1_formsWithPhrase_55 hl (k := 3) rfl (iI_inc (by omega)) (by decide) rfl (fun ls hl => ?_)
        refine lv_goto (tgt := 26) hx hb dX1_formsWithPhrase_58 (by decide) ?_
        have hl : lv_has ls 5 [(4, .int (iI ((n + 1 : Nat) : Int))), (2, .long (fpL (rw_ r a0 a1) q w (n + 1))), (0, .ref m0), (1, .int (iI ((r : Nat) : Int)))] := by
          have e9 : (fpL (rw_ r a0 a1) q w n) ||| (0 : Int64) = fpL (rw_ r a0 a1) q w (n + 1) := (if_pos c_42).symm
          rw [← e9]; exact hl
        exact ih_26_1 (n + 1) (by omega)  _ (lv_sub hl [2, 3, 1, 0] rfl)
  exact lp_26_1 48 0 (by omega)  _ (lv_sub hl [2, 3, 1, 0] rfl)

set_option maxHeartbeats 4000000 in
set_option maxRecDepth 100000 in
theorem mX1_formsWithPhrase_x1 (l : Launch) (dC : Nat → ClassId) (dI : Nat → Nat → Nat) (cI : ClassId) (m0 t0 k0 p0 : Nat) (a0 a1 K q : Nat → Nat) (th : Int32) (w : Nat) (h0 : lt12 a0) (h1 : lt12 a1) (hw : w ≤ 12) (hq : ∀ i, i < w → q i < 12) (z0 : Int) (hz0 : inI z0) (hbad : ¬ (z0 = 0 ∨ z0 = 1)) : wr l yX1_formsWithPhrase wsX1_formsWithPhrase { frames := 1, cells := 0, slots := 0, locals := 21 } [.ref m0, .int (iI z0)] (dC, dI) [(m0, .inr (1, [.int th, .ref t0, .ref k0, .ref p0, .int (iI ((w : Nat) : Int))])), (t0, .inl (cI, 24, .inl (fun j => iI ((tb a0 a1 j : Nat) : Int)))), (k0, .inl (cI, 12, .inl (fun j => iI ((K j : Nat) : Int)))), (p0, .inl (cI, 12, .inl (fun j => iI ((q j : Nat) : Int))))] [(cI, .int)] [(m0, .inr (1, [.int (iI 1), .ref t0, .ref k0, .ref p0, .int (iI ((w : Nat) : Int))])), (t0, .inl (cI, 24, .inl (fun j => iI ((tb a0 a1 j : Nat) : Int)))), (k0, .inl (cI, 12, .inl (fun j => iI ((K j : Nat) : Int)))), (p0, .inl (cI, 12, .inl (fun j => iI ((q j : Nat) : Int))))] (some (.long (0 : Int64))) := by
  refine Met.ofW (cc := cX1_formsWithPhrase) (maxL := 5) (ret := (some .long)) (by decide) rfl ?_
  intro P0 e s m args below meth c s₁ B hml hv
  obtain ⟨rfl, hP, hK, hD0⟩ := hv
  have hx := B.exec
  have hb := B.bytes
  have hr := B.returns
  have hts := atoms_spec (ws := wsX1_formsWithPhrase) B.pre
  have hown : s.vm.findClass RX1 = some m.cls := findClass_of_methodNamed B.named
  have hlocks := B.notSynchronized
  have hinX : ∀ w ∈ u_ws RX1 TX1 5, w ∈ wsX1_formsWithPhrase := by decide +kernel
  have hD : va_D (inW [(m0, .inr (1, [.int th, .ref t0, .ref k0, .ref p0, .int (iI ((w : Nat) : Int))])), (t0, .inl (cI, 24, .inl (fun j => iI ((tb a0 a1 j : Nat) : Int)))), (k0, .inl (cI, 12, .inl (fun j => iI ((K j : Nat) : Int)))), (p0, .inl (cI, 12, .inl (fun j => iI ((q j : Nat) : Int))))]) [(m0, .inr (1, [.int th, .ref t0, .ref k0, .ref p0, .int (iI ((w : Nat) : Int))])), (t0, .inl (cI, 24, .inl (fun j => iI ((tb a0 a1 j : Nat) : Int)))), (k0, .inl (cI, 12, .inl (fun j => iI ((K j : Nat) : Int)))), (p0, .inl (cI, 12, .inl (fun j => iI ((q j : Nat) : Int))))] := va_D_in hD0
  have hS : va_S (inW [(m0, .inr (1, [.int th, .ref t0, .ref k0, .ref p0, .int (iI ((w : Nat) : Int))])), (t0, .inl (cI, 24, .inl (fun j => iI ((tb a0 a1 j : Nat) : Int)))), (k0, .inl (cI, 12, .inl (fun j => iI ((K j : Nat) : Int)))), (p0, .inl (cI, 12, .inl (fun j => iI ((q j : Nat) : Int))))]) s.heap s.heap [] := va_S.rf
  have hl := lv_entry ([.ref m0, .int (iI z0)]) (n := 5) (Nat.le_of_ble_eq_true rfl)
  rw [lg_entry_eq]
  generalize (lg_sl ([.ref m0, .int (iI z0)]) ++ List.replicate (5 - (lg_sl ([.ref m0, .int (iI z0)])).length) Slot.unset).toArray = ls at hl ⊢
  have hl : lv_has ls 5 [(0, .ref m0), (1, .int (iI z0))] := hl
  have hza0 := hz0.1
  have hzb0 := hz0.2
  refine lv_aload_n hx hb dX1_formsWithPhrase_0 rfl (lv_at hl 0 rfl) ?_
  refine lv_iload_n hx hb dX1_formsWithPhrase_1 rfl (lv_at hl 1 rfl) ?_
  refine rd_call (va_runS (As := [.int (iI z0)]) (rest := [.ref m0]) ⟨hx, hb, hml, hown, hts⟩ (mX1_isRow l z0 ⟨by omega, by omega⟩) (va_cwS 1 hts gX1_formsWithPhrase_X1_isRow rfl rfl rfl hdX1_isRow ⟨Nat.le_of_ble_eq_true rfl, Nat.le_of_ble_eq_true rfl⟩) tt_pre rfl rfl hl.1 rfl (lv_room (Nat.le_of_ble_eq_true rfl)) dX1_formsWithPhrase_2 ⟨Nat.le_of_ble_eq_true rfl, Nat.le_of_ble_eq_true rfl⟩) ?_
  refine bb_eq (tgt := 12) hx hb dX1_formsWithPhrase_5 (by decide) (fun c_5 => ?_) (fun c_5 => ?_)
  · skip
    refine ib_const hx hb dX1_formsWithPhrase_12 ?_
    refine wr_call (va_runV (As := [.int (iI 1)]) (rest := []) ⟨hx, hb, hml, hown, hts⟩ (mX1_goesWell l dC dI cI m0 t0 k0 p0 a0 a1 K q th w h0 h1 hw hq 1 ⟨by omega, by omega⟩) (cwV 1 hts gX1_formsWithPhrase_X1_goesWell rfl rfl rfl hvX1_goesWell ⟨Nat.le_of_ble_eq_true rfl, Nat.le_of_ble_eq_true rfl⟩) (bD_pre (ci := 1) (q0 := 0) hK hP hD rfl rfl rfl) rfl rfl hl.1 rfl (lv_room (Nat.le_of_ble_eq_true rfl)) dX1_formsWithPhrase_13 ⟨Nat.le_of_ble_eq_true rfl, Nat.le_of_ble_eq_true rfl⟩) hS (fun q9 h => inW_same (w := [(m0, .inr (1, [.int th, .ref t0, .ref k0, .ref p0, .int (iI ((w : Nat) : Int))])), (t0, .inl (cI, 24, .inl (fun j => iI ((tb a0 a1 j : Nat) : Int)))), (k0, .inl (cI, 12, .inl (fun j => iI ((K j : Nat) : Int)))), (p0, .inl (cI, 12, .inl (fun j => iI ((q j : Nat) : Int))))]) (w' := [(m0, .inr (1, [.int th, .ref t0, .ref k0, .ref p0, .int (iI ((w : Nat) : Int))])), (t0, .inl (cI, 24, .inl (fun j => iI ((tb a0 a1 j : Nat) : Int)))), (k0, .inl (cI, 12, .inl (fun j => iI ((K j : Nat) : Int)))), (p0, .inl (cI, 12, .inl (fun j => iI ((q j : Nat) : Int))))]) rfl h) (fun H locs hP hz hk hS => ?_)
    have hD : va_D (inW [(m0, .inr (1, [.int th, .ref t0, .ref k0, .ref p0, .int (iI ((w : Nat) : Int))])), (t0, .inl (cI, 24, .inl (fun j => iI ((tb a0 a1 j : Nat) : Int)))), (k0, .inl (cI, 12, .inl (fun j => iI ((K j : Nat) : Int)))), (p0, .inl (cI, 12, .inl (fun j => iI ((q j : Nat) : Int))))]) [(m0, .inr (1, [.int (iI 1), .ref t0, .ref k0, .ref p0, .int (iI ((w : Nat) : Int))])), (t0, .inl (cI, 24, .inl (fun j => iI ((tb a0 a1 j : Nat) : Int)))), (k0, .inl (cI, 12, .inl (fun j => iI ((K j : Nat) : Int)))), (p0, .inl (cI, 12, .inl (fun j => iI ((q j : Nat) : Int))))] := va_D_same (w := [(m0, .inr (1, [.int th, .ref t0, .ref k0, .ref p0, .int (iI ((w : Nat) : Int))])), (t0, .inl (cI, 24, .inl (fun j => iI ((tb a0 a1 j : Nat) : Int)))), (k0, .inl (cI, 12, .inl (fun j => iI ((K j : Nat) : Int)))), (p0, .inl (cI, 12, .inl (fun j => iI ((q j : Nat) : Int))))]) rfl hD
    refine st_i (y := iI 0) (congrArg iI (bI_f (by decide))) ?_
    refine ib_if_ne (tgt := 21) hx hb dX1_formsWithPhrase_16 (by decide) ⟨by omega, by omega⟩ (fun c_16 => absurd c_16 (by decide)) (fun c_16 => ?_)
    refine lv_lconst (v := 0) hx hb dX1_formsWithPhrase_19 (by decide) ?_
    exact W.lret hx hb hr (fun t ht _ => ⟨rfl, by rw [ht]; exact hP, hS.F ht⟩) hS.2.2 dX1_formsWithPhrase_20
  · skip
    refine ib_const hx hb dX1_formsWithPhrase_8 ?_
    refine lv_goto (tgt := 13) hx hb dX1_formsWithPhrase_9 (by decide) ?_
    exfalso; omega

set_option maxHeartbeats 4000000 in
set_option maxRecDepth 100000 in
theorem mX1_placeOfPhrase_ok (l : Launch) (dC : Nat → ClassId) (dI : Nat → Nat → Nat) (cI : ClassId) (m0 t0 k0 p0 : Nat) (a0 a1 K q : Nat → Nat) (th : Int32) (w : Nat) (h0 : lt12 a0) (h1 : lt12 a1) (hw : w ≤ 12) (hq : ∀ i, i < w → q i < 12) (r c9 : Nat) (hr9 : r < 2) (hc9 : c9 < 48) : wr l yX1_placeOfPhrase wsX1_placeOfPhrase { frames := 3, cells := 0, slots := 0, locals := 73 } [.ref m0, .int (iI ((r : Nat) : Int)), .int (iI ((c9 : Nat) : Int))] (dC, dI) [(m0, .inr (1, [.int th, .ref t0, .ref k0, .ref p0, .int (iI ((w : Nat) : Int))])), (t0, .inl (cI, 24, .inl (fun j => iI ((tb a0 a1 j : Nat) : Int)))), (k0, .inl (cI, 12, .inl (fun j => iI ((K j : Nat) : Int)))), (p0, .inl (cI, 12, .inl (fun j => iI ((q j : Nat) : Int))))] [(cI, .int)] [(m0, .inr (1, [.int (iI 0), .ref t0, .ref k0, .ref p0, .int (iI ((w : Nat) : Int))])), (t0, .inl (cI, 24, .inl (fun j => iI ((tb a0 a1 j : Nat) : Int)))), (k0, .inl (cI, 12, .inl (fun j => iI ((K j : Nat) : Int)))), (p0, .inl (cI, 12, .inl (fun j => iI ((q j : Nat) : Int))))] (some (.int (iI (if w = 0 then -1 else plF (rw_ r a0 a1) q c9 w)))) := by
  refine Met.ofW (cc := cX1_placeOfPhrase) (maxL := 3) (ret := (some .int)) (by decide) rfl ?_
  intro P0 e s m args below meth c s₁ B hml hv
  obtain ⟨rfl, hP, hK, hD0⟩ := hv
  have hx := B.exec
  have hb := B.bytes
  have hr := B.returns
  have hts := atoms_spec (ws := wsX1_placeOfPhrase) B.pre
  have hown : s.vm.findClass RX1 = some m.cls := findClass_of_methodNamed B.named
  have hlocks := B.notSynchronized
  have hinX : ∀ w ∈ u_ws RX1 TX1 5, w ∈ wsX1_placeOfPhrase := by decide +kernel
  have hD : va_D (inW [(m0, .inr (1, [.int th, .ref t0, .ref k0, .ref p0, .int (iI ((w : Nat) : Int))])), (t0, .inl (cI, 24, .inl (fun j => iI ((tb a0 a1 j : Nat) : Int)))), (k0, .inl (cI, 12, .inl (fun j => iI ((K j : Nat) : Int)))), (p0, .inl (cI, 12, .inl (fun j => iI ((q j : Nat) : Int))))]) [(m0, .inr (1, [.int th, .ref t0, .ref k0, .ref p0, .int (iI ((w : Nat) : Int))])), (t0, .inl (cI, 24, .inl (fun j => iI ((tb a0 a1 j : Nat) : Int)))), (k0, .inl (cI, 12, .inl (fun j => iI ((K j : Nat) : Int)))), (p0, .inl (cI, 12, .inl (fun j => iI ((q j : Nat) : Int))))] := va_D_in hD0
  have hS : va_S (inW [(m0, .inr (1, [.int th, .ref t0, .ref k0, .ref p0, .int (iI ((w : Nat) : Int))])), (t0, .inl (cI, 24, .inl (fun j => iI ((tb a0 a1 j : Nat) : Int)))), (k0, .inl (cI, 12, .inl (fun j => iI ((K j : Nat) : Int)))), (p0, .inl (cI, 12, .inl (fun j => iI ((q j : Nat) : Int))))]) s.heap s.heap [] := va_S.rf
  have hl := lv_entry ([.ref m0, .int (iI ((r : Nat) : Int)), .int (iI ((c9 : Nat) : Int))]) (n := 3) (Nat.le_of_ble_eq_true rfl)
  rw [lg_entry_eq]
  generalize (lg_sl ([.ref m0, .int (iI ((r : Nat) : Int)), .int (iI ((c9 : Nat) : Int))]) ++ List.replicate (3 - (lg_sl ([.ref m0, .int (iI ((r : Nat) : Int)), .int (iI ((c9 : Nat) : Int))])).length) Slot.unset).toArray = ls at hl ⊢
  have hl : lv_has ls 3 [(0, .ref m0), (1, .int (iI ((r : Nat) : Int))), (2, .int (iI ((c9 : Nat) : Int)))] := hl
  refine lv_aload_n hx hb dX1_placeOfPhrase_0 rfl (lv_at hl 0 rfl) ?_
  refine lv_iload_n hx hb dX1_placeOfPhrase_1 rfl (lv_at hl 1 rfl) ?_
  refine rd_call (va_runS (As := [.int (iI ((r : Nat) : Int))]) (rest := [.ref m0]) ⟨hx, hb, hml, hown, hts⟩ (mX1_isRow l ((r : Nat) : Int) ⟨by omega, by omega⟩) (va_cwS 1 hts gX1_placeOfPhrase_X1_isRow rfl rfl rfl hdX1_isRow ⟨Nat.le_of_ble_eq_true rfl, Nat.le_of_ble_eq_true rfl⟩) tt_pre rfl rfl hl.1 rfl (lv_room (Nat.le_of_ble_eq_true rfl)) dX1_placeOfPhrase_2 ⟨Nat.le_of_ble_eq_true rfl, Nat.le_of_ble_eq_true rfl⟩) ?_
  refine bb_ne (tgt := 12) hx hb dX1_placeOfPhrase_5 (by decide) (fun c_5 => ?_) (fun c_5 => absurd c_5 (by omega))
  refine lv_iload_n hx hb dX1_placeOfPhrase_12 rfl (lv_at hl 2 rfl) ?_
  refine rd_call (va_runS (As := [.int (iI ((c9 : Nat) : Int))]) (rest := [.ref m0]) ⟨hx, hb, hml, hown, hts⟩ (mX1_isCode l ((c9 : Nat) : Int) ⟨by omega, by omega⟩) (va_cwS 1 hts gX1_placeOfPhrase_X1_isCode rfl rfl rfl hdX1_isCode ⟨Nat.le_of_ble_eq_true rfl, Nat.le_of_ble_eq_true rfl⟩) tt_pre rfl rfl hl.1 rfl (lv_room (Nat.le_of_ble_eq_true rfl)) dX1_placeOfPhrase_13 ⟨Nat.le_of_ble_eq_true rfl, Nat.le_of_ble_eq_true rfl⟩) ?_
  refine bb_eq (tgt := 23) hx hb dX1_placeOfPhrase_16 (by decide) (fun c_16 => absurd c_16 (by omega)) (fun c_16 => ?_)
  refine ib_const hx hb dX1_placeOfPhrase_19 ?_
  refine lv_goto (tgt := 24) hx hb dX1_placeOfPhrase_20 (by decide) ?_
  refine wr_call (va_runV (As := [.int (iI 0)]) (rest := []) ⟨hx, hb, hml, hown, hts⟩ (mX1_goesWell l dC dI cI m0 t0 k0 p0 a0 a1 K q th w h0 h1 hw hq 0 ⟨by omega, by omega⟩) (cwV 1 hts gX1_placeOfPhrase_X1_goesWell rfl rfl rfl hvX1_goesWell ⟨Nat.le_of_ble_eq_true rfl, Nat.le_of_ble_eq_true rfl⟩) (bD_pre (ci := 1) (q0 := 0) hK hP hD rfl rfl rfl) rfl rfl hl.1 rfl (lv_room (Nat.le_of_ble_eq_true rfl)) dX1_placeOfPhrase_24 ⟨Nat.le_of_ble_eq_true rfl, Nat.le_of_ble_eq_true rfl⟩) hS (fun q9 h => inW_same (w := [(m0, .inr (1, [.int th, .ref t0, .ref k0, .ref p0, .int (iI ((w : Nat) : Int))])), (t0, .inl (cI, 24, .inl (fun j => iI ((tb a0 a1 j : Nat) : Int)))), (k0, .inl (cI, 12, .inl (fun j => iI ((K j : Nat) : Int)))), (p0, .inl (cI, 12, .inl (fun j => iI ((q j : Nat) : Int))))]) (w' := [(m0, .inr (1, [.int th, .ref t0, .ref k0, .ref p0, .int (iI ((w : Nat) : Int))])), (t0, .inl (cI, 24, .inl (fun j => iI ((tb a0 a1 j : Nat) : Int)))), (k0, .inl (cI, 12, .inl (fun j => iI ((K j : Nat) : Int)))), (p0, .inl (cI, 12, .inl (fun j => iI ((q j : Nat) : Int))))]) rfl h) (fun H locs hP hz hk hS => ?_)
  have hD : va_D (inW [(m0, .inr (1, [.int th, .ref t0, .ref k0, .ref p0, .int (iI ((w : Nat) : Int))])), (t0, .inl (cI, 24, .inl (fun j => iI ((tb a0 a1 j : Nat) : Int)))), (k0, .inl (cI, 12, .inl (fun j => iI ((K j : Nat) : Int)))), (p0, .inl (cI, 12, .inl (fun j => iI ((q j : Nat) : Int))))]) [(m0, .inr (1, [.int (iI 0), .ref t0, .ref k0, .ref p0, .int (iI ((w : Nat) : Int))])), (t0, .inl (cI, 24, .inl (fun j => iI ((tb a0 a1 j : Nat) : Int)))), (k0, .inl (cI, 12, .inl (fun j => iI ((K j : Nat) : Int)))), (p0, .inl (cI, 12, .inl (fun j => iI ((q j : Nat) : Int))))] := va_D_same (w := [(m0, .inr (1, [.int th, .ref t0, .ref k0, .ref p0, .int (iI ((w : Nat) : Int))])), (t0, .inl (cI, 24, .inl (fun j => iI ((tb a0 a1 j : Nat) : Int)))), (k0, .inl (cI, 12, .inl (fun j => iI ((K j : Nat) : Int)))), (p0, .inl (cI, 12, .inl (fun j => iI ((q j : Nat) : Int))))]) rfl hD
  refine st_i (y := iI 1) (congrArg iI (bI_t (by decide))) ?_
  refine ib_if_eq (tgt := 50) hx hb dX1_placeOfPhrase_27 (by decide) ⟨by omega, by omega⟩ (fun c_27 => absurd c_27 (by decide)) (fun c_27 => ?_)
  refine lv_aload_n hx hb dX1_placeOfPhrase_30 rfl (lv_at hl 0 rfl) ?_
  refine va_get (D := (dC, dI)) (ci := 1) (v := .int (iI ((w : Nat) : Int))) (C := RX1) (T := TX1) (N := 5) hx hb hts hinX hown hK hP 0 rfl rfl 4 (by decide) (hts (.fieldLink RX1 88 "ToneRowsModel" "written" "I") (by decide +kernel)) (fun _ h9 => h9) rfl dX1_placeOfPhrase_31 ?_
  refine ib_if_ne (tgt := 41) hx hb dX1_placeOfPhrase_34 (by decide) ⟨by omega, by omega⟩ (fun c_34 => ?_) (fun c_34 => ?_)
  · skip
    refine lv_aload_n hx hb dX1_placeOfPhrase_41 rfl (lv_at hl 0 rfl) ?_
    refine lv_iload_n hx hb dX1_placeOfPhrase_42 rfl (lv_at hl 1 rfl) ?_
    refine lv_iload_n hx hb dX1_placeOfPhrase_43 rfl (lv_at hl 2 rfl) ?_
    refine rd_call (va_runV (As := [.int (iI ((r : Nat) : Int)), .int (iI ((c9 : Nat) : Int))]) (rest := []) ⟨hx, hb, hml, hown, hts⟩ (mX1_placeIn l dC dI cI m0 t0 k0 p0 a0 a1 K q (iI 0) w h0 h1 hw hq r c9 (by omega) (by omega)) (cwV 2 hts gX1_placeOfPhrase_X1_placeIn rfl rfl rfl hvX1_placeIn ⟨Nat.le_of_ble_eq_true rfl, Nat.le_of_ble_eq_true rfl⟩) (bW_pre (ci := 1) (q0 := 0) hK hP rfl rfl rfl) rfl rfl hl.1 rfl (lv_room (Nat.le_of_ble_eq_true rfl)) dX1_placeOfPhrase_44 ⟨Nat.le_of_ble_eq_true rfl, Nat.le_of_ble_eq_true rfl⟩) ?_
    have hpl_44 := plF_in (rw_ r a0 a1) q c9 w
    refine lv_goto (tgt := 51) hx hb dX1_placeOfPhrase_47 (by decide) ?_
    refine st_i (y := iI (if w = 0 then -1 else plF (rw_ r a0 a1) q c9 w)) (congrArg iI (if_neg (by omega)).symm) ?_
    exact W.iret hx hb hr (fun t ht _ => ⟨rfl, by rw [ht]; exact hP, hS.F ht⟩) hS.2.2 dX1_placeOfPhrase_51
  · skip
    refine ib_const hx hb dX1_placeOfPhrase_37 ?_
    refine lv_goto (tgt := 51) hx hb dX1_placeOfPhrase_38 (by decide) ?_
    refine st_i (y := iI (if w = 0 then -1 else plF (rw_ r a0 a1) q c9 w)) (congrArg iI (if_pos (by omega)).symm) ?_
    exact W.iret hx hb hr (fun t ht _ => ⟨rfl, by rw [ht]; exact hP, hS.F ht⟩) hS.2.2 dX1_placeOfPhrase_51

set_option maxHeartbeats 4000000 in
set_option maxRecDepth 100000 in
theorem mX1_placeOfPhrase_x1 (l : Launch) (dC : Nat → ClassId) (dI : Nat → Nat → Nat) (cI : ClassId) (m0 t0 k0 p0 : Nat) (a0 a1 K q : Nat → Nat) (th : Int32) (w : Nat) (h0 : lt12 a0) (h1 : lt12 a1) (hw : w ≤ 12) (hq : ∀ i, i < w → q i < 12) (z0 z1 : Int) (hz0 : inI z0) (hz1 : inI z1) (hbad : ¬ (z0 = 0 ∨ z0 = 1)) : wr l yX1_placeOfPhrase wsX1_placeOfPhrase { frames := 2, cells := 0, slots := 0, locals := 42 } [.ref m0, .int (iI z0), .int (iI z1)] (dC, dI) [(m0, .inr (1, [.int th, .ref t0, .ref k0, .ref p0, .int (iI ((w : Nat) : Int))])), (t0, .inl (cI, 24, .inl (fun j => iI ((tb a0 a1 j : Nat) : Int)))), (k0, .inl (cI, 12, .inl (fun j => iI ((K j : Nat) : Int)))), (p0, .inl (cI, 12, .inl (fun j => iI ((q j : Nat) : Int))))] [(cI, .int)] [(m0, .inr (1, [.int (iI 1), .ref t0, .ref k0, .ref p0, .int (iI ((w : Nat) : Int))])), (t0, .inl (cI, 24, .inl (fun j => iI ((tb a0 a1 j : Nat) : Int)))), (k0, .inl (cI, 12, .inl (fun j => iI ((K j : Nat) : Int)))), (p0, .inl (cI, 12, .inl (fun j => iI ((q j : Nat) : Int))))] (some (.int (iI 0))) := by
  refine Met.ofW (cc := cX1_placeOfPhrase) (maxL := 3) (ret := (some .int)) (by decide) rfl ?_
  intro P0 e s m args below meth c s₁ B hml hv
  obtain ⟨rfl, hP, hK, hD0⟩ := hv
  have hx := B.exec
  have hb := B.bytes
  have hr := B.returns
  have hts := atoms_spec (ws := wsX1_placeOfPhrase) B.pre
  have hown : s.vm.findClass RX1 = some m.cls := findClass_of_methodNamed B.named
  have hlocks := B.notSynchronized
  have hinX : ∀ w ∈ u_ws RX1 TX1 5, w ∈ wsX1_placeOfPhrase := by decide +kernel
  have hD : va_D (inW [(m0, .inr (1, [.int th, .ref t0, .ref k0, .ref p0, .int (iI ((w : Nat) : Int))])), (t0, .inl (cI, 24, .inl (fun j => iI ((tb a0 a1 j : Nat) : Int)))), (k0, .inl (cI, 12, .inl (fun j => iI ((K j : Nat) : Int)))), (p0, .inl (cI, 12, .inl (fun j => iI ((q j : Nat) : Int))))]) [(m0, .inr (1, [.int th, .ref t0, .ref k0, .ref p0, .int (iI ((w : Nat) : Int))])), (t0, .inl (cI, 24, .inl (fun j => iI ((tb a0 a1 j : Nat) : Int)))), (k0, .inl (cI, 12, .inl (fun j => iI ((K j : Nat) : Int)))), (p0, .inl (cI, 12, .inl (fun j => iI ((q j : Nat) : Int))))] := va_D_in hD0
  have hS : va_S (inW [(m0, .inr (1, [.int th, .ref t0, .ref k0, .ref p0, .int (iI ((w : Nat) : Int))])), (t0, .inl (cI, 24, .inl (fun j => iI ((tb a0 a1 j : Nat) : Int)))), (k0, .inl (cI, 12, .inl (fun j => iI ((K j : Nat) : Int)))), (p0, .inl (cI, 12, .inl (fun j => iI ((q j : Nat) : Int))))]) s.heap s.heap [] := va_S.rf
  have hl := lv_entry ([.ref m0, .int (iI z0), .int (iI z1)]) (n := 3) (Nat.le_of_ble_eq_true rfl)
  rw [lg_entry_eq]
  generalize (lg_sl ([.ref m0, .int (iI z0), .int (iI z1)]) ++ List.replicate (3 - (lg_sl ([.ref m0, .int (iI z0), .int (iI z1)])).length) Slot.unset).toArray = ls at hl ⊢
  have hl : lv_has ls 3 [(0, .ref m0), (1, .int (iI z0)), (2, .int (iI z1))] := hl
  have hza0 := hz0.1
  have hza1 := hz1.1
  have hzb0 := hz0.2
  have hzb1 := hz1.2
  refine lv_aload_n hx hb dX1_placeOfPhrase_0 rfl (lv_at hl 0 rfl) ?_
  refine lv_iload_n hx hb dX1_placeOfPhrase_1 rfl (lv_at hl 1 rfl) ?_
  refine rd_call (va_runS (As := [.int (iI z0)]) (rest := [.ref m0]) ⟨hx, hb, hml, hown, hts⟩ (mX1_isRow l z0 ⟨by omega, by omega⟩) (va_cwS 1 hts gX1_placeOfPhrase_X1_isRow rfl rfl rfl hdX1_isRow ⟨Nat.le_of_ble_eq_true rfl, Nat.le_of_ble_eq_true rfl⟩) tt_pre rfl rfl hl.1 rfl (lv_room (Nat.le_of_ble_eq_true rfl)) dX1_placeOfPhrase_2 ⟨Nat.le_of_ble_eq_true rfl, Nat.le_of_ble_eq_true rfl⟩) ?_
  refine bb_ne (tgt := 12) hx hb dX1_placeOfPhrase_5 (by decide) (fun c_5 => ?_) (fun c_5 => ?_)
  · skip
    refine lv_iload_n hx hb dX1_placeOfPhrase_12 rfl (lv_at hl 2 rfl) ?_
    refine rd_call (va_runS (As := [.int (iI z1)]) (rest := [.ref m0]) ⟨hx, hb, hml, hown, hts⟩ (mX1_isCode l z1 ⟨by omega, by omega⟩) (va_cwS 1 hts gX1_placeOfPhrase_X1_isCode rfl rfl rfl hdX1_isCode ⟨Nat.le_of_ble_eq_true rfl, Nat.le_of_ble_eq_true rfl⟩) tt_pre rfl rfl hl.1 rfl (lv_room (Nat.le_of_ble_eq_true rfl)) dX1_placeOfPhrase_13 ⟨Nat.le_of_ble_eq_true rfl, Nat.le_of_ble_eq_true rfl⟩) ?_
    refine bb_eq (tgt := 23) hx hb dX1_placeOfPhrase_16 (by decide) (fun c_16 => ?_) (fun c_16 => ?_)
    · skip
      refine ib_const hx hb dX1_placeOfPhrase_23 ?_
      exfalso; omega
    · skip
      refine ib_const hx hb dX1_placeOfPhrase_19 ?_
      refine lv_goto (tgt := 24) hx hb dX1_placeOfPhrase_20 (by decide) ?_
      exfalso; omega
  · skip
    refine ib_const hx hb dX1_placeOfPhrase_8 ?_
    refine lv_goto (tgt := 24) hx hb dX1_placeOfPhrase_9 (by decide) ?_
    refine wr_call (va_runV (As := [.int (iI 1)]) (rest := []) ⟨hx, hb, hml, hown, hts⟩ (mX1_goesWell l dC dI cI m0 t0 k0 p0 a0 a1 K q th w h0 h1 hw hq 1 ⟨by omega, by omega⟩) (cwV 1 hts gX1_placeOfPhrase_X1_goesWell rfl rfl rfl hvX1_goesWell ⟨Nat.le_of_ble_eq_true rfl, Nat.le_of_ble_eq_true rfl⟩) (bD_pre (ci := 1) (q0 := 0) hK hP hD rfl rfl rfl) rfl rfl hl.1 rfl (lv_room (Nat.le_of_ble_eq_true rfl)) dX1_placeOfPhrase_24 ⟨Nat.le_of_ble_eq_true rfl, Nat.le_of_ble_eq_true rfl⟩) hS (fun q9 h => inW_same (w := [(m0, .inr (1, [.int th, .ref t0, .ref k0, .ref p0, .int (iI ((w : Nat) : Int))])), (t0, .inl (cI, 24, .inl (fun j => iI ((tb a0 a1 j : Nat) : Int)))), (k0, .inl (cI, 12, .inl (fun j => iI ((K j : Nat) : Int)))), (p0, .inl (cI, 12, .inl (fun j => iI ((q j : Nat) : Int))))]) (w' := [(m0, .inr (1, [.int th, .ref t0, .ref k0, .ref p0, .int (iI ((w : Nat) : Int))])), (t0, .inl (cI, 24, .inl (fun j => iI ((tb a0 a1 j : Nat) : Int)))), (k0, .inl (cI, 12, .inl (fun j => iI ((K j : Nat) : Int)))), (p0, .inl (cI, 12, .inl (fun j => iI ((q j : Nat) : Int))))]) rfl h) (fun H locs hP hz hk hS => ?_)
    have hD : va_D (inW [(m0, .inr (1, [.int th, .ref t0, .ref k0, .ref p0, .int (iI ((w : Nat) : Int))])), (t0, .inl (cI, 24, .inl (fun j => iI ((tb a0 a1 j : Nat) : Int)))), (k0, .inl (cI, 12, .inl (fun j => iI ((K j : Nat) : Int)))), (p0, .inl (cI, 12, .inl (fun j => iI ((q j : Nat) : Int))))]) [(m0, .inr (1, [.int (iI 1), .ref t0, .ref k0, .ref p0, .int (iI ((w : Nat) : Int))])), (t0, .inl (cI, 24, .inl (fun j => iI ((tb a0 a1 j : Nat) : Int)))), (k0, .inl (cI, 12, .inl (fun j => iI ((K j : Nat) : Int)))), (p0, .inl (cI, 12, .inl (fun j => iI ((q j : Nat) : Int))))] := va_D_same (w := [(m0, .inr (1, [.int th, .ref t0, .ref k0, .ref p0, .int (iI ((w : Nat) : Int))])), (t0, .inl (cI, 24, .inl (fun j => iI ((tb a0 a1 j : Nat) : Int)))), (k0, .inl (cI, 12, .inl (fun j => iI ((K j : Nat) : Int)))), (p0, .inl (cI, 12, .inl (fun j => iI ((q j : Nat) : Int))))]) rfl hD
    refine st_i (y := iI 0) (congrArg iI (bI_f (by decide))) ?_
    refine ib_if_eq (tgt := 50) hx hb dX1_placeOfPhrase_27 (by decide) ⟨by omega, by omega⟩ (fun c_27 => ?_) (fun c_27 => absurd c_27 (by decide))
    refine ib_const hx hb dX1_placeOfPhrase_50 ?_
    exact W.iret hx hb hr (fun t ht _ => ⟨rfl, by rw [ht]; exact hP, hS.F ht⟩) hS.2.2 dX1_placeOfPhrase_51

set_option maxHeartbeats 4000000 in
set_option maxRecDepth 100000 in
theorem mX1_placeOfPhrase_x2 (l : Launch) (dC : Nat → ClassId) (dI : Nat → Nat → Nat) (cI : ClassId) (m0 t0 k0 p0 : Nat) (a0 a1 K q : Nat → Nat) (th : Int32) (w : Nat) (h0 : lt12 a0) (h1 : lt12 a1) (hw : w ≤ 12) (hq : ∀ i, i < w → q i < 12) (z0 z1 : Int) (hz0 : inI z0) (hz1 : inI z1) (hbad : (z0 = 0 ∨ z0 = 1) ∧ ¬ (0 ≤ z1 ∧ z1 ≤ 47)) : wr l yX1_placeOfPhrase wsX1_placeOfPhrase { frames := 2, cells := 0, slots := 0, locals := 42 } [.ref m0, .int (iI z0), .int (iI z1)] (dC, dI) [(m0, .inr (1, [.int th, .ref t0, .ref k0, .ref p0, .int (iI ((w : Nat) : Int))])), (t0, .inl (cI, 24, .inl (fun j => iI ((tb a0 a1 j : Nat) : Int)))), (k0, .inl (cI, 12, .inl (fun j => iI ((K j : Nat) : Int)))), (p0, .inl (cI, 12, .inl (fun j => iI ((q j : Nat) : Int))))] [(cI, .int)] [(m0, .inr (1, [.int (iI 2), .ref t0, .ref k0, .ref p0, .int (iI ((w : Nat) : Int))])), (t0, .inl (cI, 24, .inl (fun j => iI ((tb a0 a1 j : Nat) : Int)))), (k0, .inl (cI, 12, .inl (fun j => iI ((K j : Nat) : Int)))), (p0, .inl (cI, 12, .inl (fun j => iI ((q j : Nat) : Int))))] (some (.int (iI 0))) := by
  refine Met.ofW (cc := cX1_placeOfPhrase) (maxL := 3) (ret := (some .int)) (by decide) rfl ?_
  intro P0 e s m args below meth c s₁ B hml hv
  obtain ⟨rfl, hP, hK, hD0⟩ := hv
  have hx := B.exec
  have hb := B.bytes
  have hr := B.returns
  have hts := atoms_spec (ws := wsX1_placeOfPhrase) B.pre
  have hown : s.vm.findClass RX1 = some m.cls := findClass_of_methodNamed B.named
  have hlocks := B.notSynchronized
  have hinX : ∀ w ∈ u_ws RX1 TX1 5, w ∈ wsX1_placeOfPhrase := by decide +kernel
  have hD : va_D (inW [(m0, .inr (1, [.int th, .ref t0, .ref k0, .ref p0, .int (iI ((w : Nat) : Int))])), (t0, .inl (cI, 24, .inl (fun j => iI ((tb a0 a1 j : Nat) : Int)))), (k0, .inl (cI, 12, .inl (fun j => iI ((K j : Nat) : Int)))), (p0, .inl (cI, 12, .inl (fun j => iI ((q j : Nat) : Int))))]) [(m0, .inr (1, [.int th, .ref t0, .ref k0, .ref p0, .int (iI ((w : Nat) : Int))])), (t0, .inl (cI, 24, .inl (fun j => iI ((tb a0 a1 j : Nat) : Int)))), (k0, .inl (cI, 12, .inl (fun j => iI ((K j : Nat) : Int)))), (p0, .inl (cI, 12, .inl (fun j => iI ((q j : Nat) : Int))))] := va_D_in hD0
  have hS : va_S (inW [(m0, .inr (1, [.int th, .ref t0, .ref k0, .ref p0, .int (iI ((w : Nat) : Int))])), (t0, .inl (cI, 24, .inl (fun j => iI ((tb a0 a1 j : Nat) : Int)))), (k0, .inl (cI, 12, .inl (fun j => iI ((K j : Nat) : Int)))), (p0, .inl (cI, 12, .inl (fun j => iI ((q j : Nat) : Int))))]) s.heap s.heap [] := va_S.rf
  have hl := lv_entry ([.ref m0, .int (iI z0), .int (iI z1)]) (n := 3) (Nat.le_of_ble_eq_true rfl)
  rw [lg_entry_eq]
  generalize (lg_sl ([.ref m0, .int (iI z0), .int (iI z1)]) ++ List.replicate (3 - (lg_sl ([.ref m0, .int (iI z0), .int (iI z1)])).length) Slot.unset).toArray = ls at hl ⊢
  have hl : lv_has ls 3 [(0, .ref m0), (1, .int (iI z0)), (2, .int (iI z1))] := hl
  have hza0 := hz0.1
  have hza1 := hz1.1
  have hzb0 := hz0.2
  have hzb1 := hz1.2
  refine lv_aload_n hx hb dX1_placeOfPhrase_0 rfl (lv_at hl 0 rfl) ?_
  refine lv_iload_n hx hb dX1_placeOfPhrase_1 rfl (lv_at hl 1 rfl) ?_
  refine rd_call (va_runS (As := [.int (iI z0)]) (rest := [.ref m0]) ⟨hx, hb, hml, hown, hts⟩ (mX1_isRow l z0 ⟨by omega, by omega⟩) (va_cwS 1 hts gX1_placeOfPhrase_X1_isRow rfl rfl rfl hdX1_isRow ⟨Nat.le_of_ble_eq_true rfl, Nat.le_of_ble_eq_true rfl⟩) tt_pre rfl rfl hl.1 rfl (lv_room (Nat.le_of_ble_eq_true rfl)) dX1_placeOfPhrase_2 ⟨Nat.le_of_ble_eq_true rfl, Nat.le_of_ble_eq_true rfl⟩) ?_
  refine bb_ne (tgt := 12) hx hb dX1_placeOfPhrase_5 (by decide) (fun c_5 => ?_) (fun c_5 => ?_)
  · skip
    refine lv_iload_n hx hb dX1_placeOfPhrase_12 rfl (lv_at hl 2 rfl) ?_
    refine rd_call (va_runS (As := [.int (iI z1)]) (rest := [.ref m0]) ⟨hx, hb, hml, hown, hts⟩ (mX1_isCode l z1 ⟨by omega, by omega⟩) (va_cwS 1 hts gX1_placeOfPhrase_X1_isCode rfl rfl rfl hdX1_isCode ⟨Nat.le_of_ble_eq_true rfl, Nat.le_of_ble_eq_true rfl⟩) tt_pre rfl rfl hl.1 rfl (lv_room (Nat.le_of_ble_eq_true rfl)) dX1_placeOfPhrase_13 ⟨Nat.le_of_ble_eq_true rfl, Nat.le_of_ble_eq_true rfl⟩) ?_
    refine bb_eq (tgt := 23) hx hb dX1_placeOfPhrase_16 (by decide) (fun c_16 => ?_) (fun c_16 => ?_)
    · skip
      refine ib_const hx hb dX1_placeOfPhrase_23 ?_
      refine wr_call (va_runV (As := [.int (iI 2)]) (rest := []) ⟨hx, hb, hml, hown, hts⟩ (mX1_goesWell l dC dI cI m0 t0 k0 p0 a0 a1 K q th w h0 h1 hw hq 2 ⟨by omega, by omega⟩) (cwV 1 hts gX1_placeOfPhrase_X1_goesWell rfl rfl rfl hvX1_goesWell ⟨Nat.le_of_ble_eq_true rfl, Nat.le_of_ble_eq_true rfl⟩) (bD_pre (ci := 1) (q0 := 0) hK hP hD rfl rfl rfl) rfl rfl hl.1 rfl (lv_room (Nat.le_of_ble_eq_true rfl)) dX1_placeOfPhrase_24 ⟨Nat.le_of_ble_eq_true rfl, Nat.le_of_ble_eq_true rfl⟩) hS (fun q9 h => inW_same (w := [(m0, .inr (1, [.int th, .ref t0, .ref k0, .ref p0, .int (iI ((w : Nat) : Int))])), (t0, .inl (cI, 24, .inl (fun j => iI ((tb a0 a1 j : Nat) : Int)))), (k0, .inl (cI, 12, .inl (fun j => iI ((K j : Nat) : Int)))), (p0, .inl (cI, 12, .inl (fun j => iI ((q j : Nat) : Int))))]) (w' := [(m0, .inr (1, [.int th, .ref t0, .ref k0, .ref p0, .int (iI ((w : Nat) : Int))])), (t0, .inl (cI, 24, .inl (fun j => iI ((tb a0 a1 j : Nat) : Int)))), (k0, .inl (cI, 12, .inl (fun j => iI ((K j : Nat) : Int)))), (p0, .inl (cI, 12, .inl (fun j => iI ((q j : Nat) : Int))))]) rfl h) (fun H locs hP hz hk hS => ?_)
      have hD : va_D (inW [(m0, .inr (1, [.int th, .ref t0, .ref k0, .ref p0, .int (iI ((w : Nat) : Int))])), (t0, .inl (cI, 24, .inl (fun j => iI ((tb a0 a1 j : Nat) : Int)))), (k0, .inl (cI, 12, .inl (fun j => iI ((K j : Nat) : Int)))), (p0, .inl (cI, 12, .inl (fun j => iI ((q j : Nat) : Int))))]) [(m0, .inr (1, [.int (iI 2), .ref t0, .ref k0, .ref p0, .int (iI ((w : Nat) : Int))])), (t0, .inl (cI, 24, .inl (fun j => iI ((tb a0 a1 j : Nat) : Int)))), (k0, .inl (cI, 12, .inl (fun j => iI ((K j : Nat) : Int)))), (p0, .inl (cI, 12, .inl (fun j => iI ((q j : Nat) : Int))))] := va_D_same (w := [(m0, .inr (1, [.int th, .ref t0, .ref k0, .ref p0, .int (iI ((w : Nat) : Int))])), (t0, .inl (cI, 24, .inl (fun j => iI ((tb a0 a1 j : Nat) : Int)))), (k0, .inl (cI, 12, .inl (fun j => iI ((K j : Nat) : Int)))), (p0, .inl (cI, 12, .inl (fun j => iI ((q j : Nat) : Int))))]) rfl hD
      refine st_i (y := iI 0) (congrArg iI (bI_f (by decide))) ?_
      refine ib_if_eq (tgt := 50) hx hb dX1_placeOfPhrase_27 (by decide) ⟨by omega, by omega⟩ (fun c_27 => ?_) (fun c_27 => absurd c_27 (by decide))
      refine ib_const hx hb dX1_placeOfPhrase_50 ?_
      exact W.iret hx hb hr (fun t ht _ => ⟨rfl, by rw [ht]; exact hP, hS.F ht⟩) hS.2.2 dX1_placeOfPhrase_51
    · skip
      refine ib_const hx hb dX1_placeOfPhrase_19 ?_
      refine lv_goto (tgt := 24) hx hb dX1_placeOfPhrase_20 (by decide) ?_
      exfalso; omega
  · skip
    refine ib_const hx hb dX1_placeOfPhrase_8 ?_
    refine lv_goto (tgt := 24) hx hb dX1_placeOfPhrase_9 (by decide) ?_
    exfalso; omega

set_option maxHeartbeats 4000000 in
set_option maxRecDepth 100000 in
theorem mX1_complete_ok (l : Launch) (dC : Nat → ClassId) (dI : Nat → Nat → Nat) (cI : ClassId) (m0 t0 k0 p0 : Nat) (a0 a1 K q : Nat → Nat) (th : Int32) (w : Nat) (h0 : lt12 a0) (h1 : lt12 a1) (hw : w ≤ 12) (hq : ∀ i, i < w → q i < 12) (r : Nat) (hr9 : r < 2) (hcp : ∀ n, n < 12 → ¬ orN (wtB q (rw_ r a0 a1 n)) w = true → cpC q (rw_ r a0 a1) w n < 12) (G : Nat → Nat) (e12 : Nat) (he12 : e12 = 12) (hcl : lt12 G) (hce : ∀ i, i < 12 → cpK q (rw_ r a0 a1) K w e12 i = G i) : wr l yX1_complete wsX1_complete { frames := 2, cells := 0, slots := 0, locals := 44 } [.ref m0, .int (iI ((r : Nat) : Int))] (dC, dI) [(m0, .inr (1, [.int th, .ref t0, .ref k0, .ref p0, .int (iI ((w : Nat) : Int))])), (t0, .inl (cI, 24, .inl (fun j => iI ((tb a0 a1 j : Nat) : Int)))), (k0, .inl (cI, 12, .inl (fun j => iI ((K j : Nat) : Int)))), (p0, .inl (cI, 12, .inl (fun j => iI ((q j : Nat) : Int))))] [(cI, .int)] [(m0, .inr (1, [.int (iI 0), .ref t0, .ref k0, .ref p0, .int (iI ((w : Nat) : Int))])), (t0, .inl (cI, 24, .inl (fun j => iI ((tb (sr0 r G a0) (sr1 r G a1) j : Nat) : Int)))), (k0, .inl (cI, 12, .inl (fun j => iI (((cpK q (rw_ r a0 a1) K w e12) j : Nat) : Int)))), (p0, .inl (cI, 12, .inl (fun j => iI ((q j : Nat) : Int))))] (some (.int (iI ((G 0 : Nat) : Int)))) := by
  refine Met.ofW (cc := cX1_complete) (maxL := 4) (ret := (some .int)) (by decide) rfl ?_
  intro P0 e s m args below meth c s₁ B hml hv
  obtain ⟨rfl, hP, hK, hD0⟩ := hv
  have hx := B.exec
  have hb := B.bytes
  have hr := B.returns
  have hts := atoms_spec (ws := wsX1_complete) B.pre
  have hown : s.vm.findClass RX1 = some m.cls := findClass_of_methodNamed B.named
  have hlocks := B.notSynchronized
  have hinX : ∀ w ∈ u_ws RX1 TX1 5, w ∈ wsX1_complete := by decide +kernel
  have hD : va_D (inW [(m0, .inr (1, [.int th, .ref t0, .ref k0, .ref p0, .int (iI ((w : Nat) : Int))])), (t0, .inl (cI, 24, .inl (fun j => iI ((tb a0 a1 j : Nat) : Int)))), (k0, .inl (cI, 12, .inl (fun j => iI ((K j : Nat) : Int)))), (p0, .inl (cI, 12, .inl (fun j => iI ((q j : Nat) : Int))))]) [(m0, .inr (1, [.int th, .ref t0, .ref k0, .ref p0, .int (iI ((w : Nat) : Int))])), (t0, .inl (cI, 24, .inl (fun j => iI ((tb a0 a1 j : Nat) : Int)))), (k0, .inl (cI, 12, .inl (fun j => iI ((K j : Nat) : Int)))), (p0, .inl (cI, 12, .inl (fun j => iI ((q j : Nat) : Int))))] := va_D_in hD0
  have hS : va_S (inW [(m0, .inr (1, [.int th, .ref t0, .ref k0, .ref p0, .int (iI ((w : Nat) : Int))])), (t0, .inl (cI, 24, .inl (fun j => iI ((tb a0 a1 j : Nat) : Int)))), (k0, .inl (cI, 12, .inl (fun j => iI ((K j : Nat) : Int)))), (p0, .inl (cI, 12, .inl (fun j => iI ((q j : Nat) : Int))))]) s.heap s.heap [] := va_S.rf
  have hl := lv_entry ([.ref m0, .int (iI ((r : Nat) : Int))]) (n := 4) (Nat.le_of_ble_eq_true rfl)
  rw [lg_entry_eq]
  generalize (lg_sl ([.ref m0, .int (iI ((r : Nat) : Int))]) ++ List.replicate (4 - (lg_sl ([.ref m0, .int (iI ((r : Nat) : Int))])).length) Slot.unset).toArray = ls at hl ⊢
  have hl : lv_has ls 4 [(0, .ref m0), (1, .int (iI ((r : Nat) : Int)))] := hl
  refine lv_aload_n hx hb dX1_complete_0 rfl (lv_at hl 0 rfl) ?_
  refine lv_iload_n hx hb dX1_complete_1 rfl (lv_at hl 1 rfl) ?_
  refine rd_call (va_runS (As := [.int (iI ((r : Nat) : Int))]) (rest := [.ref m0]) ⟨hx, hb, hml, hown, hts⟩ (mX1_isRow l ((r : Nat) : Int) ⟨by omega, by omega⟩) (va_cwS 1 hts gX1_complete_X1_isRow rfl rfl rfl hdX1_isRow ⟨Nat.le_of_ble_eq_true rfl, Nat.le_of_ble_eq_true rfl⟩) tt_pre rfl rfl hl.1 rfl (lv_room (Nat.le_of_ble_eq_true rfl)) dX1_complete_2 ⟨Nat.le_of_ble_eq_true rfl, Nat.le_of_ble_eq_true rfl⟩) ?_
  refine bb_eq (tgt := 12) hx hb dX1_complete_5 (by decide) (fun c_5 => absurd c_5 (by omega)) (fun c_5 => ?_)
  refine ib_const hx hb dX1_complete_8 ?_
  refine lv_goto (tgt := 13) hx hb dX1_complete_9 (by decide) ?_
  refine wr_call (va_runV (As := [.int (iI 0)]) (rest := []) ⟨hx, hb, hml, hown, hts⟩ (mX1_goesWell l dC dI cI m0 t0 k0 p0 a0 a1 K q th w h0 h1 hw hq 0 ⟨by omega, by omega⟩) (cwV 1 hts gX1_complete_X1_goesWell rfl rfl rfl hvX1_goesWell ⟨Nat.le_of_ble_eq_true rfl, Nat.le_of_ble_eq_true rfl⟩) (bD_pre (ci := 1) (q0 := 0) hK hP hD rfl rfl rfl) rfl rfl hl.1 rfl (lv_room (Nat.le_of_ble_eq_true rfl)) dX1_complete_13 ⟨Nat.le_of_ble_eq_true rfl, Nat.le_of_ble_eq_true rfl⟩) hS (fun q9 h => inW_same (w := [(m0, .inr (1, [.int th, .ref t0, .ref k0, .ref p0, .int (iI ((w : Nat) : Int))])), (t0, .inl (cI, 24, .inl (fun j => iI ((tb a0 a1 j : Nat) : Int)))), (k0, .inl (cI, 12, .inl (fun j => iI ((K j : Nat) : Int)))), (p0, .inl (cI, 12, .inl (fun j => iI ((q j : Nat) : Int))))]) (w' := [(m0, .inr (1, [.int th, .ref t0, .ref k0, .ref p0, .int (iI ((w : Nat) : Int))])), (t0, .inl (cI, 24, .inl (fun j => iI ((tb a0 a1 j : Nat) : Int)))), (k0, .inl (cI, 12, .inl (fun j => iI ((K j : Nat) : Int)))), (p0, .inl (cI, 12, .inl (fun j => iI ((q j : Nat) : Int))))]) rfl h) (fun H locs hP hz hk hS => ?_)
  have hD : va_D (inW [(m0, .inr (1, [.int th, .ref t0, .ref k0, .ref p0, .int (iI ((w : Nat) : Int))])), (t0, .inl (cI, 24, .inl (fun j => iI ((tb a0 a1 j : Nat) : Int)))), (k0, .inl (cI, 12, .inl (fun j => iI ((K j : Nat) : Int)))), (p0, .inl (cI, 12, .inl (fun j => iI ((q j : Nat) : Int))))]) [(m0, .inr (1, [.int (iI 0), .ref t0, .ref k0, .ref p0, .int (iI ((w : Nat) : Int))])), (t0, .inl (cI, 24, .inl (fun j => iI ((tb a0 a1 j : Nat) : Int)))), (k0, .inl (cI, 12, .inl (fun j => iI ((K j : Nat) : Int)))), (p0, .inl (cI, 12, .inl (fun j => iI ((q j : Nat) : Int))))] := va_D_same (w := [(m0, .inr (1, [.int th, .ref t0, .ref k0, .ref p0, .int (iI ((w : Nat) : Int))])), (t0, .inl (cI, 24, .inl (fun j => iI ((tb a0 a1 j : Nat) : Int)))), (k0, .inl (cI, 12, .inl (fun j => iI ((K j : Nat) : Int)))), (p0, .inl (cI, 12, .inl (fun j => iI ((q j : Nat) : Int))))]) rfl hD
  refine st_i (y := iI 1) (congrArg iI (bI_t (by decide))) ?_
  refine ib_if_ne (tgt := 21) hx hb dX1_complete_16 (by decide) ⟨by omega, by omega⟩ (fun c_16 => ?_) (fun c_16 => absurd c_16 (by decide))
  refine ib_const hx hb dX1_complete_21 ?_
  refine lv_istore_n (lv' := [(2, .int (iI 0)), (0, .ref m0), (1, .int (iI ((r : Nat) : Int)))]) hx hb dX1_complete_22 rfl hl (by decide) rfl (fun ls hl => ?_)
  refine ib_const hx hb dX1_complete_23 ?_
  refine lv_istore_n (lv' := [(3, .int (iI 0)), (2, .int (iI 0)), (0, .ref m0), (1, .int (iI ((r : Nat) : Int)))]) hx hb dX1_complete_24 rfl hl (by decide) rfl (fun ls hl => ?_)
  have hP : va_P (dC, dI) vwCl [(m0, .inr (1, [.int (iI 0), .ref t0, .ref k0, .ref p0, .int (iI ((w : Nat) : Int))])), (t0, .inl (cI, 24, .inl (fun j => iI ((tb a0 a1 j : Nat) : Int)))), (k0, .inl (cI, 12, .inl (fun j => iI (((mx q K 0) j : Nat) : Int)))), (p0, .inl (cI, 12, .inl (fun j => iI ((q j : Nat) : Int))))] H := va_P_arr (q0 := 2) (f := fun j => iI ((K j : Nat) : Int)) (g := fun j => iI (((mx q K 0) j : Nat) : Int)) (fun j hj => by rw [mx_0]) rfl hP
  have hD : va_D (inW [(m0, .inr (1, [.int th, .ref t0, .ref k0, .ref p0, .int (iI ((w : Nat) : Int))])), (t0, .inl (cI, 24, .inl (fun j => iI ((tb a0 a1 j : Nat) : Int)))), (k0, .inl (cI, 12, .inl (fun j => iI ((K j : Nat) : Int)))), (p0, .inl (cI, 12, .inl (fun j => iI ((q j : Nat) : Int))))]) [(m0, .inr (1, [.int (iI 0), .ref t0, .ref k0, .ref p0, .int (iI ((w : Nat) : Int))])), (t0, .inl (cI, 24, .inl (fun j => iI ((tb a0 a1 j : Nat) : Int)))), (k0, .inl (cI, 12, .inl (fun j => iI (((mx q K 0) j : Nat) : Int)))), (p0, .inl (cI, 12, .inl (fun j => iI ((q j : Nat) : Int))))] := va_D_same (w := [(m0, .inr (1, [.int (iI 0), .ref t0, .ref k0, .ref p0, .int (iI ((w : Nat) : Int))])), (t0, .inl (cI, 24, .inl (fun j => iI ((tb a0 a1 j : Nat) : Int)))), (k0, .inl (cI, 12, .inl (fun j => iI ((K j : Nat) : Int)))), (p0, .inl (cI, 12, .inl (fun j => iI ((q j : Nat) : Int))))]) rfl hD
  have lp_25_1 : ∀ (j n : Nat), n + j = w → ∀ (H : Heap) (locs : List Loc), va_P (dC, dI) vwCl [(m0, .inr (1, [.int (iI 0), .ref t0, .ref k0, .ref p0, .int (iI ((w : Nat) : Int))])), (t0, .inl (cI, 24, .inl (fun j => iI ((tb a0 a1 j : Nat) : Int)))), (k0, .inl (cI, 12, .inl (fun j => iI (((mx q K n) j : Nat) : Int)))), (p0, .inl (cI, 12, .inl (fun j => iI ((q j : Nat) : Int))))] H → va_D (inW [(m0, .inr (1, [.int th, .ref t0, .ref k0, .ref p0, .int (iI ((w : Nat) : Int))])), (t0, .inl (cI, 24, .inl (fun j => iI ((tb a0 a1 j : Nat) : Int)))), (k0, .inl (cI, 12, .inl (fun j => iI ((K j : Nat) : Int)))), (p0, .inl (cI, 12, .inl (fun j => iI ((q j : Nat) : Int))))]) [(m0, .inr (1, [.int (iI 0), .ref t0, .ref k0, .ref p0, .int (iI ((w : Nat) : Int))])), (t0, .inl (cI, 24, .inl (fun j => iI ((tb a0 a1 j : Nat) : Int)))), (k0, .inl (cI, 12, .inl (fun j => iI (((mx q K n) j : Nat) : Int)))), (p0, .inl (cI, 12, .inl (fun j => iI ((q j : Nat) : Int))))] → va_S (inW [(m0, .inr (1, [.int th, .ref t0, .ref k0, .ref p0, .int (iI ((w : Nat) : Int))])), (t0, .inl (cI, 24, .inl (fun j => iI ((tb a0 a1 j : Nat) : Int)))), (k0, .inl (cI, 12, .inl (fun j => iI ((K j : Nat) : Int)))), (p0, .inl (cI, 12, .inl (fun j => iI ((q j : Nat) : Int))))]) s.heap H locs → ∀ ls : Array Slot, lv_has ls 4 [(0, .ref m0), (1, .int (iI ((r : Nat) : Int))), (2, .int (iI ((n : Nat) : Int))), (3, .int (iI ((n : Nat) : Int)))] → W P0 l e (headSpec wsX1_complete { frames := 2, cells := 0, slots := 0, locals := 44 }).room s m ([.ref m0, .int (iI ((r : Nat) : Int))] : List Value).toArray below meth c H locs 0 0 (MQ below (wrQ (dC, dI) (inW [(m0, .inr (1, [.int th, .ref t0, .ref k0, .ref p0, .int (iI ((w : Nat) : Int))])), (t0, .inl (cI, 24, .inl (fun j => iI ((tb a0 a1 j : Nat) : Int)))), (k0, .inl (cI, 12, .inl (fun j => iI ((K j : Nat) : Int)))), (p0, .inl (cI, 12, .inl (fun j => iI ((q j : Nat) : Int))))]) [(m0, .inr (1, [.int (iI 0), .ref t0, .ref k0, .ref p0, .int (iI ((w : Nat) : Int))])), (t0, .inl (cI, 24, .inl (fun j => iI ((tb (sr0 r G a0) (sr1 r G a1) j : Nat) : Int)))), (k0, .inl (cI, 12, .inl (fun j => iI (((cpK q (rw_ r a0 a1) K w e12) j : Nat) : Int)))), (p0, .inl (cI, 12, .inl (fun j => iI ((q j : Nat) : Int))))] (some (.int (iI ((G 0 : Nat) : Int))))) ([.ref m0, .int (iI ((r : Nat) : Int))] : List Value).toArray s 0 0 (inW [(m0, .inr (1, [.int th, .ref t0, .ref k0, .ref p0, .int (iI ((w : Nat) : Int))])), (t0, .inl (cI, 24, .inl (fun j => iI ((tb a0 a1 j : Nat) : Int)))), (k0, .inl (cI, 12, .inl (fun j => iI ((K j : Nat) : Int)))), (p0, .inl (cI, 12, .inl (fun j => iI ((q j : Nat) : Int))))])) (F0 m 25 ls []) := by
    intro j
    induction j with
    | zero =>
      intro n hn_25  H locs hP hD hS ls hl
      refine lv_iload_n hx hb dX1_complete_25 rfl (lv_at hl 3 rfl) ?_
      refine lv_aload_n hx hb dX1_complete_26 rfl (lv_at hl 0 rfl) ?_
      refine va_get (D := (dC, dI)) (ci := 1) (v := .int (iI ((w : Nat) : Int))) (C := RX1) (T := TX1) (N := 5) hx hb hts hinX hown hK hP 0 rfl rfl 4 (by decide) (hts (.fieldLink RX1 88 "ToneRowsModel" "written" "I") (by decide +kernel)) (fun _ h9 => h9) rfl dX1_complete_27 ?_
      refine ib_icmp_ge (tgt := 54) hx hb dX1_complete_30 (by decide) ⟨by omega, by omega⟩ ⟨by omega, by omega⟩ (fun c_30 => ?_) (fun c_30 => absurd c_30 (by omega))
      have hl : lv_has ls 4 [(0, .ref m0), (1, .int (iI ((r : Nat) : Int))), (2, .int (iI ((cpC q (rw_ r a0 a1) w 0 : Nat) : Int))), (3, .int (iI ((n : Nat) : Int)))] := by
        have e9 : iI ((n : Nat) : Int) = iI ((cpC q (rw_ r a0 a1) w 0 : Nat) : Int) := congrArg (fun z : Nat => iI ((z : Nat) : Int)) (show n = w by omega)
        rw [← e9]; exact hl
      refine ib_const hx hb dX1_complete_54 ?_
      refine lv_istore_n (lv' := [(3, .int (iI 0)), (0, .ref m0), (1, .int (iI ((r : Nat) : Int))), (2, .int (iI ((cpC q (rw_ r a0 a1) w 0 : Nat) : Int)))]) hx hb dX1_complete_55 rfl hl (by decide) rfl (fun ls hl => ?_)
      have hP : va_P (dC, dI) vwCl [(m0, .inr (1, [.int (iI 0), .ref t0, .ref k0, .ref p0, .int (iI ((w : Nat) : Int))])), (t0, .inl (cI, 24, .inl (fun j => iI ((tb a0 a1 j : Nat) : Int)))), (k0, .inl (cI, 12, .inl (fun j => iI (((cpK q (rw_ r a0 a1) K w 0) j : Nat) : Int)))), (p0, .inl (cI, 12, .inl (fun j => iI ((q j : Nat) : Int))))] H := va_P_arr (q0 := 2) (f := fun j => iI (((mx q K n) j : Nat) : Int)) (g := fun j => iI (((cpK q (rw_ r a0 a1) K w 0) j : Nat) : Int)) (fun j hj => by rw [show n = w by omega]; rfl) rfl hP
      have hD : va_D (inW [(m0, .inr (1, [.int th, .ref t0, .ref k0, .ref p0, .int (iI ((w : Nat) : Int))])), (t0, .inl (cI, 24, .inl (fun j => iI ((tb a0 a1 j : Nat) : Int)))), (k0, .inl (cI, 12, .inl (fun j => iI ((K j : Nat) : Int)))), (p0, .inl (cI, 12, .inl (fun j => iI ((q j : Nat) : Int))))]) [(m0, .inr (1, [.int (iI 0), .ref t0, .ref k0, .ref p0, .int (iI ((w : Nat) : Int))])), (t0, .inl (cI, 24, .inl (fun j => iI ((tb a0 a1 j : Nat) : Int)))), (k0, .inl (cI, 12, .inl (fun j => iI (((cpK q (rw_ r a0 a1) K w 0) j : Nat) : Int)))), (p0, .inl (cI, 12, .inl (fun j => iI ((q j : Nat) : Int))))] := va_D_same (w := [(m0, .inr (1, [.int (iI 0), .ref t0, .ref k0, .ref p0, .int (iI ((w : Nat) : Int))])), (t0, .inl (cI, 24, .inl (fun j => iI ((tb a0 a1 j : Nat) : Int)))), (k0, .inl (cI, 12, .inl (fun j => iI (((mx q K n) j : Nat) : Int)))), (p0, .inl (cI, 12, .inl (fun j => iI ((q j : Nat) : Int))))]) rfl hD
      have lp_56_2 : ∀ (j o : Nat), o + j = 12 → ∀ (H : Heap) (locs : List Loc), va_P (dC, dI) vwCl [(m0, .inr (1, [.int (iI 0), .ref t0, .ref k0, .ref p0, .int (iI ((w : Nat) : Int))])), (t0, .inl (cI, 24, .inl (fun j => iI ((tb a0 a1 j : Nat) : Int)))), (k0, .inl (cI, 12, .inl (fun j => iI (((cpK q (rw_ r a0 a1) K w o) j : Nat) : Int)))), (p0, .inl (cI, 12, .inl (fun j => iI ((q j : Nat) : Int))))] H → va_D (inW [(m0, .inr (1, [.int th, .ref t0, .ref k0, .ref p0, .int (iI ((w : Nat) : Int))])), (t0, .inl (cI, 24, .inl (fun j => iI ((tb a0 a1 j : Nat) : Int)))), (k0, .inl (cI, 12, .inl (fun j => iI ((K j : Nat) : Int)))), (p0, .inl (cI, 12, .inl (fun j => iI ((q j : Nat) : Int))))]) [(m0, .inr (1, [.int (iI 0), .ref t0, .ref k0, .ref p0, .int (iI ((w : Nat) : Int))])), (t0, .inl (cI, 24, .inl (fun j => iI ((tb a0 a1 j : Nat) : Int)))), (k0, .inl (cI, 12, .inl (fun j => iI (((cpK q (rw_ r a0 a1) K w o) j : Nat) : Int)))), (p0, .inl (cI, 12, .inl (fun j => iI ((q j : Nat) : Int))))] → va_S (inW [(m0, .inr (1, [.int th, .ref t0, .ref k0, .ref p0, .int (iI ((w : Nat) : Int))])), (t0, .inl (cI, 24, .inl (fun j => iI ((tb a0 a1 j : Nat) : Int)))), (k0, .inl (cI, 12, .inl (fun j => iI ((K j : Nat) : Int)))), (p0, .inl (cI, 12, .inl (fun j => iI ((q j : Nat) : Int))))]) s.heap H locs → ∀ ls : Array Slot, lv_has ls 4 [(0, .ref m0), (1, .int (iI ((r : Nat) : Int))), (2, .int (iI ((cpC q (rw_ r a0 a1) w o : Nat) : Int))), (3, .int (iI ((o : Nat) : Int)))] → W P0 l e (headSpec wsX1_complete { frames := 2, cells := 0, slots := 0, locals := 44 }).room s m ([.ref m0, .int (iI ((r : Nat) : Int))] : List Value).toArray below meth c H locs 0 0 (MQ below (wrQ (dC, dI) (inW [(m0, .inr (1, [.int th, .ref t0, .ref k0, .ref p0, .int (iI ((w : Nat) : Int))])), (t0, .inl (cI, 24, .inl (fun j => iI ((tb a0 a1 j : Nat) : Int)))), (k0, .inl (cI, 12, .inl (fun j => iI ((K j : Nat) : Int)))), (p0, .inl (cI, 12, .inl (fun j => iI ((q j : Nat) : Int))))]) [(m0, .inr (1, [.int (iI 0), .ref t0, .ref k0, .ref p0, .int (iI ((w : Nat) : Int))])), (t0, .inl (cI, 24, .inl (fun j => iI ((tb (sr0 r G a0) (sr1 r G a1) j : Nat) : Int)))), (k0, .inl (cI, 12, .inl (fun j => iI (((cpK q (rw_ r a0 a1) K w e12) j : Nat) : Int)))), (p0, .inl (cI, 12, .inl (fun j => iI ((q j : Nat) : Int))))] (some (.int (iI ((G 0 : Nat) : Int))))) ([.ref m0, .int (iI ((r : Nat) : Int))] : List Value).toArray s 0 0 (inW [(m0, .inr (1, [.int th, .ref t0, .ref k0, .ref p0, .int (iI ((w : Nat) : Int))])), (t0, .inl (cI, 24, .inl (fun j => iI ((tb a0 a1 j : Nat) : Int)))), (k0, .inl (cI, 12, .inl (fun j => iI ((K j : Nat) : Int)))), (p0, .inl (cI, 12, .inl (fun j => iI ((q j : Nat) : Int))))])) (F0 m 56 ls []) := by
        intro j
        induction j with
        | zero =>
          intro o hn_56  H locs hP hD hS ls hl
          have hcc := cpC_le q (rw_ r a0 a1) w o
          have hK12 : lt12 (cpK q (rw_ r a0 a1) K w e12) := fun j hj => by rw [hce j hj]; exact hcl j hj
          refine lv_iload_n hx hb dX1_complete_56 rfl (lv_at hl 3 rfl) ?_
          refine ib_bi hx hb dX1_complete_57 (by decide) ?_
          refine ib_icmp_ge (tgt := 96) hx hb dX1_complete_59 (by decide) ⟨by omega, by omega⟩ ⟨by omega, by omega⟩ (fun c_59 => ?_) (fun c_59 => absurd c_59 (by omega))
          have hP : va_P (dC, dI) vwCl [(m0, .inr (1, [.int (iI 0), .ref t0, .ref k0, .ref p0, .int (iI ((w : Nat) : Int))])), (t0, .inl (cI, 24, .inl (fun j => iI ((tb a0 a1 j : Nat) : Int)))), (k0, .inl (cI, 12, .inl (fun j => iI (((cpK q (rw_ r a0 a1) K w e12) j : Nat) : Int)))), (p0, .inl (cI, 12, .inl (fun j => iI ((q j : Nat) : Int))))] H := va_P_arr (q0 := 2) (f := fun j => iI (((cpK q (rw_ r a0 a1) K w o) j : Nat) : Int)) (g := fun j => iI (((cpK q (rw_ r a0 a1) K w e12) j : Nat) : Int)) (fun j hj => by rw [show o = e12 by omega]) rfl hP
          have hD : va_D (inW [(m0, .inr (1, [.int th, .ref t0, .ref k0, .ref p0, .int (iI ((w : Nat) : Int))])), (t0, .inl (cI, 24, .inl (fun j => iI ((tb a0 a1 j : Nat) : Int)))), (k0, .inl (cI, 12, .inl (fun j => iI ((K j : Nat) : Int)))), (p0, .inl (cI, 12, .inl (fun j => iI ((q j : Nat) : Int))))]) [(m0, .inr (1, [.int (iI 0), .ref t0, .ref k0, .ref p0, .int (iI ((w : Nat) : Int))])), (t0, .inl (cI, 24, .inl (fun j => iI ((tb a0 a1 j : Nat) : Int)))), (k0, .inl (cI, 12, .inl (fun j => iI (((cpK q (rw_ r a0 a1) K w e12) j : Nat) : Int)))), (p0, .inl (cI, 12, .inl (fun j => iI ((q j : Nat) : Int))))] := va_D_same (w := [(m0, .inr (1, [.int (iI 0), .ref t0, .ref k0, .ref p0, .int (iI ((w : Nat) : Int))])), (t0, .inl (cI, 24, .inl (fun j => iI ((tb a0 a1 j : Nat) : Int)))), (k0, .inl (cI, 12, .inl (fun j => iI (((cpK q (rw_ r a0 a1) K w o) j : Nat) : Int)))), (p0, .inl (cI, 12, .inl (fun j => iI ((q j : Nat) : Int))))]) rfl hD
          refine lv_aload_n hx hb dX1_complete_96 rfl (lv_at hl 0 rfl) ?_
          refine lv_iload_n hx hb dX1_complete_97 rfl (lv_at hl 1 rfl) ?_
          refine wr_call (va_runV (As := [.int (iI ((r : Nat) : Int))]) (rest := []) ⟨hx, hb, hml, hown, hts⟩ (mX1_lay l dC dI cI m0 t0 k0 p0 a0 a1 (cpK q (rw_ r a0 a1) K w e12) q (iI 0) w h0 h1 hw hq r (by omega) hK12) (cwV 1 hts gX1_complete_X1_lay rfl rfl rfl hvX1_lay ⟨Nat.le_of_ble_eq_true rfl, Nat.le_of_ble_eq_true rfl⟩) (bD_pre (ci := 1) (q0 := 0) hK hP hD rfl rfl rfl) rfl rfl hl.1 rfl (lv_room (Nat.le_of_ble_eq_true rfl)) dX1_complete_98 ⟨Nat.le_of_ble_eq_true rfl, Nat.le_of_ble_eq_true rfl⟩) hS (fun q9 h => inW_same (w := [(m0, .inr (1, [.int (iI 0), .ref t0, .ref k0, .ref p0, .int (iI ((w : Nat) : Int))])), (t0, .inl (cI, 24, .inl (fun j => iI ((tb a0 a1 j : Nat) : Int)))), (k0, .inl (cI, 12, .inl (fun j => iI (((cpK q (rw_ r a0 a1) K w e12) j : Nat) : Int)))), (p0, .inl (cI, 12, .inl (fun j => iI ((q j : Nat) : Int))))]) (w' := [(m0, .inr (1, [.int th, .ref t0, .ref k0, .ref p0, .int (iI ((w : Nat) : Int))])), (t0, .inl (cI, 24, .inl (fun j => iI ((tb a0 a1 j : Nat) : Int)))), (k0, .inl (cI, 12, .inl (fun j => iI ((K j : Nat) : Int)))), (p0, .inl (cI, 12, .inl (fun j => iI ((q j : Nat) : Int))))]) rfl h) (fun H locs hP hz hk hS => ?_)
          have hD : va_D (inW [(m0, .inr (1, [.int th, .ref t0, .ref k0, .ref p0, .int (iI ((w : Nat) : Int))])), (t0, .inl (cI, 24, .inl (fun j => iI ((tb a0 a1 j : Nat) : Int)))), (k0, .inl (cI, 12, .inl (fun j => iI ((K j : Nat) : Int)))), (p0, .inl (cI, 12, .inl (fun j => iI ((q j : Nat) : Int))))]) [(m0, .inr (1, [.int (iI 0), .ref t0, .ref k0, .ref p0, .int (iI ((w : Nat) : Int))])), (t0, .inl (cI, 24, .inl (fun j => iI ((tb (sr0 r (cpK q (rw_ r a0 a1) K w e12) a0) (sr1 r (cpK q (rw_ r a0 a1) K w e12) a1) j : Nat) : Int)))), (k0, .inl (cI, 12, .inl (fun j => iI (((cpK q (rw_ r a0 a1) K w e12) j : Nat) : Int)))), (p0, .inl (cI, 12, .inl (fun j => iI ((q j : Nat) : Int))))] := va_D_same (w := [(m0, .inr (1, [.int (iI 0), .ref t0, .ref k0, .ref p0, .int (iI ((w : Nat) : Int))])), (t0, .inl (cI, 24, .inl (fun j => iI ((tb a0 a1 j : Nat) : Int)))), (k0, .inl (cI, 12, .inl (fun j => iI (((cpK q (rw_ r a0 a1) K w e12) j : Nat) : Int)))), (p0, .inl (cI, 12, .inl (fun j => iI ((q j : Nat) : Int))))]) rfl hD
          refine st_i (y := iI ((G 0 : Nat) : Int)) (congrArg (fun z : Nat => iI ((z : Nat) : Int)) (hce 0 (by decide))) ?_
          have hP : va_P (dC, dI) vwCl [(m0, .inr (1, [.int (iI 0), .ref t0, .ref k0, .ref p0, .int (iI ((w : Nat) : Int))])), (t0, .inl (cI, 24, .inl (fun j => iI ((tb (sr0 r G a0) (sr1 r G a1) j : Nat) : Int)))), (k0, .inl (cI, 12, .inl (fun j => iI (((cpK q (rw_ r a0 a1) K w e12) j : Nat) : Int)))), (p0, .inl (cI, 12, .inl (fun j => iI ((q j : Nat) : Int))))] H := va_P_arr (q0 := 1) (f := fun j => iI ((tb (sr0 r (cpK q (rw_ r a0 a1) K w e12) a0) (sr1 r (cpK q (rw_ r a0 a1) K w e12) a1) j : Nat) : Int)) (g := fun j => iI ((tb (sr0 r G a0) (sr1 r G a1) j : Nat) : Int)) (fun j hj => tb_cg hce hj) rfl hP
          have hD : va_D (inW [(m0, .inr (1, [.int th, .ref t0, .ref k0, .ref p0, .int (iI ((w : Nat) : Int))])), (t0, .inl (cI, 24, .inl (fun j => iI ((tb a0 a1 j : Nat) : Int)))), (k0, .inl (cI, 12, .inl (fun j => iI ((K j : Nat) : Int)))), (p0, .inl (cI, 12, .inl (fun j => iI ((q j : Nat) : Int))))]) [(m0, .inr (1, [.int (iI 0), .ref t0, .ref k0, .ref p0, .int (iI ((w : Nat) : Int))])), (t0, .inl (cI, 24, .inl (fun j => iI ((tb (sr0 r G a0) (sr1 r G a1) j : Nat) : Int)))), (k0, .inl (cI, 12, .inl (fun j => iI (((cpK q (rw_ r a0 a1) K w e12) j : Nat) : Int)))), (p0, .inl (cI, 12, .inl (fun j => iI ((q j : Nat) : Int))))] := va_D_same (w := [(m0, .inr (1, [.int (iI 0), .ref t0, .ref k0, .ref p0, .int (iI ((w : Nat) : Int))])), (t0, .inl (cI, 24, .inl (fun j => iI ((tb (sr0 r (cpK q (rw_ r a0 a1) K w e12) a0) (sr1 r (cpK q (rw_ r a0 a1) K w e12) a1) j : Nat) : Int)))), (k0, .inl (cI, 12, .inl (fun j => iI (((cpK q (rw_ r a0 a1) K w e12) j : Nat) : Int)))), (p0, .inl (cI, 12, .inl (fun j => iI ((q j : Nat) : Int))))]) rfl hD
          exact W.iret hx hb hr (fun t ht _ => ⟨rfl, by rw [ht]; exact hP, hS.F ht⟩) hS.2.2 dX1_complete_101
        | succ j ih_56_2 =>
          intro o hn_56  H locs hP hD hS ls hl
          have hcc := cpC_le q (rw_ r a0 a1) w o
          have hK12 : lt12 (cpK q (rw_ r a0 a1) K w e12) := fun j hj => by rw [hce j hj]; exact hcl j hj
          refine lv_iload_n hx hb dX1_complete_56 rfl (lv_at hl 3 rfl) ?_
          refine ib_bi hx hb dX1_complete_57 (by decide) ?_
          refine ib_icmp_ge (tgt := 96) hx hb dX1_complete_59 (by decide) ⟨by omega, by omega⟩ ⟨by omega, by omega⟩ (fun c_59 => absurd c_59 (by omega)) (fun c_59 => ?_)
          refine lv_aload_n hx hb dX1_complete_62 rfl (lv_at hl 0 rfl) ?_
          refine lv_aload_n hx hb dX1_complete_63 rfl (lv_at hl 0 rfl) ?_
          refine lv_iload_n hx hb dX1_complete_64 rfl (lv_at hl 1 rfl) ?_
          refine lv_iload_n hx hb dX1_complete_65 rfl (lv_at hl 3 rfl) ?_
          refine rd_call (va_runV (As := [.int (iI ((r : Nat) : Int)), .int (iI ((o : Nat) : Int))]) (rest := [.ref m0]) ⟨hx, hb, hml, hown, hts⟩ (mX1_at l dC dI cI m0 t0 k0 p0 a0 a1 (cpK q (rw_ r a0 a1) K w o) q (iI 0) w h0 h1 hw hq r o (by omega) (by omega)) (cwV 2 hts gX1_complete_X1_at rfl rfl rfl hvX1_at ⟨Nat.le_of_ble_eq_true rfl, Nat.le_of_ble_eq_true rfl⟩) (bW_pre (ci := 1) (q0 := 0) hK hP rfl rfl rfl) rfl rfl hl.1 rfl (lv_room (Nat.le_of_ble_eq_true rfl)) dX1_complete_66 ⟨Nat.le_of_ble_eq_true rfl, Nat.le_of_ble_eq_true rfl⟩) ?_
          have hr_66 := rw_lt h0 h1 r (i := o) (by omega)
          refine rd_call (va_runV (As := [.int (iI ((rw_ r a0 a1 o : Nat) : Int))]) (rest := []) ⟨hx, hb, hml, hown, hts⟩ (mX1_isWritten l dC dI cI m0 t0 k0 p0 a0 a1 (cpK q (rw_ r a0 a1) K w o) q (iI 0) w h0 h1 hw hq (rw_ r a0 a1 o) (by omega)) (cwV 1 hts gX1_complete_X1_isWritten rfl rfl rfl hvX1_isWritten ⟨Nat.le_of_ble_eq_true rfl, Nat.le_of_ble_eq_true rfl⟩) (bW_pre (ci := 1) (q0 := 0) hK hP rfl rfl rfl) rfl rfl hl.1 rfl (lv_room (Nat.le_of_ble_eq_true rfl)) dX1_complete_69 ⟨Nat.le_of_ble_eq_true rfl, Nat.le_of_ble_eq_true rfl⟩) ?_
          refine bb_ne (tgt := 90) hx hb dX1_complete_72 (by decide) (fun c_72 => ?_) (fun c_72 => ?_)
          · skip
            refine lv_iinc (v := iI ((o + 1 : Nat) : Int)) (lv' := [(3, .int (iI ((o + 1 : Nat) : Int))), (0, .ref m0), (1, .int (iI ((r : Nat) : Int))), (2, .int (iI ((cpC q (rw_ r a0 a1) w o : Nat) : Int)))]) hx hb dX1_complete_90 hl (k := 3) rfl (iI_inc (by omega)) (by decide) rfl (fun ls hl => ?_)
            refine lv_goto (tgt := 56) hx hb dX1_complete_93 (by decide) ?_
            have hl : lv_has ls 4 [(3, .int (iI ((o + 1 : Nat) : Int))), (0, .ref m0), (1, .int (iI ((r : Nat) : Int))), (2, .int (iI ((cpC q (rw_ r a0 a1) w (o + 1) : Nat) : Int)))] := by
              have e9 : iI ((cpC q (rw_ r a0 a1) w o : Nat) : Int) = iI ((cpC q (rw_ r a0 a1) w (o + 1) : Nat) : Int) := congrArg (fun z : Nat => iI ((z : Nat) : Int)) (if_pos c_72).symm
              rw [← e9]; exact hl
            have hP : va_P (dC, dI) vwCl [(m0, .inr (1, [.int (iI 0), .ref t0, .ref k0, .ref p0, .int (iI ((w : Nat) : Int))])), (t0, .inl (cI, 24, .inl (fun j => iI ((tb a0 a1 j : Nat) : Int)))), (k0, .inl (cI, 12, .inl (fun j => iI (((cpK q (rw_ r a0 a1) K w (o + 1)) j : Nat) : Int)))), (p0, .inl (cI, 12, .inl (fun j => iI ((q j : Nat) : Int))))] H := va_P_arr (q0 := 2) (f := fun j => iI (((cpK q (rw_ r a0 a1) K w o) j : Nat) : Int)) (g := fun j => iI (((cpK q (rw_ r a0 a1) K w (o + 1)) j : Nat) : Int)) (fun j hj => congrArg (fun z : Nat => iI ((z : Nat) : Int)) (congrFun (if_pos c_72).symm j)) rfl hP
            have hD : va_D (inW [(m0, .inr (1, [.int th, .ref t0, .ref k0, .ref p0, .int (iI ((w : Nat) : Int))])), (t0, .inl (cI, 24, .inl (fun j => iI ((tb a0 a1 j : Nat) : Int)))), (k0, .inl (cI, 12, .inl (fun j => iI ((K j : Nat) : Int)))), (p0, .inl (cI, 12, .inl (fun j => iI ((q j : Nat) : Int))))]) [(m0, .inr (1, [.int (iI 0), .ref t0, .ref k0, .ref p0, .int (iI ((w : Nat) : Int))])), (t0, .inl (cI, 24, .inl (fun j => iI ((tb a0 a1 j : Nat) : Int)))), (k0, .inl (cI, 12, .inl (fun j => iI (((cpK q (rw_ r a0 a1) K w (o + 1)) j : Nat) : Int)))), (p0, .inl (cI, 12, .inl (fun j => iI ((q j : Nat) : Int))))] := va_D_same (w := [(m0, .inr (1, [.int (iI 0), .ref t0, .ref k0, .ref p0, .int (iI ((w : Nat) : Int))])), (t0, .inl (cI, 24, .inl (fun j => iI ((tb a0 a1 j : Nat) : Int)))), (k0, .inl (cI, 12, .inl (fun j => iI (((cpK q (rw_ r a0 a1) K w o) j : Nat) : Int)))), (p0, .inl (cI, 12, .inl (fun j => iI ((q j : Nat) : Int))))]) rfl hD
            exact ih_56_2 (o + 1) (by omega)  _ _ hP hD hS _ (lv_sub hl [1, 2, 3, 0] rfl)
          · skip
            refine lv_aload_n hx hb dX1_complete_75 rfl (lv_at hl 0 rfl) ?_
            refine va_get (D := (dC, dI)) (ci := 1) (v := .ref k0) (C := RX1) (T := TX1) (N := 5) hx hb hts hinX hown hK hP 0 rfl rfl 2 (by decide) (hts (.fieldLink RX1 13 "ToneRowsModel" "kept" "[I") (by decide +kernel)) (fun _ h9 => h9) rfl dX1_complete_76 ?_
            refine lv_iload_n hx hb dX1_complete_79 rfl (lv_at hl 2 rfl) ?_
            refine lv_aload_n hx hb dX1_complete_80 rfl (lv_at hl 0 rfl) ?_
            refine lv_iload_n hx hb dX1_complete_81 rfl (lv_at hl 1 rfl) ?_
            refine lv_iload_n hx hb dX1_complete_82 rfl (lv_at hl 3 rfl) ?_
            refine rd_call (va_runV (As := [.int (iI ((r : Nat) : Int)), .int (iI ((o : Nat) : Int))]) (rest := [.int (iI ((cpC q (rw_ r a0 a1) w o : Nat) : Int)), .ref k0]) ⟨hx, hb, hml, hown, hts⟩ (mX1_at l dC dI cI m0 t0 k0 p0 a0 a1 (cpK q (rw_ r a0 a1) K w o) q (iI 0) w h0 h1 hw hq r o (by omega) (by omega)) (cwV 2 hts gX1_complete_X1_at rfl rfl rfl hvX1_at ⟨Nat.le_of_ble_eq_true rfl, Nat.le_of_ble_eq_true rfl⟩) (bW_pre (ci := 1) (q0 := 0) hK hP rfl rfl rfl) rfl rfl hl.1 rfl (lv_room (Nat.le_of_ble_eq_true rfl)) dX1_complete_83 ⟨Nat.le_of_ble_eq_true rfl, Nat.le_of_ble_eq_true rfl⟩) ?_
            have hr_83 := rw_lt h0 h1 r (i := o) (by omega)
            have hcp9 := hcp o (by omega) c_72
            refine ib_ast (f := fun j => iI (((cpK q (rw_ r a0 a1) K w o) j : Nat) : Int)) (i := cpC q (rw_ r a0 a1) w o) (x := iI ((rw_ r a0 a1 o : Nat) : Int)) hx hb hK hP hD hS 2 0 (fun j => iI (((upq (cpK q (rw_ r a0 a1) K w o) (cpC q (rw_ r a0 a1) w o) (rw_ r a0 a1 o)) j : Nat) : Int)) rfl rfl (by first | rfl | omega) (by omega) (by omega) (fun j hj => by unfold upq; split <;> rfl) dX1_complete_86 (fun H locs hP hD hS => ?_)
            have hP : va_P (dC, dI) vwCl [(m0, .inr (1, [.int (iI 0), .ref t0, .ref k0, .ref p0, .int (iI ((w : Nat) : Int))])), (t0, .inl (cI, 24, .inl (fun j => iI ((tb a0 a1 j : Nat) : Int)))), (k0, .inl (cI, 12, .inl (fun j => iI (((upq (cpK q (rw_ r a0 a1) K w o) (cpC q (rw_ r a0 a1) w o) (rw_ r a0 a1 o)) j : Nat) : Int)))), (p0, .inl (cI, 12, .inl (fun j => iI ((q j : Nat) : Int))))] H := hP
            have hD : va_D (inW [(m0, .inr (1, [.int th, .ref t0, .ref k0, .ref p0, .int (iI ((w : Nat) : Int))])), (t0, .inl (cI, 24, .inl (fun j => iI ((tb a0 a1 j : Nat) : Int)))), (k0, .inl (cI, 12, .inl (fun j => iI ((K j : Nat) : Int)))), (p0, .inl (cI, 12, .inl (fun j => iI ((q j : Nat) : Int))))]) [(m0, .inr (1, [.int (iI 0), .ref t0, .ref k0, .ref p0, .int (iI ((w : Nat) : Int))])), (t0, .inl (cI, 24, .inl (fun j => iI ((tb a0 a1 j : Nat) : Int)))), (k0, .inl (cI, 12, .inl (fun j => iI (((upq (cpK q (rw_ r a0 a1) K w o) (cpC q (rw_ r a0 a1) w o) (rw_ r a0 a1 o)) j : Nat) : Int)))), (p0, .inl (cI, 12, .inl (fun j => iI ((q j : Nat) : Int))))] := hD
            refine lv_iinc (v := iI (((cpC q (rw_ r a0 a1) w o) + 1 : Nat) : Int)) (lv' := [(2, .int (iI (((cpC q (rw_ r a0 a1) w o) + 1 : Nat) : Int))), (0, .ref m0), (1, .int (iI ((r : Nat) : Int))), (3, .int (iI ((o : Nat) : Int)))]) hx hb dX1_complete_87 hl (k := 2) rfl (iI_inc (by omega)) (by decide) rfl (fun ls hl => ?_)
            refine lv_iinc (v := iI ((o + 1 : Nat) : Int)) (lv' := [(3, .int (iI ((o + 1 : Nat) : Int))), (2, .int (iI (((cpC q (rw_ r a0 a1) w o) + 1 : Nat) : Int))), (0, .ref m0), (1, .int (iI ((r : Nat) : Int)))]) hx hb dX1_complete_90 hl (k := 3) rfl (iI_inc (by omega)) (by decide) rfl (fun ls hl => ?_)
            refine lv_goto (tgt := 56) hx hb dX1_complete_93 (by decide) ?_
            have hl : lv_has ls 4 [(3, .int (iI ((o + 1 : Nat) : Int))), (2, .int (iI ((cpC q (rw_ r a0 a1) w (o + 1) : Nat) : Int))), (0, .ref m0), (1, .int (iI ((r : Nat) : Int)))] := by
              have e9 : iI (((cpC q (rw_ r a0 a1) w o) + 1 : Nat) : Int) = iI ((cpC q (rw_ r a0 a1) w (o + 1) : Nat) : Int) := congrArg (fun z : Nat => iI ((z : Nat) : Int)) (if_neg c_72).symm
              rw [← e9]; exact hl
            have hP : va_P (dC, dI) vwCl [(m0, .inr (1, [.int (iI 0), .ref t0, .ref k0, .ref p0, .int (iI ((w : Nat) : Int))])), (t0, .inl (cI, 24, .inl (fun j => iI ((tb a0 a1 j : Nat) : Int)))), (k0, .inl (cI, 12, .inl (fun j => iI (((cpK q (rw_ r a0 a1) K w (o + 1)) j : Nat) : Int)))), (p0, .inl (cI, 12, .inl (fun j => iI ((q j : Nat) : Int))))] H := va_P_arr (q0 := 2) (f := fun j => iI (((upq (cpK q (rw_ r a0 a1) K w o) (cpC q (rw_ r a0 a1) w o) (rw_ r a0 a1 o)) j : Nat) : Int)) (g := fun j => iI (((cpK q (rw_ r a0 a1) K w (o + 1)) j : Nat) : Int)) (fun j hj => congrArg (fun z : Nat => iI ((z : Nat) : Int)) (congrFun (if_neg c_72).symm j)) rfl hP
            have hD : va_D (inW [(m0, .inr (1, [.int th, .ref t0, .ref k0, .ref p0, .int (iI ((w : Nat) : Int))])), (t0, .inl (cI, 24, .inl (fun j => iI ((tb a0 a1 j : Nat) : Int)))), (k0, .inl (cI, 12, .inl (fun j => iI ((K j : Nat) : Int)))), (p0, .inl (cI, 12, .inl (fun j => iI ((q j : Nat) : Int))))]) [(m0, .inr (1, [.int (iI 0), .ref t0, .ref k0, .ref p0, .int (iI ((w : Nat) : Int))])), (t0, .inl (cI, 24, .inl (fun j => iI ((tb a0 a1 j : Nat) : Int)))), (k0, .inl (cI, 12, .inl (fun j => iI (((cpK q (rw_ r a0 a1) K w (o + 1)) j : Nat) : Int)))), (p0, .inl (cI, 12, .inl (fun j => iI ((q j : Nat) : Int))))] := va_D_same (w := [(m0, .inr (1, [.int (iI 0), .ref t0, .ref k0, .ref p0, .int (iI ((w : Nat) : Int))])), (t0, .inl (cI, 24, .inl (fun j => iI ((tb a0 a1 j : Nat) : Int)))), (k0, .inl (cI, 12, .inl (fun j => iI (((upq (cpK q (rw_ r a0 a1) K w o) (cpC q (rw_ r a0 a1) w o) (rw_ r a0 a1 o)) j : Nat) : Int)))), (p0, .inl (cI, 12, .inl (fun j => iI ((q j : Nat) : Int))))]) rfl hD
            exact ih_56_2 (o + 1) (by omega)  _ _ hP hD hS _ (lv_sub hl [2, 3, 1, 0] rfl)
      exact lp_56_2 12 0 (by omega)  _ _ hP hD hS _ (lv_sub hl [1, 2, 3, 0] rfl)
    | succ j ih_25_1 =>
      intro n hn_25  H locs hP hD hS ls hl
      refine lv_iload_n hx hb dX1_complete_25 rfl (lv_at hl 3 rfl) ?_
      refine lv_aload_n hx hb dX1_complete_26 rfl (lv_at hl 0 rfl) ?_
      refine va_get (D := (dC, dI)) (ci := 1) (v := .int (iI ((w : Nat) : Int))) (C := RX1) (T := TX1) (N := 5) hx hb hts hinX hown hK hP 0 rfl rfl 4 (by decide) (hts (.fieldLink RX1 88 "ToneRowsModel" "written" "I") (by decide +kernel)) (fun _ h9 => h9) rfl dX1_complete_27 ?_
      refine ib_icmp_ge (tgt := 54) hx hb dX1_complete_30 (by decide) ⟨by omega, by omega⟩ ⟨by omega, by omega⟩ (fun c_30 => absurd c_30 (by omega)) (fun c_30 => ?_)
      refine lv_aload_n hx hb dX1_complete_33 rfl (lv_at hl 0 rfl) ?_
      refine va_get (D := (dC, dI)) (ci := 1) (v := .ref k0) (C := RX1) (T := TX1) (N := 5) hx hb hts hinX hown hK hP 0 rfl rfl 2 (by decide) (hts (.fieldLink RX1 13 "ToneRowsModel" "kept" "[I") (by decide +kernel)) (fun _ h9 => h9) rfl dX1_complete_34 ?_
      refine lv_iload_n hx hb dX1_complete_37 rfl (lv_at hl 2 rfl) ?_
      refine lv_aload_n hx hb dX1_complete_38 rfl (lv_at hl 0 rfl) ?_
      refine va_get (D := (dC, dI)) (ci := 1) (v := .ref p0) (C := RX1) (T := TX1) (N := 5) hx hb hts hinX hown hK hP 0 rfl rfl 3 (by decide) (hts (.fieldLink RX1 16 "ToneRowsModel" "phrase" "[I") (by decide +kernel)) (fun _ h9 => h9) rfl dX1_complete_39 ?_
      refine lv_iload_n hx hb dX1_complete_42 rfl (lv_at hl 3 rfl) ?_
      have hqn := hq n (by omega)
      refine ib_ald (f := fun j => iI ((q j : Nat) : Int)) (i := n) (v := iI ((q n : Nat) : Int)) hx hb hK hP 3 0 rfl rfl (by first | rfl | omega) (by omega) (by omega) rfl dX1_complete_43 ?_
      refine ib_ast (f := fun j => iI (((mx q K n) j : Nat) : Int)) (i := n) (x := iI ((q n : Nat) : Int)) hx hb hK hP hD hS 2 0 (fun j => iI (((mx q K (n + 1)) j : Nat) : Int)) rfl rfl (by first | rfl | omega) (by omega) (by omega) (fun j hj => mx_st) dX1_complete_44 (fun H locs hP hD hS => ?_)
      have hP : va_P (dC, dI) vwCl [(m0, .inr (1, [.int (iI 0), .ref t0, .ref k0, .ref p0, .int (iI ((w : Nat) : Int))])), (t0, .inl (cI, 24, .inl (fun j => iI ((tb a0 a1 j : Nat) : Int)))), (k0, .inl (cI, 12, .inl (fun j => iI (((mx q K (n + 1)) j : Nat) : Int)))), (p0, .inl (cI, 12, .inl (fun j => iI ((q j : Nat) : Int))))] H := hP
      have hD : va_D (inW [(m0, .inr (1, [.int th, .ref t0, .ref k0, .ref p0, .int (iI ((w : Nat) : Int))])), (t0, .inl (cI, 24, .inl (fun j => iI ((tb a0 a1 j : Nat) : Int)))), (k0, .inl (cI, 12, .inl (fun j => iI ((K j : Nat) : Int)))), (p0, .inl (cI, 12, .inl (fun j => iI ((q j : Nat) : Int))))]) [(m0, .inr (1, [.int (iI 0), .ref t0, .ref k0, .ref p0, .int (iI ((w : Nat) : Int))])), (t0, .inl (cI, 24, .inl (fun j => iI ((tb a0 a1 j : Nat) : Int)))), (k0, .inl (cI, 12, .inl (fun j => iI (((mx q K (n + 1)) j : Nat) : Int)))), (p0, .inl (cI, 12, .inl (fun j => iI ((q j : Nat) : Int))))] := hD
      refine lv_iinc (v := iI ((n + 1 : Nat) : Int)) (lv' := [(2, .int (iI ((n + 1 : Nat) : Int))), (0, .ref m0), (1, .int (iI ((r : Nat) : Int))), (3, .int (iI ((n : Nat) : Int)))]) hx hb dX1_complete_45 hl (k := 2) rfl (iI_inc (by omega)) (by decide) rfl (fun ls hl => ?_)
      refine lv_iinc (v := iI ((n + 1 : Nat) : Int)) (lv' := [(3, .int (iI ((n + 1 : Nat) : Int))), (2, .int (iI ((n + 1 : Nat) : Int))), (0, .ref m0), (1, .int (iI ((r : Nat) : Int)))]) hx hb dX1_complete_48 hl (k := 3) rfl (iI_inc (by omega)) (by decide) rfl (fun ls hl => ?_)
      refine lv_goto (tgt := 25) hx hb dX1_complete_51 (by decide) ?_
      exact ih_25_1 (n + 1) (by omega)  _ _ hP hD hS _ (lv_sub hl [2, 3, 1, 0] rfl)
  exact lp_25_1 w 0 (by omega)  _ _ hP hD hS _ (lv_sub hl [2, 3, 1, 0] rfl)

set_option maxHeartbeats 4000000 in
set_option maxRecDepth 100000 in
theorem mX1_complete_x1 (l : Launch) (dC : Nat → ClassId) (dI : Nat → Nat → Nat) (cI : ClassId) (m0 t0 k0 p0 : Nat) (a0 a1 K q : Nat → Nat) (th : Int32) (w : Nat) (h0 : lt12 a0) (h1 : lt12 a1) (hw : w ≤ 12) (hq : ∀ i, i < w → q i < 12) (z0 : Int) (hz0 : inI z0) (hbad : ¬ (z0 = 0 ∨ z0 = 1)) : wr l yX1_complete wsX1_complete { frames := 1, cells := 0, slots := 0, locals := 21 } [.ref m0, .int (iI z0)] (dC, dI) [(m0, .inr (1, [.int th, .ref t0, .ref k0, .ref p0, .int (iI ((w : Nat) : Int))])), (t0, .inl (cI, 24, .inl (fun j => iI ((tb a0 a1 j : Nat) : Int)))), (k0, .inl (cI, 12, .inl (fun j => iI ((K j : Nat) : Int)))), (p0, .inl (cI, 12, .inl (fun j => iI ((q j : Nat) : Int))))] [(cI, .int)] [(m0, .inr (1, [.int (iI 1), .ref t0, .ref k0, .ref p0, .int (iI ((w : Nat) : Int))])), (t0, .inl (cI, 24, .inl (fun j => iI ((tb a0 a1 j : Nat) : Int)))), (k0, .inl (cI, 12, .inl (fun j => iI ((K j : Nat) : Int)))), (p0, .inl (cI, 12, .inl (fun j => iI ((q j : Nat) : Int))))] (some (.int (iI 0))) := by
  refine Met.ofW (cc := cX1_complete) (maxL := 4) (ret := (some .int)) (by decide) rfl ?_
  intro P0 e s m args below meth c s₁ B hml hv
  obtain ⟨rfl, hP, hK, hD0⟩ := hv
  have hx := B.exec
  have hb := B.bytes
  have hr := B.returns
  have hts := atoms_spec (ws := wsX1_complete) B.pre
  have hown : s.vm.findClass RX1 = some m.cls := findClass_of_methodNamed B.named
  have hlocks := B.notSynchronized
  have hinX : ∀ w ∈ u_ws RX1 TX1 5, w ∈ wsX1_complete := by decide +kernel
  have hD : va_D (inW [(m0, .inr (1, [.int th, .ref t0, .ref k0, .ref p0, .int (iI ((w : Nat) : Int))])), (t0, .inl (cI, 24, .inl (fun j => iI ((tb a0 a1 j : Nat) : Int)))), (k0, .inl (cI, 12, .inl (fun j => iI ((K j : Nat) : Int)))), (p0, .inl (cI, 12, .inl (fun j => iI ((q j : Nat) : Int))))]) [(m0, .inr (1, [.int th, .ref t0, .ref k0, .ref p0, .int (iI ((w : Nat) : Int))])), (t0, .inl (cI, 24, .inl (fun j => iI ((tb a0 a1 j : Nat) : Int)))), (k0, .inl (cI, 12, .inl (fun j => iI ((K j : Nat) : Int)))), (p0, .inl (cI, 12, .inl (fun j => iI ((q j : Nat) : Int))))] := va_D_in hD0
  have hS : va_S (inW [(m0, .inr (1, [.int th, .ref t0, .ref k0, .ref p0, .int (iI ((w : Nat) : Int))])), (t0, .inl (cI, 24, .inl (fun j => iI ((tb a0 a1 j : Nat) : Int)))), (k0, .inl (cI, 12, .inl (fun j => iI ((K j : Nat) : Int)))), (p0, .inl (cI, 12, .inl (fun j => iI ((q j : Nat) : Int))))]) s.heap s.heap [] := va_S.rf
  have hl := lv_entry ([.ref m0, .int (iI z0)]) (n := 4) (Nat.le_of_ble_eq_true rfl)
  rw [lg_entry_eq]
  generalize (lg_sl ([.ref m0, .int (iI z0)]) ++ List.replicate (4 - (lg_sl ([.ref m0, .int (iI z0)])).length) Slot.unset).toArray = ls at hl ⊢
  have hl : lv_has ls 4 [(0, .ref m0), (1, .int (iI z0))] := hl
  have hza0 := hz0.1
  have hzb0 := hz0.2
  refine lv_aload_n hx hb dX1_complete_0 rfl (lv_at hl 0 rfl) ?_
  refine lv_iload_n hx hb dX1_complete_1 rfl (lv_at hl 1 rfl) ?_
  refine rd_call (va_runS (As := [.int (iI z0)]) (rest := [.ref m0]) ⟨hx, hb, hml, hown, hts⟩ (mX1_isRow l z0 ⟨by omega, by omega⟩) (va_cwS 1 hts gX1_complete_X1_isRow rfl rfl rfl hdX1_isRow ⟨Nat.le_of_ble_eq_true rfl, Nat.le_of_ble_eq_true rfl⟩) tt_pre rfl rfl hl.1 rfl (lv_room (Nat.le_of_ble_eq_true rfl)) dX1_complete_2 ⟨Nat.le_of_ble_eq_true rfl, Nat.le_of_ble_eq_true rfl⟩) ?_
  refine bb_eq (tgt := 12) hx hb dX1_complete_5 (by decide) (fun c_5 => ?_) (fun c_5 => ?_)
  · skip
    refine ib_const hx hb dX1_complete_12 ?_
    refine wr_call (va_runV (As := [.int (iI 1)]) (rest := []) ⟨hx, hb, hml, hown, hts⟩ (mX1_goesWell l dC dI cI m0 t0 k0 p0 a0 a1 K q th w h0 h1 hw hq 1 ⟨by omega, by omega⟩) (cwV 1 hts gX1_complete_X1_goesWell rfl rfl rfl hvX1_goesWell ⟨Nat.le_of_ble_eq_true rfl, Nat.le_of_ble_eq_true rfl⟩) (bD_pre (ci := 1) (q0 := 0) hK hP hD rfl rfl rfl) rfl rfl hl.1 rfl (lv_room (Nat.le_of_ble_eq_true rfl)) dX1_complete_13 ⟨Nat.le_of_ble_eq_true rfl, Nat.le_of_ble_eq_true rfl⟩) hS (fun q9 h => inW_same (w := [(m0, .inr (1, [.int th, .ref t0, .ref k0, .ref p0, .int (iI ((w : Nat) : Int))])), (t0, .inl (cI, 24, .inl (fun j => iI ((tb a0 a1 j : Nat) : Int)))), (k0, .inl (cI, 12, .inl (fun j => iI ((K j : Nat) : Int)))), (p0, .inl (cI, 12, .inl (fun j => iI ((q j : Nat) : Int))))]) (w' := [(m0, .inr (1, [.int th, .ref t0, .ref k0, .ref p0, .int (iI ((w : Nat) : Int))])), (t0, .inl (cI, 24, .inl (fun j => iI ((tb a0 a1 j : Nat) : Int)))), (k0, .inl (cI, 12, .inl (fun j => iI ((K j : Nat) : Int)))), (p0, .inl (cI, 12, .inl (fun j => iI ((q j : Nat) : Int))))]) rfl h) (fun H locs hP hz hk hS => ?_)
    have hD : va_D (inW [(m0, .inr (1, [.int th, .ref t0, .ref k0, .ref p0, .int (iI ((w : Nat) : Int))])), (t0, .inl (cI, 24, .inl (fun j => iI ((tb a0 a1 j : Nat) : Int)))), (k0, .inl (cI, 12, .inl (fun j => iI ((K j : Nat) : Int)))), (p0, .inl (cI, 12, .inl (fun j => iI ((q j : Nat) : Int))))]) [(m0, .inr (1, [.int (iI 1), .ref t0, .ref k0, .ref p0, .int (iI ((w : Nat) : Int))])), (t0, .inl (cI, 24, .inl (fun j => iI ((tb a0 a1 j : Nat) : Int)))), (k0, .inl (cI, 12, .inl (fun j => iI ((K j : Nat) : Int)))), (p0, .inl (cI, 12, .inl (fun j => iI ((q j : Nat) : Int))))] := va_D_same (w := [(m0, .inr (1, [.int th, .ref t0, .ref k0, .ref p0, .int (iI ((w : Nat) : Int))])), (t0, .inl (cI, 24, .inl (fun j => iI ((tb a0 a1 j : Nat) : Int)))), (k0, .inl (cI, 12, .inl (fun j => iI ((K j : Nat) : Int)))), (p0, .inl (cI, 12, .inl (fun j => iI ((q j : Nat) : Int))))]) rfl hD
    refine st_i (y := iI 0) (congrArg iI (bI_f (by decide))) ?_
    refine ib_if_ne (tgt := 21) hx hb dX1_complete_16 (by decide) ⟨by omega, by omega⟩ (fun c_16 => absurd c_16 (by decide)) (fun c_16 => ?_)
    refine ib_const hx hb dX1_complete_19 ?_
    exact W.iret hx hb hr (fun t ht _ => ⟨rfl, by rw [ht]; exact hP, hS.F ht⟩) hS.2.2 dX1_complete_20
  · skip
    refine ib_const hx hb dX1_complete_8 ?_
    refine lv_goto (tgt := 13) hx hb dX1_complete_9 (by decide) ?_
    exfalso; omega
