set_option maxHeartbeats 4000000 in
set_option maxRecDepth 100000 in
theorem mX1_segment_ok (l : Launch) (dC : Nat → ClassId) (dI : Nat → Nat → Nat) (cI : ClassId) (m0 t0 k0 p0 : Nat) (a0 a1 K q : Nat → Nat) (th : Int32) (w : Nat) (h0 : lt12 a0) (h1 : lt12 a1) (hw : w ≤ 12) (hq : ∀ i, i < w → q i < 12) (r i k : Nat) (hr9 : r < 2) (hi : i < 12) (hk1 : 1 ≤ k) (hik : i + k ≤ 12) : wr l yX1_segment wsX1_segment { frames := 3, cells := 0, slots := 0, locals := 74 } [.ref m0, .int (iI ((r : Nat) : Int)), .int (iI ((i : Nat) : Int)), .int (iI ((k : Nat) : Int))] (dC, dI) [(m0, .inr (1, [.int th, .ref t0, .ref k0, .ref p0, .int (iI ((w : Nat) : Int))])), (t0, .inl (cI, 24, .inl (fun j => iI ((tb a0 a1 j : Nat) : Int)))), (k0, .inl (cI, 12, .inl (fun j => iI ((K j : Nat) : Int)))), (p0, .inl (cI, 12, .inl (fun j => iI ((q j : Nat) : Int))))] [(cI, .int)] [(m0, .inr (1, [.int (iI 0), .ref t0, .ref k0, .ref p0, .int (iI ((w : Nat) : Int))])), (t0, .inl (cI, 24, .inl (fun j => iI ((tb a0 a1 j : Nat) : Int)))), (k0, .inl (cI, 12, .inl (fun j => iI ((K j : Nat) : Int)))), (p0, .inl (cI, 12, .inl (fun j => iI ((q j : Nat) : Int))))] (some (.int (iI ((setF (fm (rw_ r a0 a1) (rw_ r a0 a1 0)) i k : Nat) : Int)))) := by
  refine Met.ofW (cc := cX1_segment) (maxL := 5) (ret := (some .int)) (by decide) rfl ?_
  intro P0 e s m args below meth c s₁ B hml hv
  obtain ⟨rfl, hP, hK, hD0⟩ := hv
  have hx := B.exec
  have hb := B.bytes
  have hr := B.returns
  have hts := atoms_spec (ws := wsX1_segment) B.pre
  have hown : s.vm.findClass RX1 = some m.cls := findClass_of_methodNamed B.named
  have hlocks := B.notSynchronized
  have hinX : ∀ w ∈ u_ws RX1 TX1 5, w ∈ wsX1_segment := by decide +kernel
  have hD : va_D (inW [(m0, .inr (1, [.int th, .ref t0, .ref k0, .ref p0, .int (iI ((w : Nat) : Int))])), (t0, .inl (cI, 24, .inl (fun j => iI ((tb a0 a1 j : Nat) : Int)))), (k0, .inl (cI, 12, .inl (fun j => iI ((K j : Nat) : Int)))), (p0, .inl (cI, 12, .inl (fun j => iI ((q j : Nat) : Int))))]) [(m0, .inr (1, [.int th, .ref t0, .ref k0, .ref p0, .int (iI ((w : Nat) : Int))])), (t0, .inl (cI, 24, .inl (fun j => iI ((tb a0 a1 j : Nat) : Int)))), (k0, .inl (cI, 12, .inl (fun j => iI ((K j : Nat) : Int)))), (p0, .inl (cI, 12, .inl (fun j => iI ((q j : Nat) : Int))))] := va_D_in hD0
  have hS : va_S (inW [(m0, .inr (1, [.int th, .ref t0, .ref k0, .ref p0, .int (iI ((w : Nat) : Int))])), (t0, .inl (cI, 24, .inl (fun j => iI ((tb a0 a1 j : Nat) : Int)))), (k0, .inl (cI, 12, .inl (fun j => iI ((K j : Nat) : Int)))), (p0, .inl (cI, 12, .inl (fun j => iI ((q j : Nat) : Int))))]) s.heap s.heap [] := va_S.rf
  have hl := lv_entry ([.ref m0, .int (iI ((r : Nat) : Int)), .int (iI ((i : Nat) : Int)), .int (iI ((k : Nat) : Int))]) (n := 5) (Nat.le_of_ble_eq_true rfl)
  rw [lg_entry_eq]
  generalize (lg_sl ([.ref m0, .int (iI ((r : Nat) : Int)), .int (iI ((i : Nat) : Int)), .int (iI ((k : Nat) : Int))]) ++ List.replicate (5 - (lg_sl ([.ref m0, .int (iI ((r : Nat) : Int)), .int (iI ((i : Nat) : Int)), .int (iI ((k : Nat) : Int))])).length) Slot.unset).toArray = ls at hl ⊢
  have hl : lv_has ls 5 [(0, .ref m0), (1, .int (iI ((r : Nat) : Int))), (2, .int (iI ((i : Nat) : Int))), (3, .int (iI ((k : Nat) : Int)))] := hl
  refine lv_iload_n hx hb dX1_segment_0 rfl (lv_at hl 3 rfl) ?_
  refine ib_const hx hb dX1_segment_1 ?_
  refine ib_bi hx hb dX1_segment_2 (by decide) ?_
  refine rd_call (va_runS (As := [.int (iI ((k : Nat) : Int)), .int (iI 1), .int (iI 12)]) (rest := []) ⟨hx, hb, hml, hown, hts⟩ (mX1_in l ((k : Nat) : Int) 1 12 ⟨by omega, by omega⟩ ⟨by omega, by omega⟩ ⟨by omega, by omega⟩) (va_cwS 3 hts gX1_segment_X1_in rfl rfl rfl hdX1_in ⟨Nat.le_of_ble_eq_true rfl, Nat.le_of_ble_eq_true rfl⟩) tt_pre rfl rfl hl.1 rfl (lv_room (Nat.le_of_ble_eq_true rfl)) dX1_segment_4 ⟨Nat.le_of_ble_eq_true rfl, Nat.le_of_ble_eq_true rfl⟩) ?_
  refine bb_eq (tgt := 22) hx hb dX1_segment_7 (by decide) (fun c_7 => absurd c_7 (by omega)) (fun c_7 => ?_)
  refine lv_iload_n hx hb dX1_segment_10 rfl (lv_at hl 2 rfl) ?_
  refine lv_iload_n hx hb dX1_segment_11 rfl (lv_at hl 3 rfl) ?_
  refine ib_add (z := ((i + k : Nat) : Int)) hx hb dX1_segment_12 (by omega) ?_
  refine ib_bi hx hb dX1_segment_13 (by decide) ?_
  refine ib_icmp_gt (tgt := 22) hx hb dX1_segment_15 (by decide) ⟨by omega, by omega⟩ ⟨by omega, by omega⟩ (fun c_15 => absurd c_15 (by omega)) (fun c_15 => ?_)
  refine ib_const hx hb dX1_segment_18 ?_
  refine lv_goto (tgt := 23) hx hb dX1_segment_19 (by decide) ?_
  refine lv_istore (lv' := [(4, .int (iI 1)), (0, .ref m0), (1, .int (iI ((r : Nat) : Int))), (2, .int (iI ((i : Nat) : Int))), (3, .int (iI ((k : Nat) : Int)))]) hx hb dX1_segment_23 hl (by decide) rfl (fun ls hl => ?_)
  refine lv_aload_n hx hb dX1_segment_25 rfl (lv_at hl 1 rfl) ?_
  refine lv_iload_n hx hb dX1_segment_26 rfl (lv_at hl 2 rfl) ?_
  refine rd_call (va_runS (As := [.int (iI ((r : Nat) : Int))]) (rest := [.ref m0]) ⟨hx, hb, hml, hown, hts⟩ (mX1_isRow l ((r : Nat) : Int) ⟨by omega, by omega⟩) (va_cwS 1 hts gX1_segment_X1_isRow rfl rfl rfl hdX1_isRow ⟨Nat.le_of_ble_eq_true rfl, Nat.le_of_ble_eq_true rfl⟩) tt_pre rfl rfl hl.1 rfl (lv_room (Nat.le_of_ble_eq_true rfl)) dX1_segment_27 ⟨Nat.le_of_ble_eq_true rfl, Nat.le_of_ble_eq_true rfl⟩) ?_
  refine bb_eq (tgt := 40) hx hb dX1_segment_30 (by decide) (fun c_30 => absurd c_30 (by omega)) (fun c_30 => ?_)
  refine lv_iload_n hx hb dX1_segment_33 rfl (lv_at hl 3 rfl) ?_
  refine rd_call (va_runS (As := [.int (iI ((i : Nat) : Int))]) (rest := [.ref m0]) ⟨hx, hb, hml, hown, hts⟩ (mX1_isTone l ((i : Nat) : Int) ⟨by omega, by omega⟩) (va_cwS 1 hts gX1_segment_X1_isTone rfl rfl rfl hdX1_isTone ⟨Nat.le_of_ble_eq_true rfl, Nat.le_of_ble_eq_true rfl⟩) tt_pre rfl rfl hl.1 rfl (lv_room (Nat.le_of_ble_eq_true rfl)) dX1_segment_34 ⟨Nat.le_of_ble_eq_true rfl, Nat.le_of_ble_eq_true rfl⟩) ?_
  refine bb_ne (tgt := 44) hx hb dX1_segment_37 (by decide) (fun c_37 => ?_) (fun c_37 => absurd c_37 (by omega))
  refine lv_iload hx hb dX1_segment_44 (lv_at hl 0 rfl) ?_
  refine ib_if_eq (tgt := 53) hx hb dX1_segment_46 (by decide) ⟨by omega, by omega⟩ (fun c_46 => absurd c_46 (by decide)) (fun c_46 => ?_)
  refine ib_const hx hb dX1_segment_49 ?_
  refine lv_goto (tgt := 54) hx hb dX1_segment_50 (by decide) ?_
  refine wr_call (va_runV (As := [.int (iI 0)]) (rest := []) ⟨hx, hb, hml, hown, hts⟩ (mX1_goesWell l dC dI cI m0 t0 k0 p0 a0 a1 K q th w h0 h1 hw hq 0 ⟨by omega, by omega⟩) (cwV 1 hts gX1_segment_X1_goesWell rfl rfl rfl hvX1_goesWell ⟨Nat.le_of_ble_eq_true rfl, Nat.le_of_ble_eq_true rfl⟩) (bD_pre (ci := 1) (q0 := 0) hK hP hD rfl rfl rfl) rfl rfl hl.1 rfl (lv_room (Nat.le_of_ble_eq_true rfl)) dX1_segment_54 ⟨Nat.le_of_ble_eq_true rfl, Nat.le_of_ble_eq_true rfl⟩) hS (fun q9 h => inW_same (w := [(m0, .inr (1, [.int th, .ref t0, .ref k0, .ref p0, .int (iI ((w : Nat) : Int))])), (t0, .inl (cI, 24, .inl (fun j => iI ((tb a0 a1 j : Nat) : Int)))), (k0, .inl (cI, 12, .inl (fun j => iI ((K j : Nat) : Int)))), (p0, .inl (cI, 12, .inl (fun j => iI ((q j : Nat) : Int))))]) (w' := [(m0, .inr (1, [.int th, .ref t0, .ref k0, .ref p0, .int (iI ((w : Nat) : Int))])), (t0, .inl (cI, 24, .inl (fun j => iI ((tb a0 a1 j : Nat) : Int)))), (k0, .inl (cI, 12, .inl (fun j => iI ((K j : Nat) : Int)))), (p0, .inl (cI, 12, .inl (fun j => iI ((q j : Nat) : Int))))]) rfl h) (fun H locs hP hz hk hS => ?_)
  have hD : va_D (inW [(m0, .inr (1, [.int th, .ref t0, .ref k0, .ref p0, .int (iI ((w : Nat) : Int))])), (t0, .inl (cI, 24, .inl (fun j => iI ((tb a0 a1 j : Nat) : Int)))), (k0, .inl (cI, 12, .inl (fun j => iI ((K j : Nat) : Int)))), (p0, .inl (cI, 12, .inl (fun j => iI ((q j : Nat) : Int))))]) [(m0, .inr (1, [.int (iI 0), .ref t0, .ref k0, .ref p0, .int (iI ((w : Nat) : Int))])), (t0, .inl (cI, 24, .inl (fun j => iI ((tb a0 a1 j : Nat) : Int)))), (k0, .inl (cI, 12, .inl (fun j => iI ((K j : Nat) : Int)))), (p0, .inl (cI, 12, .inl (fun j => iI ((q j : Nat) : Int))))] := va_D_same (w := [(m0, .inr (1, [.int th, .ref t0, .ref k0, .ref p0, .int (iI ((w : Nat) : Int))])), (t0, .inl (cI, 24, .inl (fun j => iI ((tb a0 a1 j : Nat) : Int)))), (k0, .inl (cI, 12, .inl (fun j => iI ((K j : Nat) : Int)))), (p0, .inl (cI, 12, .inl (fun j => iI ((q j : Nat) : Int))))]) rfl hD
  refine st_i (y := iI 1) (congrArg iI (bI_t (by decide))) ?_
  refine ib_if_eq (tgt := 75) hx hb dX1_segment_57 (by decide) ⟨by omega, by omega⟩ (fun c_57 => absurd c_57 (by decide)) (fun c_57 => ?_)
  refine lv_aload_n hx hb dX1_segment_60 rfl (lv_at hl 1 rfl) ?_
  refine lv_iload_n hx hb dX1_segment_61 rfl (lv_at hl 2 rfl) ?_
  refine lv_aload_n hx hb dX1_segment_62 rfl (lv_at hl 1 rfl) ?_
  refine lv_iload_n hx hb dX1_segment_63 rfl (lv_at hl 2 rfl) ?_
  refine rd_call (va_runV (As := [.int (iI ((r : Nat) : Int))]) (rest := [.int (iI ((r : Nat) : Int)), .ref m0]) ⟨hx, hb, hml, hown, hts⟩ (mX1_itself l dC dI cI m0 t0 k0 p0 a0 a1 K q (iI 0) w h0 h1 hw hq r (by omega)) (cwV 1 hts gX1_segment_X1_itself rfl rfl rfl hvX1_itself ⟨Nat.le_of_ble_eq_true rfl, Nat.le_of_ble_eq_true rfl⟩) (bW_pre (ci := 1) (q0 := 0) hK hP rfl rfl rfl) rfl rfl hl.1 rfl (lv_room (Nat.le_of_ble_eq_true rfl)) dX1_segment_64 ⟨Nat.le_of_ble_eq_true rfl, Nat.le_of_ble_eq_true rfl⟩) ?_
  have hr_64 := rw_lt h0 h1 r (i := 0) (by omega)
  refine lv_iload_n hx hb dX1_segment_67 rfl (lv_at hl 3 rfl) ?_
  refine lv_iload_n hx hb dX1_segment_68 rfl (lv_at hl 4 rfl) ?_
  refine rd_call (va_runV (As := [.int (iI ((r : Nat) : Int)), .int (iI ((rw_ r a0 a1 0 : Nat) : Int)), .int (iI ((i : Nat) : Int)), .int (iI ((k : Nat) : Int))]) (rest := []) ⟨hx, hb, hml, hown, hts⟩ (mX1_setOf l dC dI cI m0 t0 k0 p0 a0 a1 K q (iI 0) w h0 h1 hw hq r (rw_ r a0 a1 0) i k (by omega) (by omega) (by omega)) (cwV 4 hts gX1_segment_X1_setOf rfl rfl rfl hvX1_setOf ⟨Nat.le_of_ble_eq_true rfl, Nat.le_of_ble_eq_true rfl⟩) (bW_pre (ci := 1) (q0 := 0) hK hP rfl rfl rfl) rfl rfl hl.1 rfl (lv_room (Nat.le_of_ble_eq_true rfl)) dX1_segment_69 ⟨Nat.le_of_ble_eq_true rfl, Nat.le_of_ble_eq_true rfl⟩) ?_
  have hs_69 := setF_lt (fm_lt (rw_ r a0 a1) (rw_ r a0 a1 0)) i k
  refine lv_goto (tgt := 76) hx hb dX1_segment_72 (by decide) ?_
  exact W.iret hx hb hr (fun t ht _ => ⟨rfl, by rw [ht]; exact hP, hS.F ht⟩) hS.2.2 dX1_segment_76

set_option maxHeartbeats 4000000 in
set_option maxRecDepth 100000 in
theorem mX1_segment_x1 (l : Launch) (dC : Nat → ClassId) (dI : Nat → Nat → Nat) (cI : ClassId) (m0 t0 k0 p0 : Nat) (a0 a1 K q : Nat → Nat) (th : Int32) (w : Nat) (h0 : lt12 a0) (h1 : lt12 a1) (hw : w ≤ 12) (hq : ∀ i, i < w → q i < 12) (z0 z1 z2 : Int) (hz0 : inI z0) (hz1 : inI z1) (hz2 : inI z2) (hbad : ¬ ((z0 = 0 ∨ z0 = 1) ∧ (0 ≤ z1 ∧ z1 ≤ 11))) : wr l yX1_segment wsX1_segment { frames := 2, cells := 0, slots := 0, locals := 42 } [.ref m0, .int (iI z0), .int (iI z1), .int (iI z2)] (dC, dI) [(m0, .inr (1, [.int th, .ref t0, .ref k0, .ref p0, .int (iI ((w : Nat) : Int))])), (t0, .inl (cI, 24, .inl (fun j => iI ((tb a0 a1 j : Nat) : Int)))), (k0, .inl (cI, 12, .inl (fun j => iI ((K j : Nat) : Int)))), (p0, .inl (cI, 12, .inl (fun j => iI ((q j : Nat) : Int))))] [(cI, .int)] [(m0, .inr (1, [.int (iI 1), .ref t0, .ref k0, .ref p0, .int (iI ((w : Nat) : Int))])), (t0, .inl (cI, 24, .inl (fun j => iI ((tb a0 a1 j : Nat) : Int)))), (k0, .inl (cI, 12, .inl (fun j => iI ((K j : Nat) : Int)))), (p0, .inl (cI, 12, .inl (fun j => iI ((q j : Nat) : Int))))] (some (.int (iI 0))) := by
  refine Met.ofW (cc := cX1_segment) (maxL := 5) (ret := (some .int)) (by decide) rfl ?_
  intro P0 e s m args below meth c s₁ B hml hv
  obtain ⟨rfl, hP, hK, hD0⟩ := hv
  have hx := B.exec
  have hb := B.bytes
  have hr := B.returns
  have hts := atoms_spec (ws := wsX1_segment) B.pre
  have hown : s.vm.findClass RX1 = some m.cls := findClass_of_methodNamed B.named
  have hlocks := B.notSynchronized
  have hinX : ∀ w ∈ u_ws RX1 TX1 5, w ∈ wsX1_segment := by decide +kernel
  have hD : va_D (inW [(m0, .inr (1, [.int th, .ref t0, .ref k0, .ref p0, .int (iI ((w : Nat) : Int))])), (t0, .inl (cI, 24, .inl (fun j => iI ((tb a0 a1 j : Nat) : Int)))), (k0, .inl (cI, 12, .inl (fun j => iI ((K j : Nat) : Int)))), (p0, .inl (cI, 12, .inl (fun j => iI ((q j : Nat) : Int))))]) [(m0, .inr (1, [.int th, .ref t0, .ref k0, .ref p0, .int (iI ((w : Nat) : Int))])), (t0, .inl (cI, 24, .inl (fun j => iI ((tb a0 a1 j : Nat) : Int)))), (k0, .inl (cI, 12, .inl (fun j => iI ((K j : Nat) : Int)))), (p0, .inl (cI, 12, .inl (fun j => iI ((q j : Nat) : Int))))] := va_D_in hD0
  have hS : va_S (inW [(m0, .inr (1, [.int th, .ref t0, .ref k0, .ref p0, .int (iI ((w : Nat) : Int))])), (t0, .inl (cI, 24, .inl (fun j => iI ((tb a0 a1 j : Nat) : Int)))), (k0, .inl (cI, 12, .inl (fun j => iI ((K j : Nat) : Int)))), (p0, .inl (cI, 12, .inl (fun j => iI ((q j : Nat) : Int))))]) s.heap s.heap [] := va_S.rf
  have hl := lv_entry ([.ref m0, .int (iI z0), .int (iI z1), .int (iI z2)]) (n := 5) (Nat.le_of_ble_eq_true rfl)
  rw [lg_entry_eq]
  generalize (lg_sl ([.ref m0, .int (iI z0), .int (iI z1), .int (iI z2)]) ++ List.replicate (5 - (lg_sl ([.ref m0, .int (iI z0), .int (iI z1), .int (iI z2)])).length) Slot.unset).toArray = ls at hl ⊢
  have hl : lv_has ls 5 [(0, .ref m0), (1, .int (iI z0)), (2, .int (iI z1)), (3, .int (iI z2))] := hl
  have hza0 := hz0.1
  have hza1 := hz1.1
  have hza2 := hz2.1
  have hzb0 := hz0.2
  have hzb1 := hz1.2
  have hzb2 := hz2.2
  refine lv_iload_n hx hb dX1_segment_0 rfl (lv_at hl 3 rfl) ?_
  refine ib_const hx hb dX1_segment_1 ?_
  refine ib_bi hx hb dX1_segment_2 (by decide) ?_
  refine rd_call (va_runS (As := [.int (iI z2), .int (iI 1), .int (iI 12)]) (rest := []) ⟨hx, hb, hml, hown, hts⟩ (mX1_in l z2 1 12 ⟨by omega, by omega⟩ ⟨by omega, by omega⟩ ⟨by omega, by omega⟩) (va_cwS 3 hts gX1_segment_X1_in rfl rfl rfl hdX1_in ⟨Nat.le_of_ble_eq_true rfl, Nat.le_of_ble_eq_true rfl⟩) tt_pre rfl rfl hl.1 rfl (lv_room (Nat.le_of_ble_eq_true rfl)) dX1_segment_4 ⟨Nat.le_of_ble_eq_true rfl, Nat.le_of_ble_eq_true rfl⟩) ?_
  refine bb_eq (tgt := 22) hx hb dX1_segment_7 (by decide) (fun c_7 => ?_) (fun c_7 => ?_)
  · skip
    refine ib_const hx hb dX1_segment_22 ?_
    refine lv_istore (lv' := [(4, .int (iI 0)), (0, .ref m0), (1, .int (iI z0)), (2, .int (iI z1)), (3, .int (iI z2))]) hx hb dX1_segment_23 hl (by decide) rfl (fun ls hl => ?_)
    refine lv_aload_n hx hb dX1_segment_25 rfl (lv_at hl 1 rfl) ?_
    refine lv_iload_n hx hb dX1_segment_26 rfl (lv_at hl 2 rfl) ?_
    refine rd_call (va_runS (As := [.int (iI z0)]) (rest := [.ref m0]) ⟨hx, hb, hml, hown, hts⟩ (mX1_isRow l z0 ⟨by omega, by omega⟩) (va_cwS 1 hts gX1_segment_X1_isRow rfl rfl rfl hdX1_isRow ⟨Nat.le_of_ble_eq_true rfl, Nat.le_of_ble_eq_true rfl⟩) tt_pre rfl rfl hl.1 rfl (lv_room (Nat.le_of_ble_eq_true rfl)) dX1_segment_27 ⟨Nat.le_of_ble_eq_true rfl, Nat.le_of_ble_eq_true rfl⟩) ?_
    refine bb_eq (tgt := 40) hx hb dX1_segment_30 (by decide) (fun c_30 => ?_) (fun c_30 => ?_)
    · skip
      refine ib_const hx hb dX1_segment_40 ?_
      refine lv_goto (tgt := 54) hx hb dX1_segment_41 (by decide) ?_
      refine wr_call (va_runV (As := [.int (iI 1)]) (rest := []) ⟨hx, hb, hml, hown, hts⟩ (mX1_goesWell l dC dI cI m0 t0 k0 p0 a0 a1 K q th w h0 h1 hw hq 1 ⟨by omega, by omega⟩) (cwV 1 hts gX1_segment_X1_goesWell rfl rfl rfl hvX1_goesWell ⟨Nat.le_of_ble_eq_true rfl, Nat.le_of_ble_eq_true rfl⟩) (bD_pre (ci := 1) (q0 := 0) hK hP hD rfl rfl rfl) rfl rfl hl.1 rfl (lv_room (Nat.le_of_ble_eq_true rfl)) dX1_segment_54 ⟨Nat.le_of_ble_eq_true rfl, Nat.le_of_ble_eq_true rfl⟩) hS (fun q9 h => inW_same (w := [(m0, .inr (1, [.int th, .ref t0, .ref k0, .ref p0, .int (iI ((w : Nat) : Int))])), (t0, .inl (cI, 24, .inl (fun j => iI ((tb a0 a1 j : Nat) : Int)))), (k0, .inl (cI, 12, .inl (fun j => iI ((K j : Nat) : Int)))), (p0, .inl (cI, 12, .inl (fun j => iI ((q j : Nat) : Int))))]) (w' := [(m0, .inr (1, [.int th, .ref t0, .ref k0, .ref p0, .int (iI ((w : Nat) : Int))])), (t0, .inl (cI, 24, .inl (fun j => iI ((tb a0 a1 j : Nat) : Int)))), (k0, .inl (cI, 12, .inl (fun j => iI ((K j : Nat) : Int)))), (p0, .inl (cI, 12, .inl (fun j => iI ((q j : Nat) : Int))))]) rfl h) (fun H locs hP hz hk hS => ?_)
      have hD : va_D (inW [(m0, .inr (1, [.int th, .ref t0, .ref k0, .ref p0, .int (iI ((w : Nat) : Int))])), (t0, .inl (cI, 24, .inl (fun j => iI ((tb a0 a1 j : Nat) : Int)))), (k0, .inl (cI, 12, .inl (fun j => iI ((K j : Nat) : Int)))), (p0, .inl (cI, 12, .inl (fun j => iI ((q j : Nat) : Int))))]) [(m0, .inr (1, [.int (iI 1), .ref t0, .ref k0, .ref p0, .int (iI ((w : Nat) : Int))])), (t0, .inl (cI, 24, .inl (fun j => iI ((tb a0 a1 j : Nat) : Int)))), (k0, .inl (cI, 12, .inl (fun j => iI ((K j : Nat) : Int)))), (p0, .inl (cI, 12, .inl (fun j => iI ((q j : Nat) : Int))))] := va_D_same (w := [(m0, .inr (1, [.int th, .ref t0, .ref k0, .ref p0, .int (iI ((w : Nat) : Int))])), (t0, .inl (cI, 24, .inl (fun j => iI ((tb a0 a1 j : Nat) : Int)))), (k0, .inl (cI, 12, .inl (fun j => iI ((K j : Nat) : Int)))), (p0, .inl (cI, 12, .inl (fun j => iI ((q j : Nat) : Int))))]) rfl hD
      refine st_i (y := iI 0) (congrArg iI (bI_f (by decide))) ?_
      refine ib_if_eq (tgt := 75) hx hb dX1_segment_57 (by decide) ⟨by omega, by omega⟩ (fun c_57 => ?_) (fun c_57 => absurd c_57 (by decide))
      refine ib_const hx hb dX1_segment_75 ?_
      exact W.iret hx hb hr (fun t ht _ => ⟨rfl, by rw [ht]; exact hP, hS.F ht⟩) hS.2.2 dX1_segment_76
    · skip
      refine lv_iload_n hx hb dX1_segment_33 rfl (lv_at hl 3 rfl) ?_
      refine rd_call (va_runS (As := [.int (iI z1)]) (rest := [.ref m0]) ⟨hx, hb, hml, hown, hts⟩ (mX1_isTone l z1 ⟨by omega, by omega⟩) (va_cwS 1 hts gX1_segment_X1_isTone rfl rfl rfl hdX1_isTone ⟨Nat.le_of_ble_eq_true rfl, Nat.le_of_ble_eq_true rfl⟩) tt_pre rfl rfl hl.1 rfl (lv_room (Nat.le_of_ble_eq_true rfl)) dX1_segment_34 ⟨Nat.le_of_ble_eq_true rfl, Nat.le_of_ble_eq_true rfl⟩) ?_
      refine bb_ne (tgt := 44) hx hb dX1_segment_37 (by decide) (fun c_37 => ?_) (fun c_37 => ?_)
      · skip
        refine lv_iload hx hb dX1_segment_44 (lv_at hl 0 rfl) ?_
        refine ib_if_eq (tgt := 53) hx hb dX1_segment_46 (by decide) ⟨by omega, by omega⟩ (fun c_46 => ?_) (fun c_46 => absurd c_46 (by decide))
        refine ib_const hx hb dX1_segment_53 ?_
        exfalso; omega
      · skip
        refine ib_const hx hb dX1_segment_40 ?_
        refine lv_goto (tgt := 54) hx hb dX1_segment_41 (by decide) ?_
        refine wr_call (va_runV (As := [.int (iI 1)]) (rest := []) ⟨hx, hb, hml, hown, hts⟩ (mX1_goesWell l dC dI cI m0 t0 k0 p0 a0 a1 K q th w h0 h1 hw hq 1 ⟨by omega, by omega⟩) (cwV 1 hts gX1_segment_X1_goesWell rfl rfl rfl hvX1_goesWell ⟨Nat.le_of_ble_eq_true rfl, Nat.le_of_ble_eq_true rfl⟩) (bD_pre (ci := 1) (q0 := 0) hK hP hD rfl rfl rfl) rfl rfl hl.1 rfl (lv_room (Nat.le_of_ble_eq_true rfl)) dX1_segment_54 ⟨Nat.le_of_ble_eq_true rfl, Nat.le_of_ble_eq_true rfl⟩) hS (fun q9 h => inW_same (w := [(m0, .inr (1, [.int th, .ref t0, .ref k0, .ref p0, .int (iI ((w : Nat) : Int))])), (t0, .inl (cI, 24, .inl (fun j => iI ((tb a0 a1 j : Nat) : Int)))), (k0, .inl (cI, 12, .inl (fun j => iI ((K j : Nat) : Int)))), (p0, .inl (cI, 12, .inl (fun j => iI ((q j : Nat) : Int))))]) (w' := [(m0, .inr (1, [.int th, .ref t0, .ref k0, .ref p0, .int (iI ((w : Nat) : Int))])), (t0, .inl (cI, 24, .inl (fun j => iI ((tb a0 a1 j : Nat) : Int)))), (k0, .inl (cI, 12, .inl (fun j => iI ((K j : Nat) : Int)))), (p0, .inl (cI, 12, .inl (fun j => iI ((q j : Nat) : Int))))]) rfl h) (fun H locs hP hz hk hS => ?_)
        have hD : va_D (inW [(m0, .inr (1, [.int th, .ref t0, .ref k0, .ref p0, .int (iI ((w : Nat) : Int))])), (t0, .inl (cI, 24, .inl (fun j => iI ((tb a0 a1 j : Nat) : Int)))), (k0, .inl (cI, 12, .inl (fun j => iI ((K j : Nat) : Int)))), (p0, .inl (cI, 12, .inl (fun j => iI ((q j : Nat) : Int))))]) [(m0, .inr (1, [.int (iI 1), .ref t0, .ref k0, .ref p0, .int (iI ((w : Nat) : Int))])), (t0, .inl (cI, 24, .inl (fun j => iI ((tb a0 a1 j : Nat) : Int)))), (k0, .inl (cI, 12, .inl (fun j => iI ((K j : Nat) : Int)))), (p0, .inl (cI, 12, .inl (fun j => iI ((q j : Nat) : Int))))] := va_D_same (w := [(m0, .inr (1, [.int th, .ref t0, .ref k0, .ref p0, .int (iI ((w : Nat) : Int))])), (t0, .inl (cI, 24, .inl (fun j => iI ((tb a0 a1 j : Nat) : Int)))), (k0, .inl (cI, 12, .inl (fun j => iI ((K j : Nat) : Int)))), (p0, .inl (cI, 12, .inl (fun j => iI ((q j : Nat) : Int))))]) rfl hD
        refine st_i (y := iI 0) (congrArg iI (bI_f (by decide))) ?_
        refine ib_if_eq (tgt := 75) hx hb dX1_segment_57 (by decide) ⟨by omega, by omega⟩ (fun c_57 => ?_) (fun c_57 => absurd c_57 (by decide))
        refine ib_const hx hb dX1_segment_75 ?_
        exact W.iret hx hb hr (fun t ht _ => ⟨rfl, by rw [ht]; exact hP, hS.F ht⟩) hS.2.2 dX1_segment_76
  · skip
    refine lv_iload_n hx hb dX1_segment_10 rfl (lv_at hl 2 rfl) ?_
    refine lv_iload_n hx hb dX1_segment_11 rfl (lv_at hl 3 rfl) ?_
    refine ib_add (z := z1 + z2) hx hb dX1_segment_12 (by omega) ?_
    refine ib_bi hx hb dX1_segment_13 (by decide) ?_
    refine lv_icmp_gt (tgt := 22) hx hb dX1_segment_15 (by decide) (fun c_15 => ?_) (fun c_15 => ?_)
    · skip
      refine ib_const hx hb dX1_segment_22 ?_
      refine lv_istore (lv' := [(4, .int (iI 0)), (0, .ref m0), (1, .int (iI z0)), (2, .int (iI z1)), (3, .int (iI z2))]) hx hb dX1_segment_23 hl (by decide) rfl (fun ls hl => ?_)
      refine lv_aload_n hx hb dX1_segment_25 rfl (lv_at hl 1 rfl) ?_
      refine lv_iload_n hx hb dX1_segment_26 rfl (lv_at hl 2 rfl) ?_
      refine rd_call (va_runS (As := [.int (iI z0)]) (rest := [.ref m0]) ⟨hx, hb, hml, hown, hts⟩ (mX1_isRow l z0 ⟨by omega, by omega⟩) (va_cwS 1 hts gX1_segment_X1_isRow rfl rfl rfl hdX1_isRow ⟨Nat.le_of_ble_eq_true rfl, Nat.le_of_ble_eq_true rfl⟩) tt_pre rfl rfl hl.1 rfl (lv_room (Nat.le_of_ble_eq_true rfl)) dX1_segment_27 ⟨Nat.le_of_ble_eq_true rfl, Nat.le_of_ble_eq_true rfl⟩) ?_
      refine bb_eq (tgt := 40) hx hb dX1_segment_30 (by decide) (fun c_30 => ?_) (fun c_30 => ?_)
      · skip
        refine ib_const hx hb dX1_segment_40 ?_
        refine lv_goto (tgt := 54) hx hb dX1_segment_41 (by decide) ?_
        refine wr_call (va_runV (As := [.int (iI 1)]) (rest := []) ⟨hx, hb, hml, hown, hts⟩ (mX1_goesWell l dC dI cI m0 t0 k0 p0 a0 a1 K q th w h0 h1 hw hq 1 ⟨by omega, by omega⟩) (cwV 1 hts gX1_segment_X1_goesWell rfl rfl rfl hvX1_goesWell ⟨Nat.le_of_ble_eq_true rfl, Nat.le_of_ble_eq_true rfl⟩) (bD_pre (ci := 1) (q0 := 0) hK hP hD rfl rfl rfl) rfl rfl hl.1 rfl (lv_room (Nat.le_of_ble_eq_true rfl)) dX1_segment_54 ⟨Nat.le_of_ble_eq_true rfl, Nat.le_of_ble_eq_true rfl⟩) hS (fun q9 h => inW_same (w := [(m0, .inr (1, [.int th, .ref t0, .ref k0, .ref p0, .int (iI ((w : Nat) : Int))])), (t0, .inl (cI, 24, .inl (fun j => iI ((tb a0 a1 j : Nat) : Int)))), (k0, .inl (cI, 12, .inl (fun j => iI ((K j : Nat) : Int)))), (p0, .inl (cI, 12, .inl (fun j => iI ((q j : Nat) : Int))))]) (w' := [(m0, .inr (1, [.int th, .ref t0, .ref k0, .ref p0, .int (iI ((w : Nat) : Int))])), (t0, .inl (cI, 24, .inl (fun j => iI ((tb a0 a1 j : Nat) : Int)))), (k0, .inl (cI, 12, .inl (fun j => iI ((K j : Nat) : Int)))), (p0, .inl (cI, 12, .inl (fun j => iI ((q j : Nat) : Int))))]) rfl h) (fun H locs hP hz hk hS => ?_)
        have hD : va_D (inW [(m0, .inr (1, [.int th, .ref t0, .ref k0, .ref p0, .int (iI ((w : Nat) : Int))])), (t0, .inl (cI, 24, .inl (fun j => iI ((tb a0 a1 j : Nat) : Int)))), (k0, .inl (cI, 12, .inl (fun j => iI ((K j : Nat) : Int)))), (p0, .inl (cI, 12, .inl (fun j => iI ((q j : Nat) : Int))))]) [(m0, .inr (1, [.int (iI 1), .ref t0, .ref k0, .ref p0, .int (iI ((w : Nat) : Int))])), (t0, .inl (cI, 24, .inl (fun j => iI ((tb a0 a1 j : Nat) : Int)))), (k0, .inl (cI, 12, .inl (fun j => iI ((K j : Nat) : Int)))), (p0, .inl (cI, 12, .inl (fun j => iI ((q j : Nat) : Int))))] := va_D_same (w := [(m0, .inr (1, [.int th, .ref t0, .ref k0, .ref p0, .int (iI ((w : Nat) : Int))])), (t0, .inl (cI, 24, .inl (fun j => iI ((tb a0 a1 j : Nat) : Int)))), (k0, .inl (cI, 12, .inl (fun j => iI ((K j : Nat) : Int)))), (p0, .inl (cI, 12, .inl (fun j => iI ((q j : Nat) : Int))))]) rfl hD
        refine st_i (y := iI 0) (congrArg iI (bI_f (by decide))) ?_
        refine ib_if_eq (tgt := 75) hx hb dX1_segment_57 (by decide) ⟨by omega, by omega⟩ (fun c_57 => ?_) (fun c_57 => absurd c_57 (by decide))
        refine ib_const hx hb dX1_segment_75 ?_
        exact W.iret hx hb hr (fun t ht _ => ⟨rfl, by rw [ht]; exact hP, hS.F ht⟩) hS.2.2 dX1_segment_76
      · skip
        refine lv_iload_n hx hb dX1_segment_33 rfl (lv_at hl 3 rfl) ?_
        refine rd_call (va_runS (As := [.int (iI z1)]) (rest := [.ref m0]) ⟨hx, hb, hml, hown, hts⟩ (mX1_isTone l z1 ⟨by omega, by omega⟩) (va_cwS 1 hts gX1_segment_X1_isTone rfl rfl rfl hdX1_isTone ⟨Nat.le_of_ble_eq_true rfl, Nat.le_of_ble_eq_true rfl⟩) tt_pre rfl rfl hl.1 rfl (lv_room (Nat.le_of_ble_eq_true rfl)) dX1_segment_34 ⟨Nat.le_of_ble_eq_true rfl, Nat.le_of_ble_eq_true rfl⟩) ?_
        refine bb_ne (tgt := 44) hx hb dX1_segment_37 (by decide) (fun c_37 => ?_) (fun c_37 => ?_)
        · skip
          refine lv_iload hx hb dX1_segment_44 (lv_at hl 0 rfl) ?_
          refine ib_if_eq (tgt := 53) hx hb dX1_segment_46 (by decide) ⟨by omega, by omega⟩ (fun c_46 => ?_) (fun c_46 => absurd c_46 (by decide))
          refine ib_const hx hb dX1_segment_53 ?_
          exfalso; omega
        · skip
          refine ib_const hx hb dX1_segment_40 ?_
          refine lv_goto (tgt := 54) hx hb dX1_segment_41 (by decide) ?_
          refine wr_call (va_runV (As := [.int (iI 1)]) (rest := []) ⟨hx, hb, hml, hown, hts⟩ (mX1_goesWell l dC dI cI m0 t0 k0 p0 a0 a1 K q th w h0 h1 hw hq 1 ⟨by omega, by omega⟩) (cwV 1 hts gX1_segment_X1_goesWell rfl rfl rfl hvX1_goesWell ⟨Nat.le_of_ble_eq_true rfl, Nat.le_of_ble_eq_true rfl⟩) (bD_pre (ci := 1) (q0 := 0) hK hP hD rfl rfl rfl) rfl rfl hl.1 rfl (lv_room (Nat.le_of_ble_eq_true rfl)) dX1_segment_54 ⟨Nat.le_of_ble_eq_true rfl, Nat.le_of_ble_eq_true rfl⟩) hS (fun q9 h => inW_same (w := [(m0, .inr (1, [.int th, .ref t0, .ref k0, .ref p0, .int (iI ((w : Nat) : Int))])), (t0, .inl (cI, 24, .inl (fun j => iI ((tb a0 a1 j : Nat) : Int)))), (k0, .inl (cI, 12, .inl (fun j => iI ((K j : Nat) : Int)))), (p0, .inl (cI, 12, .inl (fun j => iI ((q j : Nat) : Int))))]) (w' := [(m0, .inr (1, [.int th, .ref t0, .ref k0, .ref p0, .int (iI ((w : Nat) : Int))])), (t0, .inl (cI, 24, .inl (fun j => iI ((tb a0 a1 j : Nat) : Int)))), (k0, .inl (cI, 12, .inl (fun j => iI ((K j : Nat) : Int)))), (p0, .inl (cI, 12, .inl (fun j => iI ((q j : Nat) : Int))))]) rfl h) (fun H locs hP hz hk hS => ?_)
          have hD : va_D (inW [(m0, .inr (1, [.int th, .ref t0, .ref k0, .ref p0, .int (iI ((w : Nat) : Int))])), (t0, .inl (cI, 24, .inl (fun j => iI ((tb a0 a1 j : Nat) : Int)))), (k0, .inl (cI, 12, .inl (fun j => iI ((K j : Nat) : Int)))), (p0, .inl (cI, 12, .inl (fun j => iI ((q j : Nat) : Int))))]) [(m0, .inr (1, [.int (iI 1), .ref t0, .ref k0, .ref p0, .int (iI ((w : Nat) : Int))])), (t0, .inl (cI, 24, .inl (fun j => iI ((tb a0 a1 j : Nat) : Int)))), (k0, .inl (cI, 12, .inl (fun j => iI ((K j : Nat) : Int)))), (p0, .inl (cI, 12, .inl (fun j => iI ((q j : Nat) : Int))))] := va_D_same (w := [(m0, .inr (1, [.int th, .ref t0, .ref k0, .ref p0, .int (iI ((w : Nat) : Int))])), (t0, .inl (cI, 24, .inl (fun j => iI ((tb a0 a1 j : Nat) : Int)))), (k0, .inl (cI, 12, .inl (fun j => iI ((K j : Nat) : Int)))), (p0, .inl (cI, 12, .inl (fun j => iI ((q j : Nat) : Int))))]) rfl hD
          refine st_i (y := iI 0) (congrArg iI (bI_f (by decide))) ?_
          refine ib_if_eq (tgt := 75) hx hb dX1_segment_57 (by decide) ⟨by omega, by omega⟩ (fun c_57 => ?_) (fun c_57 => absurd c_57 (by decide))
          refine ib_const hx hb dX1_segment_75 ?_
          exact W.iret hx hb hr (fun t ht _ => ⟨rfl, by rw [ht]; exact hP, hS.F ht⟩) hS.2.2 dX1_segment_76
    · skip
      refine ib_const hx hb dX1_segment_18 ?_
      refine lv_goto (tgt := 23) hx hb dX1_segment_19 (by decide) ?_
      refine lv_istore (lv' := [(4, .int (iI 1)), (0, .ref m0), (1, .int (iI z0)), (2, .int (iI z1)), (3, .int (iI z2))]) hx hb dX1_segment_23 hl (by decide) rfl (fun ls hl => ?_)
      refine lv_aload_n hx hb dX1_segment_25 rfl (lv_at hl 1 rfl) ?_
      refine lv_iload_n hx hb dX1_segment_26 rfl (lv_at hl 2 rfl) ?_
      refine rd_call (va_runS (As := [.int (iI z0)]) (rest := [.ref m0]) ⟨hx, hb, hml, hown, hts⟩ (mX1_isRow l z0 ⟨by omega, by omega⟩) (va_cwS 1 hts gX1_segment_X1_isRow rfl rfl rfl hdX1_isRow ⟨Nat.le_of_ble_eq_true rfl, Nat.le_of_ble_eq_true rfl⟩) tt_pre rfl rfl hl.1 rfl (lv_room (Nat.le_of_ble_eq_true rfl)) dX1_segment_27 ⟨Nat.le_of_ble_eq_true rfl, Nat.le_of_ble_eq_true rfl⟩) ?_
      refine bb_eq (tgt := 40) hx hb dX1_segment_30 (by decide) (fun c_30 => ?_) (fun c_30 => ?_)
      · skip
        refine ib_const hx hb dX1_segment_40 ?_
        refine lv_goto (tgt := 54) hx hb dX1_segment_41 (by decide) ?_
        refine wr_call (va_runV (As := [.int (iI 1)]) (rest := []) ⟨hx, hb, hml, hown, hts⟩ (mX1_goesWell l dC dI cI m0 t0 k0 p0 a0 a1 K q th w h0 h1 hw hq 1 ⟨by omega, by omega⟩) (cwV 1 hts gX1_segment_X1_goesWell rfl rfl rfl hvX1_goesWell ⟨Nat.le_of_ble_eq_true rfl, Nat.le_of_ble_eq_true rfl⟩) (bD_pre (ci := 1) (q0 := 0) hK hP hD rfl rfl rfl) rfl rfl hl.1 rfl (lv_room (Nat.le_of_ble_eq_true rfl)) dX1_segment_54 ⟨Nat.le_of_ble_eq_true rfl, Nat.le_of_ble_eq_true rfl⟩) hS (fun q9 h => inW_same (w := [(m0, .inr (1, [.int th, .ref t0, .ref k0, .ref p0, .int (iI ((w : Nat) : Int))])), (t0, .inl (cI, 24, .inl (fun j => iI ((tb a0 a1 j : Nat) : Int)))), (k0, .inl (cI, 12, .inl (fun j => iI ((K j : Nat) : Int)))), (p0, .inl (cI, 12, .inl (fun j => iI ((q j : Nat) : Int))))]) (w' := [(m0, .inr (1, [.int th, .ref t0, .ref k0, .ref p0, .int (iI ((w : Nat) : Int))])), (t0, .inl (cI, 24, .inl (fun j => iI ((tb a0 a1 j : Nat) : Int)))), (k0, .inl (cI, 12, .inl (fun j => iI ((K j : Nat) : Int)))), (p0, .inl (cI, 12, .inl (fun j => iI ((q j : Nat) : Int))))]) rfl h) (fun H locs hP hz hk hS => ?_)
        have hD : va_D (inW [(m0, .inr (1, [.int th, .ref t0, .ref k0, .ref p0, .int (iI ((w : Nat) : Int))])), (t0, .inl (cI, 24, .inl (fun j => iI ((tb a0 a1 j : Nat) : Int)))), (k0, .inl (cI, 12, .inl (fun j => iI ((K j : Nat) : Int)))), (p0, .inl (cI, 12, .inl (fun j => iI ((q j : Nat) : Int))))]) [(m0, .inr (1, [.int (iI 1), .ref t0, .ref k0, .ref p0, .int (iI ((w : Nat) : Int))])), (t0, .inl (cI, 24, .inl (fun j => iI ((tb a0 a1 j : Nat) : Int)))), (k0, .inl (cI, 12, .inl (fun j => iI ((K j : Nat) : Int)))), (p0, .inl (cI, 12, .inl (fun j => iI ((q j : Nat) : Int))))] := va_D_same (w := [(m0, .inr (1, [.int th, .ref t0, .ref k0, .ref p0, .int (iI ((w : Nat) : Int))])), (t0, .inl (cI, 24, .inl (fun j => iI ((tb a0 a1 j : Nat) : Int)))), (k0, .inl (cI, 12, .inl (fun j => iI ((K j : Nat) : Int)))), (p0, .inl (cI, 12, .inl (fun j => iI ((q j : Nat) : Int))))]) rfl hD
        refine st_i (y := iI 0) (congrArg iI (bI_f (by decide))) ?_
        refine ib_if_eq (tgt := 75) hx hb dX1_segment_57 (by decide) ⟨by omega, by omega⟩ (fun c_57 => ?_) (fun c_57 => absurd c_57 (by decide))
        refine ib_const hx hb dX1_segment_75 ?_
        exact W.iret hx hb hr (fun t ht _ => ⟨rfl, by rw [ht]; exact hP, hS.F ht⟩) hS.2.2 dX1_segment_76
      · skip
        refine lv_iload_n hx hb dX1_segment_33 rfl (lv_at hl 3 rfl) ?_
        refine rd_call (va_runS (As := [.int (iI z1)]) (rest := [.ref m0]) ⟨hx, hb, hml, hown, hts⟩ (mX1_isTone l z1 ⟨by omega, by omega⟩) (va_cwS 1 hts gX1_segment_X1_isTone rfl rfl rfl hdX1_isTone ⟨Nat.le_of_ble_eq_true rfl, Nat.le_of_ble_eq_true rfl⟩) tt_pre rfl rfl hl.1 rfl (lv_room (Nat.le_of_ble_eq_true rfl)) dX1_segment_34 ⟨Nat.le_of_ble_eq_true rfl, Nat.le_of_ble_eq_true rfl⟩) ?_
        refine bb_ne (tgt := 44) hx hb dX1_segment_37 (by decide) (fun c_37 => ?_) (fun c_37 => ?_)
        · skip
          refine lv_iload hx hb dX1_segment_44 (lv_at hl 0 rfl) ?_
          refine ib_if_eq (tgt := 53) hx hb dX1_segment_46 (by decide) ⟨by omega, by omega⟩ (fun c_46 => absurd c_46 (by decide)) (fun c_46 => ?_)
          refine ib_const hx hb dX1_segment_49 ?_
          refine lv_goto (tgt := 54) hx hb dX1_segment_50 (by decide) ?_
          exfalso; omega
        · skip
          refine ib_const hx hb dX1_segment_40 ?_
          refine lv_goto (tgt := 54) hx hb dX1_segment_41 (by decide) ?_
          refine wr_call (va_runV (As := [.int (iI 1)]) (rest := []) ⟨hx, hb, hml, hown, hts⟩ (mX1_goesWell l dC dI cI m0 t0 k0 p0 a0 a1 K q th w h0 h1 hw hq 1 ⟨by omega, by omega⟩) (cwV 1 hts gX1_segment_X1_goesWell rfl rfl rfl hvX1_goesWell ⟨Nat.le_of_ble_eq_true rfl, Nat.le_of_ble_eq_true rfl⟩) (bD_pre (ci := 1) (q0 := 0) hK hP hD rfl rfl rfl) rfl rfl hl.1 rfl (lv_room (Nat.le_of_ble_eq_true rfl)) dX1_segment_54 ⟨Nat.le_of_ble_eq_true rfl, Nat.le_of_ble_eq_true rfl⟩) hS (fun q9 h => inW_same (w := [(m0, .inr (1, [.int th, .ref t0, .ref k0, .ref p0, .int (iI ((w : Nat) : Int))])), (t0, .inl (cI, 24, .inl (fun j => iI ((tb a0 a1 j : Nat) : Int)))), (k0, .inl (cI, 12, .inl (fun j => iI ((K j : Nat) : Int)))), (p0, .inl (cI, 12, .inl (fun j => iI ((q j : Nat) : Int))))]) (w' := [(m0, .inr (1, [.int th, .ref t0, .ref k0, .ref p0, .int (iI ((w : Nat) : Int))])), (t0, .inl (cI, 24, .inl (fun j => iI ((tb a0 a1 j : Nat) : Int)))), (k0, .inl (cI, 12, .inl (fun j => iI ((K j : Nat) : Int)))), (p0, .inl (cI, 12, .inl (fun j => iI ((q j : Nat) : Int))))]) rfl h) (fun H locs hP hz hk hS => ?_)
          have hD : va_D (inW [(m0, .inr (1, [.int th, .ref t0, .ref k0, .ref p0, .int (iI ((w : Nat) : Int))])), (t0, .inl (cI, 24, .inl (fun j => iI ((tb a0 a1 j : Nat) : Int)))), (k0, .inl (cI, 12, .inl (fun j => iI ((K j : Nat) : Int)))), (p0, .inl (cI, 12, .inl (fun j => iI ((q j : Nat) : Int))))]) [(m0, .inr (1, [.int (iI 1), .ref t0, .ref k0, .ref p0, .int (iI ((w : Nat) : Int))])), (t0, .inl (cI, 24, .inl (fun j => iI ((tb a0 a1 j : Nat) : Int)))), (k0, .inl (cI, 12, .inl (fun j => iI ((K j : Nat) : Int)))), (p0, .inl (cI, 12, .inl (fun j => iI ((q j : Nat) : Int))))] := va_D_same (w := [(m0, .inr (1, [.int th, .ref t0, .ref k0, .ref p0, .int (iI ((w : Nat) : Int))])), (t0, .inl (cI, 24, .inl (fun j => iI ((tb a0 a1 j : Nat) : Int)))), (k0, .inl (cI, 12, .inl (fun j => iI ((K j : Nat) : Int)))), (p0, .inl (cI, 12, .inl (fun j => iI ((q j : Nat) : Int))))]) rfl hD
          refine st_i (y := iI 0) (congrArg iI (bI_f (by decide))) ?_
          refine ib_if_eq (tgt := 75) hx hb dX1_segment_57 (by decide) ⟨by omega, by omega⟩ (fun c_57 => ?_) (fun c_57 => absurd c_57 (by decide))
          refine ib_const hx hb dX1_segment_75 ?_
          exact W.iret hx hb hr (fun t ht _ => ⟨rfl, by rw [ht]; exact hP, hS.F ht⟩) hS.2.2 dX1_segment_76

set_option maxHeartbeats 4000000 in
set_option maxRecDepth 100000 in
theorem mX1_segment_x2 (l : Launch) (dC : Nat → ClassId) (dI : Nat → Nat → Nat) (cI : ClassId) (m0 t0 k0 p0 : Nat) (a0 a1 K q : Nat → Nat) (th : Int32) (w : Nat) (h0 : lt12 a0) (h1 : lt12 a1) (hw : w ≤ 12) (hq : ∀ i, i < w → q i < 12) (z0 z1 z2 : Int) (hz0 : inI z0) (hz1 : inI z1) (hz2 : inI z2) (hbad : ((z0 = 0 ∨ z0 = 1) ∧ (0 ≤ z1 ∧ z1 ≤ 11)) ∧ ¬ (1 ≤ z2 ∧ z2 ≤ 12 ∧ z1 + z2 ≤ 12)) : wr l yX1_segment wsX1_segment { frames := 2, cells := 0, slots := 0, locals := 42 } [.ref m0, .int (iI z0), .int (iI z1), .int (iI z2)] (dC, dI) [(m0, .inr (1, [.int th, .ref t0, .ref k0, .ref p0, .int (iI ((w : Nat) : Int))])), (t0, .inl (cI, 24, .inl (fun j => iI ((tb a0 a1 j : Nat) : Int)))), (k0, .inl (cI, 12, .inl (fun j => iI ((K j : Nat) : Int)))), (p0, .inl (cI, 12, .inl (fun j => iI ((q j : Nat) : Int))))] [(cI, .int)] [(m0, .inr (1, [.int (iI 2), .ref t0, .ref k0, .ref p0, .int (iI ((w : Nat) : Int))])), (t0, .inl (cI, 24, .inl (fun j => iI ((tb a0 a1 j : Nat) : Int)))), (k0, .inl (cI, 12, .inl (fun j => iI ((K j : Nat) : Int)))), (p0, .inl (cI, 12, .inl (fun j => iI ((q j : Nat) : Int))))] (some (.int (iI 0))) := by
  refine Met.ofW (cc := cX1_segment) (maxL := 5) (ret := (some .int)) (by decide) rfl ?_
  intro P0 e s m args below meth c s₁ B hml hv
  obtain ⟨rfl, hP, hK, hD0⟩ := hv
  have hx := B.exec
  have hb := B.bytes
  have hr := B.returns
  have hts := atoms_spec (ws := wsX1_segment) B.pre
  have hown : s.vm.findClass RX1 = some m.cls := findClass_of_methodNamed B.named
  have hlocks := B.notSynchronized
  have hinX : ∀ w ∈ u_ws RX1 TX1 5, w ∈ wsX1_segment := by decide +kernel
  have hD : va_D (inW [(m0, .inr (1, [.int th, .ref t0, .ref k0, .ref p0, .int (iI ((w : Nat) : Int))])), (t0, .inl (cI, 24, .inl (fun j => iI ((tb a0 a1 j : Nat) : Int)))), (k0, .inl (cI, 12, .inl (fun j => iI ((K j : Nat) : Int)))), (p0, .inl (cI, 12, .inl (fun j => iI ((q j : Nat) : Int))))]) [(m0, .inr (1, [.int th, .ref t0, .ref k0, .ref p0, .int (iI ((w : Nat) : Int))])), (t0, .inl (cI, 24, .inl (fun j => iI ((tb a0 a1 j : Nat) : Int)))), (k0, .inl (cI, 12, .inl (fun j => iI ((K j : Nat) : Int)))), (p0, .inl (cI, 12, .inl (fun j => iI ((q j : Nat) : Int))))] := va_D_in hD0
  have hS : va_S (inW [(m0, .inr (1, [.int th, .ref t0, .ref k0, .ref p0, .int (iI ((w : Nat) : Int))])), (t0, .inl (cI, 24, .inl (fun j => iI ((tb a0 a1 j : Nat) : Int)))), (k0, .inl (cI, 12, .inl (fun j => iI ((K j : Nat) : Int)))), (p0, .inl (cI, 12, .inl (fun j => iI ((q j : Nat) : Int))))]) s.heap s.heap [] := va_S.rf
  have hl := lv_entry ([.ref m0, .int (iI z0), .int (iI z1), .int (iI z2)]) (n := 5) (Nat.le_of_ble_eq_true rfl)
  rw [lg_entry_eq]
  generalize (lg_sl ([.ref m0, .int (iI z0), .int (iI z1), .int (iI z2)]) ++ List.replicate (5 - (lg_sl ([.ref m0, .int (iI z0), .int (iI z1), .int (iI z2)])).length) Slot.unset).toArray = ls at hl ⊢
  have hl : lv_has ls 5 [(0, .ref m0), (1, .int (iI z0)), (2, .int (iI z1)), (3, .int (iI z2))] := hl
  have hza0 := hz0.1
  have hza1 := hz1.1
  have hza2 := hz2.1
  have hzb0 := hz0.2
  have hzb1 := hz1.2
  have hzb2 := hz2.2
  refine lv_iload_n hx hb dX1_segment_0 rfl (lv_at hl 3 rfl) ?_
  refine ib_const hx hb dX1_segment_1 ?_
  refine ib_bi hx hb dX1_segment_2 (by decide) ?_
  refine rd_call (va_runS (As := [.int (iI z2), .int (iI 1), .int (iI 12)]) (rest := []) ⟨hx, hb, hml, hown, hts⟩ (mX1_in l z2 1 12 ⟨by omega, by omega⟩ ⟨by omega, by omega⟩ ⟨by omega, by omega⟩) (va_cwS 3 hts gX1_segment_X1_in rfl rfl rfl hdX1_in ⟨Nat.le_of_ble_eq_true rfl, Nat.le_of_ble_eq_true rfl⟩) tt_pre rfl rfl hl.1 rfl (lv_room (Nat.le_of_ble_eq_true rfl)) dX1_segment_4 ⟨Nat.le_of_ble_eq_true rfl, Nat.le_of_ble_eq_true rfl⟩) ?_
  refine bb_eq (tgt := 22) hx hb dX1_segment_7 (by decide) (fun c_7 => ?_) (fun c_7 => ?_)
  · skip
    refine ib_const hx hb dX1_segment_22 ?_
    refine lv_istore (lv' := [(4, .int (iI 0)), (0, .ref m0), (1, .int (iI z0)), (2, .int (iI z1)), (3, .int (iI z2))]) hx hb dX1_segment_23 hl (by decide) rfl (fun ls hl => ?_)
    refine lv_aload_n hx hb dX1_segment_25 rfl (lv_at hl 1 rfl) ?_
    refine lv_iload_n hx hb dX1_segment_26 rfl (lv_at hl 2 rfl) ?_
    refine rd_call (va_runS (As := [.int (iI z0)]) (rest := [.ref m0]) ⟨hx, hb, hml, hown, hts⟩ (mX1_isRow l z0 ⟨by omega, by omega⟩) (va_cwS 1 hts gX1_segment_X1_isRow rfl rfl rfl hdX1_isRow ⟨Nat.le_of_ble_eq_true rfl, Nat.le_of_ble_eq_true rfl⟩) tt_pre rfl rfl hl.1 rfl (lv_room (Nat.le_of_ble_eq_true rfl)) dX1_segment_27 ⟨Nat.le_of_ble_eq_true rfl, Nat.le_of_ble_eq_true rfl⟩) ?_
    refine bb_eq (tgt := 40) hx hb dX1_segment_30 (by decide) (fun c_30 => ?_) (fun c_30 => ?_)
    · skip
      refine ib_const hx hb dX1_segment_40 ?_
      refine lv_goto (tgt := 54) hx hb dX1_segment_41 (by decide) ?_
      exfalso; omega
    · skip
      refine lv_iload_n hx hb dX1_segment_33 rfl (lv_at hl 3 rfl) ?_
      refine rd_call (va_runS (As := [.int (iI z1)]) (rest := [.ref m0]) ⟨hx, hb, hml, hown, hts⟩ (mX1_isTone l z1 ⟨by omega, by omega⟩) (va_cwS 1 hts gX1_segment_X1_isTone rfl rfl rfl hdX1_isTone ⟨Nat.le_of_ble_eq_true rfl, Nat.le_of_ble_eq_true rfl⟩) tt_pre rfl rfl hl.1 rfl (lv_room (Nat.le_of_ble_eq_true rfl)) dX1_segment_34 ⟨Nat.le_of_ble_eq_true rfl, Nat.le_of_ble_eq_true rfl⟩) ?_
      refine bb_ne (tgt := 44) hx hb dX1_segment_37 (by decide) (fun c_37 => ?_) (fun c_37 => ?_)
      · skip
        refine lv_iload hx hb dX1_segment_44 (lv_at hl 0 rfl) ?_
        refine ib_if_eq (tgt := 53) hx hb dX1_segment_46 (by decide) ⟨by omega, by omega⟩ (fun c_46 => ?_) (fun c_46 => absurd c_46 (by decide))
        refine ib_const hx hb dX1_segment_53 ?_
        refine wr_call (va_runV (As := [.int (iI 2)]) (rest := []) ⟨hx, hb, hml, hown, hts⟩ (mX1_goesWell l dC dI cI m0 t0 k0 p0 a0 a1 K q th w h0 h1 hw hq 2 ⟨by omega, by omega⟩) (cwV 1 hts gX1_segment_X1_goesWell rfl rfl rfl hvX1_goesWell ⟨Nat.le_of_ble_eq_true rfl, Nat.le_of_ble_eq_true rfl⟩) (bD_pre (ci := 1) (q0 := 0) hK hP hD rfl rfl rfl) rfl rfl hl.1 rfl (lv_room (Nat.le_of_ble_eq_true rfl)) dX1_segment_54 ⟨Nat.le_of_ble_eq_true rfl, Nat.le_of_ble_eq_true rfl⟩) hS (fun q9 h => inW_same (w := [(m0, .inr (1, [.int th, .ref t0, .ref k0, .ref p0, .int (iI ((w : Nat) : Int))])), (t0, .inl (cI, 24, .inl (fun j => iI ((tb a0 a1 j : Nat) : Int)))), (k0, .inl (cI, 12, .inl (fun j => iI ((K j : Nat) : Int)))), (p0, .inl (cI, 12, .inl (fun j => iI ((q j : Nat) : Int))))]) (w' := [(m0, .inr (1, [.int th, .ref t0, .ref k0, .ref p0, .int (iI ((w : Nat) : Int))])), (t0, .inl (cI, 24, .inl (fun j => iI ((tb a0 a1 j : Nat) : Int)))), (k0, .inl (cI, 12, .inl (fun j => iI ((K j : Nat) : Int)))), (p0, .inl (cI, 12, .inl (fun j => iI ((q j : Nat) : Int))))]) rfl h) (fun H locs hP hz hk hS => ?_)
        have hD : va_D (inW [(m0, .inr (1, [.int th, .ref t0, .ref k0, .ref p0, .int (iI ((w : Nat) : Int))])), (t0, .inl (cI, 24, .inl (fun j => iI ((tb a0 a1 j : Nat) : Int)))), (k0, .inl (cI, 12, .inl (fun j => iI ((K j : Nat) : Int)))), (p0, .inl (cI, 12, .inl (fun j => iI ((q j : Nat) : Int))))]) [(m0, .inr (1, [.int (iI 2), .ref t0, .ref k0, .ref p0, .int (iI ((w : Nat) : Int))])), (t0, .inl (cI, 24, .inl (fun j => iI ((tb a0 a1 j : Nat) : Int)))), (k0, .inl (cI, 12, .inl (fun j => iI ((K j : Nat) : Int)))), (p0, .inl (cI, 12, .inl (fun j => iI ((q j : Nat) : Int))))] := va_D_same (w := [(m0, .inr (1, [.int th, .ref t0, .ref k0, .ref p0, .int (iI ((w : Nat) : Int))])), (t0, .inl (cI, 24, .inl (fun j => iI ((tb a0 a1 j : Nat) : Int)))), (k0, .inl (cI, 12, .inl (fun j => iI ((K j : Nat) : Int)))), (p0, .inl (cI, 12, .inl (fun j => iI ((q j : Nat) : Int))))]) rfl hD
        refine st_i (y := iI 0) (congrArg iI (bI_f (by decide))) ?_
        refine ib_if_eq (tgt := 75) hx hb dX1_segment_57 (by decide) ⟨by omega, by omega⟩ (fun c_57 => ?_) (fun c_57 => absurd c_57 (by decide))
        refine ib_const hx hb dX1_segment_75 ?_
        exact W.iret hx hb hr (fun t ht _ => ⟨rfl, by rw [ht]; exact hP, hS.F ht⟩) hS.2.2 dX1_segment_76
      · skip
        refine ib_const hx hb dX1_segment_40 ?_
        refine lv_goto (tgt := 54) hx hb dX1_segment_41 (by decide) ?_
        exfalso; omega
  · skip
    refine lv_iload_n hx hb dX1_segment_10 rfl (lv_at hl 2 rfl) ?_
    refine lv_iload_n hx hb dX1_segment_11 rfl (lv_at hl 3 rfl) ?_
    refine ib_add (z := z1 + z2) hx hb dX1_segment_12 (by omega) ?_
    refine ib_bi hx hb dX1_segment_13 (by decide) ?_
    refine ib_icmp_gt (tgt := 22) hx hb dX1_segment_15 (by decide) ⟨by omega, by omega⟩ ⟨by omega, by omega⟩ (fun c_15 => ?_) (fun c_15 => ?_)
    · skip
      refine ib_const hx hb dX1_segment_22 ?_
      refine lv_istore (lv' := [(4, .int (iI 0)), (0, .ref m0), (1, .int (iI z0)), (2, .int (iI z1)), (3, .int (iI z2))]) hx hb dX1_segment_23 hl (by decide) rfl (fun ls hl => ?_)
      refine lv_aload_n hx hb dX1_segment_25 rfl (lv_at hl 1 rfl) ?_
      refine lv_iload_n hx hb dX1_segment_26 rfl (lv_at hl 2 rfl) ?_
      refine rd_call (va_runS (As := [.int (iI z0)]) (rest := [.ref m0]) ⟨hx, hb, hml, hown, hts⟩ (mX1_isRow l z0 ⟨by omega, by omega⟩) (va_cwS 1 hts gX1_segment_X1_isRow rfl rfl rfl hdX1_isRow ⟨Nat.le_of_ble_eq_true rfl, Nat.le_of_ble_eq_true rfl⟩) tt_pre rfl rfl hl.1 rfl (lv_room (Nat.le_of_ble_eq_true rfl)) dX1_segment_27 ⟨Nat.le_of_ble_eq_true rfl, Nat.le_of_ble_eq_true rfl⟩) ?_
      refine bb_eq (tgt := 40) hx hb dX1_segment_30 (by decide) (fun c_30 => ?_) (fun c_30 => ?_)
      · skip
        refine ib_const hx hb dX1_segment_40 ?_
        refine lv_goto (tgt := 54) hx hb dX1_segment_41 (by decide) ?_
        exfalso; omega
      · skip
        refine lv_iload_n hx hb dX1_segment_33 rfl (lv_at hl 3 rfl) ?_
        refine rd_call (va_runS (As := [.int (iI z1)]) (rest := [.ref m0]) ⟨hx, hb, hml, hown, hts⟩ (mX1_isTone l z1 ⟨by omega, by omega⟩) (va_cwS 1 hts gX1_segment_X1_isTone rfl rfl rfl hdX1_isTone ⟨Nat.le_of_ble_eq_true rfl, Nat.le_of_ble_eq_true rfl⟩) tt_pre rfl rfl hl.1 rfl (lv_room (Nat.le_of_ble_eq_true rfl)) dX1_segment_34 ⟨Nat.le_of_ble_eq_true rfl, Nat.le_of_ble_eq_true rfl⟩) ?_
        refine bb_ne (tgt := 44) hx hb dX1_segment_37 (by decide) (fun c_37 => ?_) (fun c_37 => ?_)
        · skip
          refine lv_iload hx hb dX1_segment_44 (lv_at hl 0 rfl) ?_
          refine ib_if_eq (tgt := 53) hx hb dX1_segment_46 (by decide) ⟨by omega, by omega⟩ (fun c_46 => ?_) (fun c_46 => absurd c_46 (by decide))
          refine ib_const hx hb dX1_segment_53 ?_
          refine wr_call (va_runV (As := [.int (iI 2)]) (rest := []) ⟨hx, hb, hml, hown, hts⟩ (mX1_goesWell l dC dI cI m0 t0 k0 p0 a0 a1 K q th w h0 h1 hw hq 2 ⟨by omega, by omega⟩) (cwV 1 hts gX1_segment_X1_goesWell rfl rfl rfl hvX1_goesWell ⟨Nat.le_of_ble_eq_true rfl, Nat.le_of_ble_eq_true rfl⟩) (bD_pre (ci := 1) (q0 := 0) hK hP hD rfl rfl rfl) rfl rfl hl.1 rfl (lv_room (Nat.le_of_ble_eq_true rfl)) dX1_segment_54 ⟨Nat.le_of_ble_eq_true rfl, Nat.le_of_ble_eq_true rfl⟩) hS (fun q9 h => inW_same (w := [(m0, .inr (1, [.int th, .ref t0, .ref k0, .ref p0, .int (iI ((w : Nat) : Int))])), (t0, .inl (cI, 24, .inl (fun j => iI ((tb a0 a1 j : Nat) : Int)))), (k0, .inl (cI, 12, .inl (fun j => iI ((K j : Nat) : Int)))), (p0, .inl (cI, 12, .inl (fun j => iI ((q j : Nat) : Int))))]) (w' := [(m0, .inr (1, [.int th, .ref t0, .ref k0, .ref p0, .int (iI ((w : Nat) : Int))])), (t0, .inl (cI, 24, .inl (fun j => iI ((tb a0 a1 j : Nat) : Int)))), (k0, .inl (cI, 12, .inl (fun j => iI ((K j : Nat) : Int)))), (p0, .inl (cI, 12, .inl (fun j => iI ((q j : Nat) : Int))))]) rfl h) (fun H locs hP hz hk hS => ?_)
          have hD : va_D (inW [(m0, .inr (1, [.int th, .ref t0, .ref k0, .ref p0, .int (iI ((w : Nat) : Int))])), (t0, .inl (cI, 24, .inl (fun j => iI ((tb a0 a1 j : Nat) : Int)))), (k0, .inl (cI, 12, .inl (fun j => iI ((K j : Nat) : Int)))), (p0, .inl (cI, 12, .inl (fun j => iI ((q j : Nat) : Int))))]) [(m0, .inr (1, [.int (iI 2), .ref t0, .ref k0, .ref p0, .int (iI ((w : Nat) : Int))])), (t0, .inl (cI, 24, .inl (fun j => iI ((tb a0 a1 j : Nat) : Int)))), (k0, .inl (cI, 12, .inl (fun j => iI ((K j : Nat) : Int)))), (p0, .inl (cI, 12, .inl (fun j => iI ((q j : Nat) : Int))))] := va_D_same (w := [(m0, .inr (1, [.int th, .ref t0, .ref k0, .ref p0, .int (iI ((w : Nat) : Int))])), (t0, .inl (cI, 24, .inl (fun j => iI ((tb a0 a1 j : Nat) : Int)))), (k0, .inl (cI, 12, .inl (fun j => iI ((K j : Nat) : Int)))), (p0, .inl (cI, 12, .inl (fun j => iI ((q j : Nat) : Int))))]) rfl hD
          refine st_i (y := iI 0) (congrArg iI (bI_f (by decide))) ?_
          refine ib_if_eq (tgt := 75) hx hb dX1_segment_57 (by decide) ⟨by omega, by omega⟩ (fun c_57 => ?_) (fun c_57 => absurd c_57 (by decide))
          refine ib_const hx hb dX1_segment_75 ?_
          exact W.iret hx hb hr (fun t ht _ => ⟨rfl, by rw [ht]; exact hP, hS.F ht⟩) hS.2.2 dX1_segment_76
        · skip
          refine ib_const hx hb dX1_segment_40 ?_
          refine lv_goto (tgt := 54) hx hb dX1_segment_41 (by decide) ?_
          exfalso; omega
    · skip
      refine ib_const hx hb dX1_segment_18 ?_
      refine lv_goto (tgt := 23) hx hb dX1_segment_19 (by decide) ?_
      refine lv_istore (lv' := [(4, .int (iI 1)), (0, .ref m0), (1, .int (iI z0)), (2, .int (iI z1)), (3, .int (iI z2))]) hx hb dX1_segment_23 hl (by decide) rfl (fun ls hl => ?_)
      refine lv_aload_n hx hb dX1_segment_25 rfl (lv_at hl 1 rfl) ?_
      refine lv_iload_n hx hb dX1_segment_26 rfl (lv_at hl 2 rfl) ?_
      refine rd_call (va_runS (As := [.int (iI z0)]) (rest := [.ref m0]) ⟨hx, hb, hml, hown, hts⟩ (mX1_isRow l z0 ⟨by omega, by omega⟩) (va_cwS 1 hts gX1_segment_X1_isRow rfl rfl rfl hdX1_isRow ⟨Nat.le_of_ble_eq_true rfl, Nat.le_of_ble_eq_true rfl⟩) tt_pre rfl rfl hl.1 rfl (lv_room (Nat.le_of_ble_eq_true rfl)) dX1_segment_27 ⟨Nat.le_of_ble_eq_true rfl, Nat.le_of_ble_eq_true rfl⟩) ?_
      refine bb_eq (tgt := 40) hx hb dX1_segment_30 (by decide) (fun c_30 => ?_) (fun c_30 => ?_)
      · skip
        refine ib_const hx hb dX1_segment_40 ?_
        refine lv_goto (tgt := 54) hx hb dX1_segment_41 (by decide) ?_
        exfalso; omega
      · skip
        refine lv_iload_n hx hb dX1_segment_33 rfl (lv_at hl 3 rfl) ?_
        refine rd_call (va_runS (As := [.int (iI z1)]) (rest := [.ref m0]) ⟨hx, hb, hml, hown, hts⟩ (mX1_isTone l z1 ⟨by omega, by omega⟩) (va_cwS 1 hts gX1_segment_X1_isTone rfl rfl rfl hdX1_isTone ⟨Nat.le_of_ble_eq_true rfl, Nat.le_of_ble_eq_true rfl⟩) tt_pre rfl rfl hl.1 rfl (lv_room (Nat.le_of_ble_eq_true rfl)) dX1_segment_34 ⟨Nat.le_of_ble_eq_true rfl, Nat.le_of_ble_eq_true rfl⟩) ?_
        refine bb_ne (tgt := 44) hx hb dX1_segment_37 (by decide) (fun c_37 => ?_) (fun c_37 => ?_)
        · skip
          refine lv_iload hx hb dX1_segment_44 (lv_at hl 0 rfl) ?_
          refine ib_if_eq (tgt := 53) hx hb dX1_segment_46 (by decide) ⟨by omega, by omega⟩ (fun c_46 => absurd c_46 (by decide)) (fun c_46 => ?_)
          refine ib_const hx hb dX1_segment_49 ?_
          refine lv_goto (tgt := 54) hx hb dX1_segment_50 (by decide) ?_
          exfalso; omega
        · skip
          refine ib_const hx hb dX1_segment_40 ?_
          refine lv_goto (tgt := 54) hx hb dX1_segment_41 (by decide) ?_
          exfalso; omega

set_option maxHeartbeats 4000000 in
set_option maxRecDepth 100000 in
theorem mX1_classOf_ok (l : Launch) (dC : Nat → ClassId) (dI : Nat → Nat → Nat) (cI : ClassId) (m0 t0 k0 p0 : Nat) (a0 a1 K q : Nat → Nat) (th : Int32) (w : Nat) (h0 : lt12 a0) (h1 : lt12 a1) (hw : w ≤ 12) (hq : ∀ i, i < w → q i < 12) (sv : Nat) (hs : sv < 4096) : wr l yX1_classOf wsX1_classOf { frames := 3, cells := 0, slots := 0, locals := 66 } [.ref m0, .int (iI ((sv : Nat) : Int))] (dC, dI) [(m0, .inr (1, [.int th, .ref t0, .ref k0, .ref p0, .int (iI ((w : Nat) : Int))])), (t0, .inl (cI, 24, .inl (fun j => iI ((tb a0 a1 j : Nat) : Int)))), (k0, .inl (cI, 12, .inl (fun j => iI ((K j : Nat) : Int)))), (p0, .inl (cI, 12, .inl (fun j => iI ((q j : Nat) : Int))))] [(cI, .int)] [(m0, .inr (1, [.int (iI 0), .ref t0, .ref k0, .ref p0, .int (iI ((w : Nat) : Int))])), (t0, .inl (cI, 24, .inl (fun j => iI ((tb a0 a1 j : Nat) : Int)))), (k0, .inl (cI, 12, .inl (fun j => iI ((K j : Nat) : Int)))), (p0, .inl (cI, 12, .inl (fun j => iI ((q j : Nat) : Int))))] (some (.int (iI ((lsN sv 12 : Nat) : Int)))) := by
  refine Met.ofW (cc := cX1_classOf) (maxL := 2) (ret := (some .int)) (by decide) rfl ?_
  intro P0 e s m args below meth c s₁ B hml hv
  obtain ⟨rfl, hP, hK, hD0⟩ := hv
  have hx := B.exec
  have hb := B.bytes
  have hr := B.returns
  have hts := atoms_spec (ws := wsX1_classOf) B.pre
  have hown : s.vm.findClass RX1 = some m.cls := findClass_of_methodNamed B.named
  have hlocks := B.notSynchronized
  have hinX : ∀ w ∈ u_ws RX1 TX1 5, w ∈ wsX1_classOf := by decide +kernel
  have hD : va_D (inW [(m0, .inr (1, [.int th, .ref t0, .ref k0, .ref p0, .int (iI ((w : Nat) : Int))])), (t0, .inl (cI, 24, .inl (fun j => iI ((tb a0 a1 j : Nat) : Int)))), (k0, .inl (cI, 12, .inl (fun j => iI ((K j : Nat) : Int)))), (p0, .inl (cI, 12, .inl (fun j => iI ((q j : Nat) : Int))))]) [(m0, .inr (1, [.int th, .ref t0, .ref k0, .ref p0, .int (iI ((w : Nat) : Int))])), (t0, .inl (cI, 24, .inl (fun j => iI ((tb a0 a1 j : Nat) : Int)))), (k0, .inl (cI, 12, .inl (fun j => iI ((K j : Nat) : Int)))), (p0, .inl (cI, 12, .inl (fun j => iI ((q j : Nat) : Int))))] := va_D_in hD0
  have hS : va_S (inW [(m0, .inr (1, [.int th, .ref t0, .ref k0, .ref p0, .int (iI ((w : Nat) : Int))])), (t0, .inl (cI, 24, .inl (fun j => iI ((tb a0 a1 j : Nat) : Int)))), (k0, .inl (cI, 12, .inl (fun j => iI ((K j : Nat) : Int)))), (p0, .inl (cI, 12, .inl (fun j => iI ((q j : Nat) : Int))))]) s.heap s.heap [] := va_S.rf
  have hl := lv_entry ([.ref m0, .int (iI ((sv : Nat) : Int))]) (n := 2) (Nat.le_of_ble_eq_true rfl)
  rw [lg_entry_eq]
  generalize (lg_sl ([.ref m0, .int (iI ((sv : Nat) : Int))]) ++ List.replicate (2 - (lg_sl ([.ref m0, .int (iI ((sv : Nat) : Int))])).length) Slot.unset).toArray = ls at hl ⊢
  have hl : lv_has ls 2 [(0, .ref m0), (1, .int (iI ((sv : Nat) : Int)))] := hl
  refine lv_aload_n hx hb dX1_classOf_0 rfl (lv_at hl 0 rfl) ?_
  refine lv_iload_n hx hb dX1_classOf_1 rfl (lv_at hl 1 rfl) ?_
  refine ib_const hx hb dX1_classOf_2 ?_
  refine ib_si hx hb dX1_classOf_3 (by decide) ?_
  refine rd_call (va_runS (As := [.int (iI ((sv : Nat) : Int)), .int (iI 0), .int (iI 4095)]) (rest := [.ref m0]) ⟨hx, hb, hml, hown, hts⟩ (mX1_in l ((sv : Nat) : Int) 0 4095 ⟨by omega, by omega⟩ ⟨by omega, by omega⟩ ⟨by omega, by omega⟩) (va_cwS 3 hts gX1_classOf_X1_in rfl rfl rfl hdX1_in ⟨Nat.le_of_ble_eq_true rfl, Nat.le_of_ble_eq_true rfl⟩) tt_pre rfl rfl hl.1 rfl (lv_room (Nat.le_of_ble_eq_true rfl)) dX1_classOf_6 ⟨Nat.le_of_ble_eq_true rfl, Nat.le_of_ble_eq_true rfl⟩) ?_
  refine bb_eq (tgt := 16) hx hb dX1_classOf_9 (by decide) (fun c_9 => absurd c_9 (by omega)) (fun c_9 => ?_)
  refine ib_const hx hb dX1_classOf_12 ?_
  refine lv_goto (tgt := 17) hx hb dX1_classOf_13 (by decide) ?_
  refine wr_call (va_runV (As := [.int (iI 0)]) (rest := []) ⟨hx, hb, hml, hown, hts⟩ (mX1_goesWell l dC dI cI m0 t0 k0 p0 a0 a1 K q th w h0 h1 hw hq 0 ⟨by omega, by omega⟩) (cwV 1 hts gX1_classOf_X1_goesWell rfl rfl rfl hvX1_goesWell ⟨Nat.le_of_ble_eq_true rfl, Nat.le_of_ble_eq_true rfl⟩) (bD_pre (ci := 1) (q0 := 0) hK hP hD rfl rfl rfl) rfl rfl hl.1 rfl (lv_room (Nat.le_of_ble_eq_true rfl)) dX1_classOf_17 ⟨Nat.le_of_ble_eq_true rfl, Nat.le_of_ble_eq_true rfl⟩) hS (fun q9 h => inW_same (w := [(m0, .inr (1, [.int th, .ref t0, .ref k0, .ref p0, .int (iI ((w : Nat) : Int))])), (t0, .inl (cI, 24, .inl (fun j => iI ((tb a0 a1 j : Nat) : Int)))), (k0, .inl (cI, 12, .inl (fun j => iI ((K j : Nat) : Int)))), (p0, .inl (cI, 12, .inl (fun j => iI ((q j : Nat) : Int))))]) (w' := [(m0, .inr (1, [.int th, .ref t0, .ref k0, .ref p0, .int (iI ((w : Nat) : Int))])), (t0, .inl (cI, 24, .inl (fun j => iI ((tb a0 a1 j : Nat) : Int)))), (k0, .inl (cI, 12, .inl (fun j => iI ((K j : Nat) : Int)))), (p0, .inl (cI, 12, .inl (fun j => iI ((q j : Nat) : Int))))]) rfl h) (fun H locs hP hz hk hS => ?_)
  have hD : va_D (inW [(m0, .inr (1, [.int th, .ref t0, .ref k0, .ref p0, .int (iI ((w : Nat) : Int))])), (t0, .inl (cI, 24, .inl (fun j => iI ((tb a0 a1 j : Nat) : Int)))), (k0, .inl (cI, 12, .inl (fun j => iI ((K j : Nat) : Int)))), (p0, .inl (cI, 12, .inl (fun j => iI ((q j : Nat) : Int))))]) [(m0, .inr (1, [.int (iI 0), .ref t0, .ref k0, .ref p0, .int (iI ((w : Nat) : Int))])), (t0, .inl (cI, 24, .inl (fun j => iI ((tb a0 a1 j : Nat) : Int)))), (k0, .inl (cI, 12, .inl (fun j => iI ((K j : Nat) : Int)))), (p0, .inl (cI, 12, .inl (fun j => iI ((q j : Nat) : Int))))] := va_D_same (w := [(m0, .inr (1, [.int th, .ref t0, .ref k0, .ref p0, .int (iI ((w : Nat) : Int))])), (t0, .inl (cI, 24, .inl (fun j => iI ((tb a0 a1 j : Nat) : Int)))), (k0, .inl (cI, 12, .inl (fun j => iI ((K j : Nat) : Int)))), (p0, .inl (cI, 12, .inl (fun j => iI ((q j : Nat) : Int))))]) rfl hD
  refine st_i (y := iI 1) (congrArg iI (bI_t (by decide))) ?_
  refine ib_if_eq (tgt := 30) hx hb dX1_classOf_20 (by decide) ⟨by omega, by omega⟩ (fun c_20 => absurd c_20 (by decide)) (fun c_20 => ?_)
  refine lv_iload_n hx hb dX1_classOf_23 rfl (lv_at hl 1 rfl) ?_
  refine rd_call (va_runS (As := [.int (iI ((sv : Nat) : Int))]) (rest := []) ⟨hx, hb, hml, hown, hts⟩ (mX1_least l sv (by omega)) (va_cwS 1 hts gX1_classOf_X1_least rfl rfl rfl hdX1_least ⟨Nat.le_of_ble_eq_true rfl, Nat.le_of_ble_eq_true rfl⟩) tt_pre rfl rfl hl.1 rfl (lv_room (Nat.le_of_ble_eq_true rfl)) dX1_classOf_24 ⟨Nat.le_of_ble_eq_true rfl, Nat.le_of_ble_eq_true rfl⟩) ?_
  have hl_24 := lsN_le sv 12
  refine lv_goto (tgt := 31) hx hb dX1_classOf_27 (by decide) ?_
  exact W.iret hx hb hr (fun t ht _ => ⟨rfl, by rw [ht]; exact hP, hS.F ht⟩) hS.2.2 dX1_classOf_31

set_option maxHeartbeats 4000000 in
set_option maxRecDepth 100000 in
theorem mX1_classOf_x1 (l : Launch) (dC : Nat → ClassId) (dI : Nat → Nat → Nat) (cI : ClassId) (m0 t0 k0 p0 : Nat) (a0 a1 K q : Nat → Nat) (th : Int32) (w : Nat) (h0 : lt12 a0) (h1 : lt12 a1) (hw : w ≤ 12) (hq : ∀ i, i < w → q i < 12) (z0 : Int) (hz0 : inI z0) (hbad : ¬ (0 ≤ z0 ∧ z0 ≤ 4095)) : wr l yX1_classOf wsX1_classOf { frames := 1, cells := 0, slots := 0, locals := 22 } [.ref m0, .int (iI z0)] (dC, dI) [(m0, .inr (1, [.int th, .ref t0, .ref k0, .ref p0, .int (iI ((w : Nat) : Int))])), (t0, .inl (cI, 24, .inl (fun j => iI ((tb a0 a1 j : Nat) : Int)))), (k0, .inl (cI, 12, .inl (fun j => iI ((K j : Nat) : Int)))), (p0, .inl (cI, 12, .inl (fun j => iI ((q j : Nat) : Int))))] [(cI, .int)] [(m0, .inr (1, [.int (iI 1), .ref t0, .ref k0, .ref p0, .int (iI ((w : Nat) : Int))])), (t0, .inl (cI, 24, .inl (fun j => iI ((tb a0 a1 j : Nat) : Int)))), (k0, .inl (cI, 12, .inl (fun j => iI ((K j : Nat) : Int)))), (p0, .inl (cI, 12, .inl (fun j => iI ((q j : Nat) : Int))))] (some (.int (iI 0))) := by
  refine Met.ofW (cc := cX1_classOf) (maxL := 2) (ret := (some .int)) (by decide) rfl ?_
  intro P0 e s m args below meth c s₁ B hml hv
  obtain ⟨rfl, hP, hK, hD0⟩ := hv
  have hx := B.exec
  have hb := B.bytes
  have hr := B.returns
  have hts := atoms_spec (ws := wsX1_classOf) B.pre
  have hown : s.vm.findClass RX1 = some m.cls := findClass_of_methodNamed B.named
  have hlocks := B.notSynchronized
  have hinX : ∀ w ∈ u_ws RX1 TX1 5, w ∈ wsX1_classOf := by decide +kernel
  have hD : va_D (inW [(m0, .inr (1, [.int th, .ref t0, .ref k0, .ref p0, .int (iI ((w : Nat) : Int))])), (t0, .inl (cI, 24, .inl (fun j => iI ((tb a0 a1 j : Nat) : Int)))), (k0, .inl (cI, 12, .inl (fun j => iI ((K j : Nat) : Int)))), (p0, .inl (cI, 12, .inl (fun j => iI ((q j : Nat) : Int))))]) [(m0, .inr (1, [.int th, .ref t0, .ref k0, .ref p0, .int (iI ((w : Nat) : Int))])), (t0, .inl (cI, 24, .inl (fun j => iI ((tb a0 a1 j : Nat) : Int)))), (k0, .inl (cI, 12, .inl (fun j => iI ((K j : Nat) : Int)))), (p0, .inl (cI, 12, .inl (fun j => iI ((q j : Nat) : Int))))] := va_D_in hD0
  have hS : va_S (inW [(m0, .inr (1, [.int th, .ref t0, .ref k0, .ref p0, .int (iI ((w : Nat) : Int))])), (t0, .inl (cI, 24, .inl (fun j => iI ((tb a0 a1 j : Nat) : Int)))), (k0, .inl (cI, 12, .inl (fun j => iI ((K j : Nat) : Int)))), (p0, .inl (cI, 12, .inl (fun j => iI ((q j : Nat) : Int))))]) s.heap s.heap [] := va_S.rf
  have hl := lv_entry ([.ref m0, .int (iI z0)]) (n := 2) (Nat.le_of_ble_eq_true rfl)
  rw [lg_entry_eq]
  generalize (lg_sl ([.ref m0, .int (iI z0)]) ++ List.replicate (2 - (lg_sl ([.ref m0, .int (iI z0)])).length) Slot.unset).toArray = ls at hl ⊢
  have hl : lv_has ls 2 [(0, .ref m0), (1, .int (iI z0))] := hl
  have hza0 := hz0.1
  have hzb0 := hz0.2
  refine lv_aload_n hx hb dX1_classOf_0 rfl (lv_at hl 0 rfl) ?_
  refine lv_iload_n hx hb dX1_classOf_1 rfl (lv_at hl 1 rfl) ?_
  refine ib_const hx hb dX1_classOf_2 ?_
  refine ib_si hx hb dX1_classOf_3 (by decide) ?_
  refine rd_call (va_runS (As := [.int (iI z0), .int (iI 0), .int (iI 4095)]) (rest := [.ref m0]) ⟨hx, hb, hml, hown, hts⟩ (mX1_in l z0 0 4095 ⟨by omega, by omega⟩ ⟨by omega, by omega⟩ ⟨by omega, by omega⟩) (va_cwS 3 hts gX1_classOf_X1_in rfl rfl rfl hdX1_in ⟨Nat.le_of_ble_eq_true rfl, Nat.le_of_ble_eq_true rfl⟩) tt_pre rfl rfl hl.1 rfl (lv_room (Nat.le_of_ble_eq_true rfl)) dX1_classOf_6 ⟨Nat.le_of_ble_eq_true rfl, Nat.le_of_ble_eq_true rfl⟩) ?_
  refine bb_eq (tgt := 16) hx hb dX1_classOf_9 (by decide) (fun c_9 => ?_) (fun c_9 => ?_)
  · skip
    refine ib_const hx hb dX1_classOf_16 ?_
    refine wr_call (va_runV (As := [.int (iI 1)]) (rest := []) ⟨hx, hb, hml, hown, hts⟩ (mX1_goesWell l dC dI cI m0 t0 k0 p0 a0 a1 K q th w h0 h1 hw hq 1 ⟨by omega, by omega⟩) (cwV 1 hts gX1_classOf_X1_goesWell rfl rfl rfl hvX1_goesWell ⟨Nat.le_of_ble_eq_true rfl, Nat.le_of_ble_eq_true rfl⟩) (bD_pre (ci := 1) (q0 := 0) hK hP hD rfl rfl rfl) rfl rfl hl.1 rfl (lv_room (Nat.le_of_ble_eq_true rfl)) dX1_classOf_17 ⟨Nat.le_of_ble_eq_true rfl, Nat.le_of_ble_eq_true rfl⟩) hS (fun q9 h => inW_same (w := [(m0, .inr (1, [.int th, .ref t0, .ref k0, .ref p0, .int (iI ((w : Nat) : Int))])), (t0, .inl (cI, 24, .inl (fun j => iI ((tb a0 a1 j : Nat) : Int)))), (k0, .inl (cI, 12, .inl (fun j => iI ((K j : Nat) : Int)))), (p0, .inl (cI, 12, .inl (fun j => iI ((q j : Nat) : Int))))]) (w' := [(m0, .inr (1, [.int th, .ref t0, .ref k0, .ref p0, .int (iI ((w : Nat) : Int))])), (t0, .inl (cI, 24, .inl (fun j => iI ((tb a0 a1 j : Nat) : Int)))), (k0, .inl (cI, 12, .inl (fun j => iI ((K j : Nat) : Int)))), (p0, .inl (cI, 12, .inl (fun j => iI ((q j : Nat) : Int))))]) rfl h) (fun H locs hP hz hk hS => ?_)
    have hD : va_D (inW [(m0, .inr (1, [.int th, .ref t0, .ref k0, .ref p0, .int (iI ((w : Nat) : Int))])), (t0, .inl (cI, 24, .inl (fun j => iI ((tb a0 a1 j : Nat) : Int)))), (k0, .inl (cI, 12, .inl (fun j => iI ((K j : Nat) : Int)))), (p0, .inl (cI, 12, .inl (fun j => iI ((q j : Nat) : Int))))]) [(m0, .inr (1, [.int (iI 1), .ref t0, .ref k0, .ref p0, .int (iI ((w : Nat) : Int))])), (t0, .inl (cI, 24, .inl (fun j => iI ((tb a0 a1 j : Nat) : Int)))), (k0, .inl (cI, 12, .inl (fun j => iI ((K j : Nat) : Int)))), (p0, .inl (cI, 12, .inl (fun j => iI ((q j : Nat) : Int))))] := va_D_same (w := [(m0, .inr (1, [.int th, .ref t0, .ref k0, .ref p0, .int (iI ((w : Nat) : Int))])), (t0, .inl (cI, 24, .inl (fun j => iI ((tb a0 a1 j : Nat) : Int)))), (k0, .inl (cI, 12, .inl (fun j => iI ((K j : Nat) : Int)))), (p0, .inl (cI, 12, .inl (fun j => iI ((q j : Nat) : Int))))]) rfl hD
    refine st_i (y := iI 0) (congrArg iI (bI_f (by decide))) ?_
    refine ib_if_eq (tgt := 30) hx hb dX1_classOf_20 (by decide) ⟨by omega, by omega⟩ (fun c_20 => ?_) (fun c_20 => absurd c_20 (by decide))
    refine ib_const hx hb dX1_classOf_30 ?_
    exact W.iret hx hb hr (fun t ht _ => ⟨rfl, by rw [ht]; exact hP, hS.F ht⟩) hS.2.2 dX1_classOf_31
  · skip
    refine ib_const hx hb dX1_classOf_12 ?_
    refine lv_goto (tgt := 17) hx hb dX1_classOf_13 (by decide) ?_
    exfalso; omega

set_option maxHeartbeats 4000000 in
set_option maxRecDepth 100000 in
theorem mX1_pairs_ok (l : Launch) (dC : Nat → ClassId) (dI : Nat → Nat → Nat) (cI : ClassId) (m0 t0 k0 p0 : Nat) (a0 a1 K q : Nat → Nat) (th : Int32) (w : Nat) (h0 : lt12 a0) (h1 : lt12 a1) (hw : w ≤ 12) (hq : ∀ i, i < w → q i < 12) (sv i : Nat) (hs : sv < 4096) (hi1 : 1 ≤ i) (hi2 : i ≤ 6) : wr l yX1_pairs wsX1_pairs { frames := 1, cells := 0, slots := 0, locals := 22 } [.ref m0, .int (iI ((sv : Nat) : Int)), .int (iI ((i : Nat) : Int))] (dC, dI) [(m0, .inr (1, [.int th, .ref t0, .ref k0, .ref p0, .int (iI ((w : Nat) : Int))])), (t0, .inl (cI, 24, .inl (fun j => iI ((tb a0 a1 j : Nat) : Int)))), (k0, .inl (cI, 12, .inl (fun j => iI ((K j : Nat) : Int)))), (p0, .inl (cI, 12, .inl (fun j => iI ((q j : Nat) : Int))))] [(cI, .int)] [(m0, .inr (1, [.int (iI 0), .ref t0, .ref k0, .ref p0, .int (iI ((w : Nat) : Int))])), (t0, .inl (cI, 24, .inl (fun j => iI ((tb a0 a1 j : Nat) : Int)))), (k0, .inl (cI, 12, .inl (fun j => iI ((K j : Nat) : Int)))), (p0, .inl (cI, 12, .inl (fun j => iI ((q j : Nat) : Int))))] (some (.int (iI ((prO sv i 12 : Nat) : Int)))) := by
  refine Met.ofW (cc := cX1_pairs) (maxL := 7) (ret := (some .int)) (by decide) rfl ?_
  intro P0 e s m args below meth c s₁ B hml hv
  obtain ⟨rfl, hP, hK, hD0⟩ := hv
  have hx := B.exec
  have hb := B.bytes
  have hr := B.returns
  have hts := atoms_spec (ws := wsX1_pairs) B.pre
  have hown : s.vm.findClass RX1 = some m.cls := findClass_of_methodNamed B.named
  have hlocks := B.notSynchronized
  have hinX : ∀ w ∈ u_ws RX1 TX1 5, w ∈ wsX1_pairs := by decide +kernel
  have hD : va_D (inW [(m0, .inr (1, [.int th, .ref t0, .ref k0, .ref p0, .int (iI ((w : Nat) : Int))])), (t0, .inl (cI, 24, .inl (fun j => iI ((tb a0 a1 j : Nat) : Int)))), (k0, .inl (cI, 12, .inl (fun j => iI ((K j : Nat) : Int)))), (p0, .inl (cI, 12, .inl (fun j => iI ((q j : Nat) : Int))))]) [(m0, .inr (1, [.int th, .ref t0, .ref k0, .ref p0, .int (iI ((w : Nat) : Int))])), (t0, .inl (cI, 24, .inl (fun j => iI ((tb a0 a1 j : Nat) : Int)))), (k0, .inl (cI, 12, .inl (fun j => iI ((K j : Nat) : Int)))), (p0, .inl (cI, 12, .inl (fun j => iI ((q j : Nat) : Int))))] := va_D_in hD0
  have hS : va_S (inW [(m0, .inr (1, [.int th, .ref t0, .ref k0, .ref p0, .int (iI ((w : Nat) : Int))])), (t0, .inl (cI, 24, .inl (fun j => iI ((tb a0 a1 j : Nat) : Int)))), (k0, .inl (cI, 12, .inl (fun j => iI ((K j : Nat) : Int)))), (p0, .inl (cI, 12, .inl (fun j => iI ((q j : Nat) : Int))))]) s.heap s.heap [] := va_S.rf
  have hl := lv_entry ([.ref m0, .int (iI ((sv : Nat) : Int)), .int (iI ((i : Nat) : Int))]) (n := 7) (Nat.le_of_ble_eq_true rfl)
  rw [lg_entry_eq]
  generalize (lg_sl ([.ref m0, .int (iI ((sv : Nat) : Int)), .int (iI ((i : Nat) : Int))]) ++ List.replicate (7 - (lg_sl ([.ref m0, .int (iI ((sv : Nat) : Int)), .int (iI ((i : Nat) : Int))])).length) Slot.unset).toArray = ls at hl ⊢
  have hl : lv_has ls 7 [(0, .ref m0), (1, .int (iI ((sv : Nat) : Int))), (2, .int (iI ((i : Nat) : Int)))] := hl
  refine lv_aload_n hx hb dX1_pairs_0 rfl (lv_at hl 0 rfl) ?_
  refine lv_iload_n hx hb dX1_pairs_1 rfl (lv_at hl 1 rfl) ?_
  refine ib_const hx hb dX1_pairs_2 ?_
  refine ib_si hx hb dX1_pairs_3 (by decide) ?_
  refine rd_call (va_runS (As := [.int (iI ((sv : Nat) : Int)), .int (iI 0), .int (iI 4095)]) (rest := [.ref m0]) ⟨hx, hb, hml, hown, hts⟩ (mX1_in l ((sv : Nat) : Int) 0 4095 ⟨by omega, by omega⟩ ⟨by omega, by omega⟩ ⟨by omega, by omega⟩) (va_cwS 3 hts gX1_pairs_X1_in rfl rfl rfl hdX1_in ⟨Nat.le_of_ble_eq_true rfl, Nat.le_of_ble_eq_true rfl⟩) tt_pre rfl rfl hl.1 rfl (lv_room (Nat.le_of_ble_eq_true rfl)) dX1_pairs_6 ⟨Nat.le_of_ble_eq_true rfl, Nat.le_of_ble_eq_true rfl⟩) ?_
  refine bb_eq (tgt := 26) hx hb dX1_pairs_9 (by decide) (fun c_9 => absurd c_9 (by omega)) (fun c_9 => ?_)
  refine lv_iload_n hx hb dX1_pairs_12 rfl (lv_at hl 2 rfl) ?_
  refine ib_const hx hb dX1_pairs_13 ?_
  refine ib_bi hx hb dX1_pairs_14 (by decide) ?_
  refine rd_call (va_runS (As := [.int (iI ((i : Nat) : Int)), .int (iI 1), .int (iI 6)]) (rest := [.ref m0]) ⟨hx, hb, hml, hown, hts⟩ (mX1_in l ((i : Nat) : Int) 1 6 ⟨by omega, by omega⟩ ⟨by omega, by omega⟩ ⟨by omega, by omega⟩) (va_cwS 3 hts gX1_pairs_X1_in rfl rfl rfl hdX1_in ⟨Nat.le_of_ble_eq_true rfl, Nat.le_of_ble_eq_true rfl⟩) tt_pre rfl rfl hl.1 rfl (lv_room (Nat.le_of_ble_eq_true rfl)) dX1_pairs_16 ⟨Nat.le_of_ble_eq_true rfl, Nat.le_of_ble_eq_true rfl⟩) ?_
  refine bb_eq (tgt := 26) hx hb dX1_pairs_19 (by decide) (fun c_19 => absurd c_19 (by omega)) (fun c_19 => ?_)
  refine ib_const hx hb dX1_pairs_22 ?_
  refine lv_goto (tgt := 27) hx hb dX1_pairs_23 (by decide) ?_
  refine wr_call (va_runV (As := [.int (iI 0)]) (rest := []) ⟨hx, hb, hml, hown, hts⟩ (mX1_goesWell l dC dI cI m0 t0 k0 p0 a0 a1 K q th w h0 h1 hw hq 0 ⟨by omega, by omega⟩) (cwV 1 hts gX1_pairs_X1_goesWell rfl rfl rfl hvX1_goesWell ⟨Nat.le_of_ble_eq_true rfl, Nat.le_of_ble_eq_true rfl⟩) (bD_pre (ci := 1) (q0 := 0) hK hP hD rfl rfl rfl) rfl rfl hl.1 rfl (lv_room (Nat.le_of_ble_eq_true rfl)) dX1_pairs_27 ⟨Nat.le_of_ble_eq_true rfl, Nat.le_of_ble_eq_true rfl⟩) hS (fun q9 h => inW_same (w := [(m0, .inr (1, [.int th, .ref t0, .ref k0, .ref p0, .int (iI ((w : Nat) : Int))])), (t0, .inl (cI, 24, .inl (fun j => iI ((tb a0 a1 j : Nat) : Int)))), (k0, .inl (cI, 12, .inl (fun j => iI ((K j : Nat) : Int)))), (p0, .inl (cI, 12, .inl (fun j => iI ((q j : Nat) : Int))))]) (w' := [(m0, .inr (1, [.int th, .ref t0, .ref k0, .ref p0, .int (iI ((w : Nat) : Int))])), (t0, .inl (cI, 24, .inl (fun j => iI ((tb a0 a1 j : Nat) : Int)))), (k0, .inl (cI, 12, .inl (fun j => iI ((K j : Nat) : Int)))), (p0, .inl (cI, 12, .inl (fun j => iI ((q j : Nat) : Int))))]) rfl h) (fun H locs hP hz hk hS => ?_)
  have hD : va_D (inW [(m0, .inr (1, [.int th, .ref t0, .ref k0, .ref p0, .int (iI ((w : Nat) : Int))])), (t0, .inl (cI, 24, .inl (fun j => iI ((tb a0 a1 j : Nat) : Int)))), (k0, .inl (cI, 12, .inl (fun j => iI ((K j : Nat) : Int)))), (p0, .inl (cI, 12, .inl (fun j => iI ((q j : Nat) : Int))))]) [(m0, .inr (1, [.int (iI 0), .ref t0, .ref k0, .ref p0, .int (iI ((w : Nat) : Int))])), (t0, .inl (cI, 24, .inl (fun j => iI ((tb a0 a1 j : Nat) : Int)))), (k0, .inl (cI, 12, .inl (fun j => iI ((K j : Nat) : Int)))), (p0, .inl (cI, 12, .inl (fun j => iI ((q j : Nat) : Int))))] := va_D_same (w := [(m0, .inr (1, [.int th, .ref t0, .ref k0, .ref p0, .int (iI ((w : Nat) : Int))])), (t0, .inl (cI, 24, .inl (fun j => iI ((tb a0 a1 j : Nat) : Int)))), (k0, .inl (cI, 12, .inl (fun j => iI ((K j : Nat) : Int)))), (p0, .inl (cI, 12, .inl (fun j => iI ((q j : Nat) : Int))))]) rfl hD
  refine st_i (y := iI 1) (congrArg iI (bI_t (by decide))) ?_
  refine ib_if_ne (tgt := 35) hx hb dX1_pairs_30 (by decide) ⟨by omega, by omega⟩ (fun c_30 => ?_) (fun c_30 => absurd c_30 (by decide))
  refine ib_const hx hb dX1_pairs_35 ?_
  refine lv_istore_n (lv' := [(3, .int (iI 0)), (0, .ref m0), (1, .int (iI ((sv : Nat) : Int))), (2, .int (iI ((i : Nat) : Int)))]) hx hb dX1_pairs_36 rfl hl (by decide) rfl (fun ls hl => ?_)
  refine ib_const hx hb dX1_pairs_37 ?_
  refine lv_istore (lv' := [(4, .int (iI 0)), (3, .int (iI 0)), (0, .ref m0), (1, .int (iI ((sv : Nat) : Int))), (2, .int (iI ((i : Nat) : Int)))]) hx hb dX1_pairs_38 hl (by decide) rfl (fun ls hl => ?_)
  have lp_40_1 : ∀ (j n : Nat), n + j = 12 → ∀ ls : Array Slot, lv_has ls 7 [(0, .ref m0), (1, .int (iI ((sv : Nat) : Int))), (2, .int (iI ((i : Nat) : Int))), (3, .int (iI ((prO sv i n : Nat) : Int))), (4, .int (iI ((n : Nat) : Int)))] → W P0 l e (headSpec wsX1_pairs { frames := 1, cells := 0, slots := 0, locals := 22 }).room s m ([.ref m0, .int (iI ((sv : Nat) : Int)), .int (iI ((i : Nat) : Int))] : List Value).toArray below meth c H locs 0 0 (MQ below (wrQ (dC, dI) (inW [(m0, .inr (1, [.int th, .ref t0, .ref k0, .ref p0, .int (iI ((w : Nat) : Int))])), (t0, .inl (cI, 24, .inl (fun j => iI ((tb a0 a1 j : Nat) : Int)))), (k0, .inl (cI, 12, .inl (fun j => iI ((K j : Nat) : Int)))), (p0, .inl (cI, 12, .inl (fun j => iI ((q j : Nat) : Int))))]) [(m0, .inr (1, [.int (iI 0), .ref t0, .ref k0, .ref p0, .int (iI ((w : Nat) : Int))])), (t0, .inl (cI, 24, .inl (fun j => iI ((tb a0 a1 j : Nat) : Int)))), (k0, .inl (cI, 12, .inl (fun j => iI ((K j : Nat) : Int)))), (p0, .inl (cI, 12, .inl (fun j => iI ((q j : Nat) : Int))))] (some (.int (iI ((prO sv i 12 : Nat) : Int))))) ([.ref m0, .int (iI ((sv : Nat) : Int)), .int (iI ((i : Nat) : Int))] : List Value).toArray s 0 0 (inW [(m0, .inr (1, [.int th, .ref t0, .ref k0, .ref p0, .int (iI ((w : Nat) : Int))])), (t0, .inl (cI, 24, .inl (fun j => iI ((tb a0 a1 j : Nat) : Int)))), (k0, .inl (cI, 12, .inl (fun j => iI ((K j : Nat) : Int)))), (p0, .inl (cI, 12, .inl (fun j => iI ((q j : Nat) : Int))))])) (F0 m 40 ls []) := by
    intro j
    induction j with
    | zero =>
      intro n hn_40  ls hl
      have hpo := prO_lt sv i n (by omega)
      refine lv_iload hx hb dX1_pairs_40 (lv_at hl 4 rfl) ?_
      refine ib_bi hx hb dX1_pairs_42 (by decide) ?_
      refine ib_icmp_ge (tgt := 120) hx hb dX1_pairs_44 (by decide) ⟨by omega, by omega⟩ ⟨by omega, by omega⟩ (fun c_44 => ?_) (fun c_44 => absurd c_44 (by omega))
      refine lv_iload_n hx hb dX1_pairs_120 rfl (lv_at hl 3 rfl) ?_
      refine st_i (y := iI ((prO sv i 12 : Nat) : Int)) (congrArg (fun z : Nat => iI ((z : Nat) : Int)) (show prO sv i n = prO sv i 12 by rw [show n = 12 by omega])) ?_
      exact W.iret hx hb hr (fun t ht _ => ⟨rfl, by rw [ht]; exact hP, hS.F ht⟩) hS.2.2 dX1_pairs_121
    | succ j ih_40_1 =>
      intro n hn_40  ls hl
      have hpo := prO_lt sv i n (by omega)
      refine lv_iload hx hb dX1_pairs_40 (lv_at hl 4 rfl) ?_
      refine ib_bi hx hb dX1_pairs_42 (by decide) ?_
      refine ib_icmp_ge (tgt := 120) hx hb dX1_pairs_44 (by decide) ⟨by omega, by omega⟩ ⟨by omega, by omega⟩ (fun c_44 => absurd c_44 (by omega)) (fun c_44 => ?_)
      refine ib_const hx hb dX1_pairs_47 ?_
      refine lv_istore (lv' := [(5, .int (iI 0)), (0, .ref m0), (1, .int (iI ((sv : Nat) : Int))), (2, .int (iI ((i : Nat) : Int))), (3, .int (iI ((prO sv i n : Nat) : Int))), (4, .int (iI ((n : Nat) : Int)))]) hx hb dX1_pairs_48 hl (by decide) rfl (fun ls hl => ?_)
      have lp_50_2 : ∀ (j o : Nat), o + j = n → ∀ ls : Array Slot, lv_has ls 7 [(0, .ref m0), (1, .int (iI ((sv : Nat) : Int))), (2, .int (iI ((i : Nat) : Int))), (3, .int (iI ((prI sv i n (prO sv i n) o : Nat) : Int))), (4, .int (iI ((n : Nat) : Int))), (5, .int (iI ((o : Nat) : Int)))] → W P0 l e (headSpec wsX1_pairs { frames := 1, cells := 0, slots := 0, locals := 22 }).room s m ([.ref m0, .int (iI ((sv : Nat) : Int)), .int (iI ((i : Nat) : Int))] : List Value).toArray below meth c H locs 0 0 (MQ below (wrQ (dC, dI) (inW [(m0, .inr (1, [.int th, .ref t0, .ref k0, .ref p0, .int (iI ((w : Nat) : Int))])), (t0, .inl (cI, 24, .inl (fun j => iI ((tb a0 a1 j : Nat) : Int)))), (k0, .inl (cI, 12, .inl (fun j => iI ((K j : Nat) : Int)))), (p0, .inl (cI, 12, .inl (fun j => iI ((q j : Nat) : Int))))]) [(m0, .inr (1, [.int (iI 0), .ref t0, .ref k0, .ref p0, .int (iI ((w : Nat) : Int))])), (t0, .inl (cI, 24, .inl (fun j => iI ((tb a0 a1 j : Nat) : Int)))), (k0, .inl (cI, 12, .inl (fun j => iI ((K j : Nat) : Int)))), (p0, .inl (cI, 12, .inl (fun j => iI ((q j : Nat) : Int))))] (some (.int (iI ((prO sv i 12 : Nat) : Int))))) ([.ref m0, .int (iI ((sv : Nat) : Int)), .int (iI ((i : Nat) : Int))] : List Value).toArray s 0 0 (inW [(m0, .inr (1, [.int th, .ref t0, .ref k0, .ref p0, .int (iI ((w : Nat) : Int))])), (t0, .inl (cI, 24, .inl (fun j => iI ((tb a0 a1 j : Nat) : Int)))), (k0, .inl (cI, 12, .inl (fun j => iI ((K j : Nat) : Int)))), (p0, .inl (cI, 12, .inl (fun j => iI ((q j : Nat) : Int))))])) (F0 m 50 ls []) := by
        intro j
        induction j with
        | zero =>
          intro o hn_50  ls hl
          have hpi := prI_le sv i n (prO sv i n) o
          have han := Nat.and_le_right (n := sv / 2 ^ n &&& sv / 2 ^ o) (m := 1)
          refine lv_iload hx hb dX1_pairs_50 (lv_at hl 5 rfl) ?_
          refine lv_iload hx hb dX1_pairs_52 (lv_at hl 4 rfl) ?_
          refine ib_icmp_ge (tgt := 114) hx hb dX1_pairs_54 (by decide) ⟨by omega, by omega⟩ ⟨by omega, by omega⟩ (fun c_54 => ?_) (fun c_54 => absurd c_54 (by omega))
          refine lv_iinc (v := iI ((n + 1 : Nat) : Int)) (lv' := [(4, .int (iI ((n + 1 : Nat) : Int))), (0, .ref m0), (1, .int (iI ((sv : Nat) : Int))), (2, .int (iI ((i : Nat) : Int))), (3, .int (iI ((prI sv i n (prO sv i n) o : Nat) : Int))), (5, .int (iI ((o : Nat) : Int)))]) hx hb dX1_pairs_114 hl (k := 4) rfl (iI_inc (by omega)) (by decide) rfl (fun ls hl => ?_)
          refine lv_goto (tgt := 40) hx hb dX1_pairs_117 (by decide) ?_
          have hl : lv_has ls 7 [(4, .int (iI ((n + 1 : Nat) : Int))), (0, .ref m0), (1, .int (iI ((sv : Nat) : Int))), (2, .int (iI ((i : Nat) : Int))), (3, .int (iI ((prO sv i (n + 1) : Nat) : Int))), (5, .int (iI ((o : Nat) : Int)))] := by
            have e9 : iI ((prI sv i n (prO sv i n) o : Nat) : Int) = iI ((prO sv i (n + 1) : Nat) : Int) := congrArg (fun z : Nat => iI ((z : Nat) : Int)) (show prI sv i n (prO sv i n) o = prI sv i n (prO sv i n) n by rw [show o = n by omega])
            rw [← e9]; exact hl
          exact ih_40_1 (n + 1) (by omega)  _ (lv_sub hl [1, 2, 3, 4, 0] rfl)
        | succ j ih_50_2 =>
          intro o hn_50  ls hl
          have hpi := prI_le sv i n (prO sv i n) o
          have han := Nat.and_le_right (n := sv / 2 ^ n &&& sv / 2 ^ o) (m := 1)
          refine lv_iload hx hb dX1_pairs_50 (lv_at hl 5 rfl) ?_
          refine lv_iload hx hb dX1_pairs_52 (lv_at hl 4 rfl) ?_
          refine ib_icmp_ge (tgt := 114) hx hb dX1_pairs_54 (by decide) ⟨by omega, by omega⟩ ⟨by omega, by omega⟩ (fun c_54 => absurd c_54 (by omega)) (fun c_54 => ?_)
          refine lv_iload hx hb dX1_pairs_57 (lv_at hl 4 rfl) ?_
          refine lv_iload hx hb dX1_pairs_59 (lv_at hl 5 rfl) ?_
          refine ib_sub (z := ((n : Nat) : Int) - ((o : Nat) : Int)) hx hb dX1_pairs_61 (by omega) ?_
          refine lv_iload_n hx hb dX1_pairs_62 rfl (lv_at hl 2 rfl) ?_
          refine ib_icmp_eq (tgt := 78) hx hb dX1_pairs_63 (by decide) ⟨by omega, by omega⟩ ⟨by omega, by omega⟩ (fun c_63 => ?_) (fun c_63 => ?_)
          · skip
            refine ib_const hx hb dX1_pairs_78 ?_
            refine lv_goto (tgt := 83) hx hb dX1_pairs_79 (by decide) ?_
            refine lv_istore (lv' := [(6, .int (iI 1)), (0, .ref m0), (1, .int (iI ((sv : Nat) : Int))), (2, .int (iI ((i : Nat) : Int))), (3, .int (iI ((prI sv i n (prO sv i n) o : Nat) : Int))), (4, .int (iI ((n : Nat) : Int))), (5, .int (iI ((o : Nat) : Int)))]) hx hb dX1_pairs_83 hl (by decide) rfl (fun ls hl => ?_)
            refine lv_iload_n hx hb dX1_pairs_85 rfl (lv_at hl 4 rfl) ?_
            refine lv_iload hx hb dX1_pairs_86 (lv_at hl 0 rfl) ?_
            refine ib_if_eq (tgt := 105) hx hb dX1_pairs_88 (by decide) ⟨by omega, by omega⟩ (fun c_88 => absurd c_88 (by decide)) (fun c_88 => ?_)
            refine lv_iload_n hx hb dX1_pairs_91 rfl (lv_at hl 2 rfl) ?_
            refine lv_iload hx hb dX1_pairs_92 (lv_at hl 5 rfl) ?_
            refine lv_ishr hx hb dX1_pairs_94 ?_
            refine st_i (y := iI ((sv / 2 ^ n : Nat) : Int)) (ir_shr (by omega) (by omega)) ?_
            refine lv_iload_n hx hb dX1_pairs_95 rfl (lv_at hl 2 rfl) ?_
            refine lv_iload hx hb dX1_pairs_96 (lv_at hl 6 rfl) ?_
            refine lv_ishr hx hb dX1_pairs_98 ?_
            refine st_i (y := iI ((sv / 2 ^ o : Nat) : Int)) (ir_shr (by omega) (by omega)) ?_
            refine lv_iand hx hb dX1_pairs_99 ?_
            refine st_i (y := iI ((sv / 2 ^ n &&& sv / 2 ^ o : Nat) : Int)) (ir_and _ _) ?_
            refine ib_const hx hb dX1_pairs_100 ?_
            refine lv_iand hx hb dX1_pairs_101 ?_
            refine st_i (y := iI ((sv / 2 ^ n &&& sv / 2 ^ o &&& 1 : Nat) : Int)) (ir_and _ 1) ?_
            refine lv_goto (tgt := 106) hx hb dX1_pairs_102 (by decide) ?_
            refine ib_add (z := (((prI sv i n (prO sv i n) o) + (sv / 2 ^ n &&& sv / 2 ^ o &&& 1) : Nat) : Int)) hx hb dX1_pairs_106 (by omega) ?_
            refine lv_istore_n (lv' := [(3, .int (iI (((prI sv i n (prO sv i n) o) + (sv / 2 ^ n &&& sv / 2 ^ o &&& 1) : Nat) : Int))), (6, .int (iI 1)), (0, .ref m0), (1, .int (iI ((sv : Nat) : Int))), (2, .int (iI ((i : Nat) : Int))), (4, .int (iI ((n : Nat) : Int))), (5, .int (iI ((o : Nat) : Int)))]) hx hb dX1_pairs_107 rfl hl (by decide) rfl (fun ls hl => ?_)
            refine lv_iinc (v := iI ((o + 1 : Nat) : Int)) (lv' := [(5, .int (iI ((o + 1 : Nat) : Int))), (3, .int (iI (((prI sv i n (prO sv i n) o) + (sv / 2 ^ n &&& sv / 2 ^ o &&& 1) : Nat) : Int))), (6, .int (iI 1)), (0, .ref m0), (1, .int (iI ((sv : Nat) : Int))), (2, .int (iI ((i : Nat) : Int))), (4, .int (iI ((n : Nat) : Int)))]) hx hb dX1_pairs_108 hl (k := 6) rfl (iI_inc (by omega)) (by decide) rfl (fun ls hl => ?_)
            refine lv_goto (tgt := 50) hx hb dX1_pairs_111 (by decide) ?_
            have hl : lv_has ls 7 [(5, .int (iI ((o + 1 : Nat) : Int))), (3, .int (iI ((prI sv i n (prO sv i n) (o + 1) : Nat) : Int))), (6, .int (iI 1)), (0, .ref m0), (1, .int (iI ((sv : Nat) : Int))), (2, .int (iI ((i : Nat) : Int))), (4, .int (iI ((n : Nat) : Int)))] := by
              have e9 : iI (((prI sv i n (prO sv i n) o) + (sv / 2 ^ n &&& sv / 2 ^ o &&& 1) : Nat) : Int) = iI ((prI sv i n (prO sv i n) (o + 1) : Nat) : Int) := congrArg (fun z : Nat => iI ((z : Nat) : Int)) (if_pos (by omega)).symm
              rw [← e9]; exact hl
            exact ih_50_2 (o + 1) (by omega)  _ (lv_sub hl [3, 4, 5, 1, 6, 0] rfl)
          · skip
            refine lv_iload hx hb dX1_pairs_66 (lv_at hl 4 rfl) ?_
            refine lv_iload hx hb dX1_pairs_68 (lv_at hl 5 rfl) ?_
            refine ib_sub (z := ((n : Nat) : Int) - ((o : Nat) : Int)) hx hb dX1_pairs_70 (by omega) ?_
            refine ib_bi hx hb dX1_pairs_71 (by decide) ?_
            refine lv_iload_n hx hb dX1_pairs_73 rfl (lv_at hl 2 rfl) ?_
            refine ib_sub (z := 12 - ((i : Nat) : Int)) hx hb dX1_pairs_74 (by omega) ?_
            refine ib_icmp_ne (tgt := 82) hx hb dX1_pairs_75 (by decide) ⟨by omega, by omega⟩ ⟨by omega, by omega⟩ (fun c_75 => ?_) (fun c_75 => ?_)
            · skip
              refine ib_const hx hb dX1_pairs_82 ?_
              refine lv_istore (lv' := [(6, .int (iI 0)), (0, .ref m0), (1, .int (iI ((sv : Nat) : Int))), (2, .int (iI ((i : Nat) : Int))), (3, .int (iI ((prI sv i n (prO sv i n) o : Nat) : Int))), (4, .int (iI ((n : Nat) : Int))), (5, .int (iI ((o : Nat) : Int)))]) hx hb dX1_pairs_83 hl (by decide) rfl (fun ls hl => ?_)
              refine lv_iload_n hx hb dX1_pairs_85 rfl (lv_at hl 4 rfl) ?_
              refine lv_iload hx hb dX1_pairs_86 (lv_at hl 0 rfl) ?_
              refine ib_if_eq (tgt := 105) hx hb dX1_pairs_88 (by decide) ⟨by omega, by omega⟩ (fun c_88 => ?_) (fun c_88 => absurd c_88 (by decide))
              refine ib_const hx hb dX1_pairs_105 ?_
              refine ib_add (z := (((prI sv i n (prO sv i n) o) + 0 : Nat) : Int)) hx hb dX1_pairs_106 (by omega) ?_
              refine lv_istore_n (lv' := [(3, .int (iI (((prI sv i n (prO sv i n) o) + 0 : Nat) : Int))), (6, .int (iI 0)), (0, .ref m0), (1, .int (iI ((sv : Nat) : Int))), (2, .int (iI ((i : Nat) : Int))), (4, .int (iI ((n : Nat) : Int))), (5, .int (iI ((o : Nat) : Int)))]) hx hb dX1_pairs_107 rfl hl (by decide) rfl (fun ls hl => ?_)
              refine lv_iinc (v := iI ((o + 1 : Nat) : Int)) (lv' := [(5, .int (iI ((o + 1 : Nat) : Int))), (3, .int (iI (((prI sv i n (prO sv i n) o) + 0 : Nat) : Int))), (6, .int (iI 0)), (0, .ref m0), (1, .int (iI ((sv : Nat) : Int))), (2, .int (iI ((i : Nat) : Int))), (4, .int (iI ((n : Nat) : Int)))]) hx hb dX1_pairs_108 hl (k := 6) rfl (iI_inc (by omega)) (by decide) rfl (fun ls hl => ?_)
              refine lv_goto (tgt := 50) hx hb dX1_pairs_111 (by decide) ?_
              have hl : lv_has ls 7 [(5, .int (iI ((o + 1 : Nat) : Int))), (3, .int (iI ((prI sv i n (prO sv i n) (o + 1) : Nat) : Int))), (6, .int (iI 0)), (0, .ref m0), (1, .int (iI ((sv : Nat) : Int))), (2, .int (iI ((i : Nat) : Int))), (4, .int (iI ((n : Nat) : Int)))] := by
                have e9 : iI (((prI sv i n (prO sv i n) o) + 0 : Nat) : Int) = iI ((prI sv i n (prO sv i n) (o + 1) : Nat) : Int) := congrArg (fun z : Nat => iI ((z : Nat) : Int)) (if_neg (by omega)).symm
                rw [← e9]; exact hl
              exact ih_50_2 (o + 1) (by omega)  _ (lv_sub hl [3, 4, 5, 1, 6, 0] rfl)
            · skip
              refine ib_const hx hb dX1_pairs_78 ?_
              refine lv_goto (tgt := 83) hx hb dX1_pairs_79 (by decide) ?_
              refine lv_istore (lv' := [(6, .int (iI 1)), (0, .ref m0), (1, .int (iI ((sv : Nat) : Int))), (2, .int (iI ((i : Nat) : Int))), (3, .int (iI ((prI sv i n (prO sv i n) o : Nat) : Int))), (4, .int (iI ((n : Nat) : Int))), (5, .int (iI ((o : Nat) : Int)))]) hx hb dX1_pairs_83 hl (by decide) rfl (fun ls hl => ?_)
              refine lv_iload_n hx hb dX1_pairs_85 rfl (lv_at hl 4 rfl) ?_
              refine lv_iload hx hb dX1_pairs_86 (lv_at hl 0 rfl) ?_
              refine ib_if_eq (tgt := 105) hx hb dX1_pairs_88 (by decide) ⟨by omega, by omega⟩ (fun c_88 => absurd c_88 (by decide)) (fun c_88 => ?_)
              refine lv_iload_n hx hb dX1_pairs_91 rfl (lv_at hl 2 rfl) ?_
              refine lv_iload hx hb dX1_pairs_92 (lv_at hl 5 rfl) ?_
              refine lv_ishr hx hb dX1_pairs_94 ?_
              refine st_i (y := iI ((sv / 2 ^ n : Nat) : Int)) (ir_shr (by omega) (by omega)) ?_
              refine lv_iload_n hx hb dX1_pairs_95 rfl (lv_at hl 2 rfl) ?_
              refine lv_iload hx hb dX1_pairs_96 (lv_at hl 6 rfl) ?_
              refine lv_ishr hx hb dX1_pairs_98 ?_
              refine st_i (y := iI ((sv / 2 ^ o : Nat) : Int)) (ir_shr (by omega) (by omega)) ?_
              refine lv_iand hx hb dX1_pairs_99 ?_
              refine st_i (y := iI ((sv / 2 ^ n &&& sv / 2 ^ o : Nat) : Int)) (ir_and _ _) ?_
              refine ib_const hx hb dX1_pairs_100 ?_
              refine lv_iand hx hb dX1_pairs_101 ?_
              refine st_i (y := iI ((sv / 2 ^ n &&& sv / 2 ^ o &&& 1 : Nat) : Int)) (ir_and _ 1) ?_
              refine lv_goto (tgt := 106) hx hb dX1_pairs_102 (by decide) ?_
              refine ib_add (z := (((prI sv i n (prO sv i n) o) + (sv / 2 ^ n &&& sv / 2 ^ o &&& 1) : Nat) : Int)) hx hb dX1_pairs_106 (by omega) ?_
              refine lv_istore_n (lv' := [(3, .int (iI (((prI sv i n (prO sv i n) o) + (sv / 2 ^ n &&& sv / 2 ^ o &&& 1) : Nat) : Int))), (6, .int (iI 1)), (0, .ref m0), (1, .int (iI ((sv : Nat) : Int))), (2, .int (iI ((i : Nat) : Int))), (4, .int (iI ((n : Nat) : Int))), (5, .int (iI ((o : Nat) : Int)))]) hx hb dX1_pairs_107 rfl hl (by decide) rfl (fun ls hl => ?_)
              refine lv_iinc (v := iI ((o + 1 : Nat) : Int)) (lv' := [(5, .int (iI ((o + 1 : Nat) : Int))), (3, .int (iI (((prI sv i n (prO sv i n) o) + (sv / 2 ^ n &&& sv / 2 ^ o &&& 1) : Nat) : Int))), (6, .int (iI 1)), (0, .ref m0), (1, .int (iI ((sv : Nat) : Int))), (2, .int (iI ((i : Nat) : Int))), (4, .int (iI ((n : Nat) : Int)))]) hx hb dX1_pairs_108 hl (k := 6) rfl (iI_inc (by omega)) (by decide) rfl (fun ls hl => ?_)
              refine lv_goto (tgt := 50) hx hb dX1_pairs_111 (by decide) ?_
              have hl : lv_has ls 7 [(5, .int (iI ((o + 1 : Nat) : Int))), (3, .int (iI ((prI sv i n (prO sv i n) (o + 1) : Nat) : Int))), (6, .int (iI 1)), (0, .ref m0), (1, .int (iI ((sv : Nat) : Int))), (2, .int (iI ((i : Nat) : Int))), (4, .int (iI ((n : Nat) : Int)))] := by
                have e9 : iI (((prI sv i n (prO sv i n) o) + (sv / 2 ^ n &&& sv / 2 ^ o &&& 1) : Nat) : Int) = iI ((prI sv i n (prO sv i n) (o + 1) : Nat) : Int) := congrArg (fun z : Nat => iI ((z : Nat) : Int)) (if_pos (by omega)).symm
                rw [← e9]; exact hl
              exact ih_50_2 (o + 1) (by omega)  _ (lv_sub hl [3, 4, 5, 1, 6, 0] rfl)
      exact lp_50_2 n 0 (by omega)  _ (lv_sub hl [1, 2, 3, 4, 5, 0] rfl)
  exact lp_40_1 12 0 (by omega)  _ (lv_sub hl [2, 3, 4, 1, 0] rfl)

set_option maxHeartbeats 4000000 in
set_option maxRecDepth 100000 in
theorem mX1_pairs_x1 (l : Launch) (dC : Nat → ClassId) (dI : Nat → Nat → Nat) (cI : ClassId) (m0 t0 k0 p0 : Nat) (a0 a1 K q : Nat → Nat) (th : Int32) (w : Nat) (h0 : lt12 a0) (h1 : lt12 a1) (hw : w ≤ 12) (hq : ∀ i, i < w → q i < 12) (z0 z1 : Int) (hz0 : inI z0) (hz1 : inI z1) (hbad : ¬ ((0 ≤ z0 ∧ z0 ≤ 4095) ∧ (1 ≤ z1 ∧ z1 ≤ 6))) : wr l yX1_pairs wsX1_pairs { frames := 1, cells := 0, slots := 0, locals := 22 } [.ref m0, .int (iI z0), .int (iI z1)] (dC, dI) [(m0, .inr (1, [.int th, .ref t0, .ref k0, .ref p0, .int (iI ((w : Nat) : Int))])), (t0, .inl (cI, 24, .inl (fun j => iI ((tb a0 a1 j : Nat) : Int)))), (k0, .inl (cI, 12, .inl (fun j => iI ((K j : Nat) : Int)))), (p0, .inl (cI, 12, .inl (fun j => iI ((q j : Nat) : Int))))] [(cI, .int)] [(m0, .inr (1, [.int (iI 1), .ref t0, .ref k0, .ref p0, .int (iI ((w : Nat) : Int))])), (t0, .inl (cI, 24, .inl (fun j => iI ((tb a0 a1 j : Nat) : Int)))), (k0, .inl (cI, 12, .inl (fun j => iI ((K j : Nat) : Int)))), (p0, .inl (cI, 12, .inl (fun j => iI ((q j : Nat) : Int))))] (some (.int (iI 0))) := by
  refine Met.ofW (cc := cX1_pairs) (maxL := 7) (ret := (some .int)) (by decide) rfl ?_
  intro P0 e s m args below meth c s₁ B hml hv
  obtain ⟨rfl, hP, hK, hD0⟩ := hv
  have hx := B.exec
  have hb := B.bytes
  have hr := B.returns
  have hts := atoms_spec (ws := wsX1_pairs) B.pre
  have hown : s.vm.findClass RX1 = some m.cls := findClass_of_methodNamed B.named
  have hlocks := B.notSynchronized
  have hinX : ∀ w ∈ u_ws RX1 TX1 5, w ∈ wsX1_pairs := by decide +kernel
  have hD : va_D (inW [(m0, .inr (1, [.int th, .ref t0, .ref k0, .ref p0, .int (iI ((w : Nat) : Int))])), (t0, .inl (cI, 24, .inl (fun j => iI ((tb a0 a1 j : Nat) : Int)))), (k0, .inl (cI, 12, .inl (fun j => iI ((K j : Nat) : Int)))), (p0, .inl (cI, 12, .inl (fun j => iI ((q j : Nat) : Int))))]) [(m0, .inr (1, [.int th, .ref t0, .ref k0, .ref p0, .int (iI ((w : Nat) : Int))])), (t0, .inl (cI, 24, .inl (fun j => iI ((tb a0 a1 j : Nat) : Int)))), (k0, .inl (cI, 12, .inl (fun j => iI ((K j : Nat) : Int)))), (p0, .inl (cI, 12, .inl (fun j => iI ((q j : Nat) : Int))))] := va_D_in hD0
  have hS : va_S (inW [(m0, .inr (1, [.int th, .ref t0, .ref k0, .ref p0, .int (iI ((w : Nat) : Int))])), (t0, .inl (cI, 24, .inl (fun j => iI ((tb a0 a1 j : Nat) : Int)))), (k0, .inl (cI, 12, .inl (fun j => iI ((K j : Nat) : Int)))), (p0, .inl (cI, 12, .inl (fun j => iI ((q j : Nat) : Int))))]) s.heap s.heap [] := va_S.rf
  have hl := lv_entry ([.ref m0, .int (iI z0), .int (iI z1)]) (n := 7) (Nat.le_of_ble_eq_true rfl)
  rw [lg_entry_eq]
  generalize (lg_sl ([.ref m0, .int (iI z0), .int (iI z1)]) ++ List.replicate (7 - (lg_sl ([.ref m0, .int (iI z0), .int (iI z1)])).length) Slot.unset).toArray = ls at hl ⊢
  have hl : lv_has ls 7 [(0, .ref m0), (1, .int (iI z0)), (2, .int (iI z1))] := hl
  have hza0 := hz0.1
  have hza1 := hz1.1
  have hzb0 := hz0.2
  have hzb1 := hz1.2
  refine lv_aload_n hx hb dX1_pairs_0 rfl (lv_at hl 0 rfl) ?_
  refine lv_iload_n hx hb dX1_pairs_1 rfl (lv_at hl 1 rfl) ?_
  refine ib_const hx hb dX1_pairs_2 ?_
  refine ib_si hx hb dX1_pairs_3 (by decide) ?_
  refine rd_call (va_runS (As := [.int (iI z0), .int (iI 0), .int (iI 4095)]) (rest := [.ref m0]) ⟨hx, hb, hml, hown, hts⟩ (mX1_in l z0 0 4095 ⟨by omega, by omega⟩ ⟨by omega, by omega⟩ ⟨by omega, by omega⟩) (va_cwS 3 hts gX1_pairs_X1_in rfl rfl rfl hdX1_in ⟨Nat.le_of_ble_eq_true rfl, Nat.le_of_ble_eq_true rfl⟩) tt_pre rfl rfl hl.1 rfl (lv_room (Nat.le_of_ble_eq_true rfl)) dX1_pairs_6 ⟨Nat.le_of_ble_eq_true rfl, Nat.le_of_ble_eq_true rfl⟩) ?_
  refine bb_eq (tgt := 26) hx hb dX1_pairs_9 (by decide) (fun c_9 => ?_) (fun c_9 => ?_)
  · skip
    refine ib_const hx hb dX1_pairs_26 ?_
    refine wr_call (va_runV (As := [.int (iI 1)]) (rest := []) ⟨hx, hb, hml, hown, hts⟩ (mX1_goesWell l dC dI cI m0 t0 k0 p0 a0 a1 K q th w h0 h1 hw hq 1 ⟨by omega, by omega⟩) (cwV 1 hts gX1_pairs_X1_goesWell rfl rfl rfl hvX1_goesWell ⟨Nat.le_of_ble_eq_true rfl, Nat.le_of_ble_eq_true rfl⟩) (bD_pre (ci := 1) (q0 := 0) hK hP hD rfl rfl rfl) rfl rfl hl.1 rfl (lv_room (Nat.le_of_ble_eq_true rfl)) dX1_pairs_27 ⟨Nat.le_of_ble_eq_true rfl, Nat.le_of_ble_eq_true rfl⟩) hS (fun q9 h => inW_same (w := [(m0, .inr (1, [.int th, .ref t0, .ref k0, .ref p0, .int (iI ((w : Nat) : Int))])), (t0, .inl (cI, 24, .inl (fun j => iI ((tb a0 a1 j : Nat) : Int)))), (k0, .inl (cI, 12, .inl (fun j => iI ((K j : Nat) : Int)))), (p0, .inl (cI, 12, .inl (fun j => iI ((q j : Nat) : Int))))]) (w' := [(m0, .inr (1, [.int th, .ref t0, .ref k0, .ref p0, .int (iI ((w : Nat) : Int))])), (t0, .inl (cI, 24, .inl (fun j => iI ((tb a0 a1 j : Nat) : Int)))), (k0, .inl (cI, 12, .inl (fun j => iI ((K j : Nat) : Int)))), (p0, .inl (cI, 12, .inl (fun j => iI ((q j : Nat) : Int))))]) rfl h) (fun H locs hP hz hk hS => ?_)
    have hD : va_D (inW [(m0, .inr (1, [.int th, .ref t0, .ref k0, .ref p0, .int (iI ((w : Nat) : Int))])), (t0, .inl (cI, 24, .inl (fun j => iI ((tb a0 a1 j : Nat) : Int)))), (k0, .inl (cI, 12, .inl (fun j => iI ((K j : Nat) : Int)))), (p0, .inl (cI, 12, .inl (fun j => iI ((q j : Nat) : Int))))]) [(m0, .inr (1, [.int (iI 1), .ref t0, .ref k0, .ref p0, .int (iI ((w : Nat) : Int))])), (t0, .inl (cI, 24, .inl (fun j => iI ((tb a0 a1 j : Nat) : Int)))), (k0, .inl (cI, 12, .inl (fun j => iI ((K j : Nat) : Int)))), (p0, .inl (cI, 12, .inl (fun j => iI ((q j : Nat) : Int))))] := va_D_same (w := [(m0, .inr (1, [.int th, .ref t0, .ref k0, .ref p0, .int (iI ((w : Nat) : Int))])), (t0, .inl (cI, 24, .inl (fun j => iI ((tb a0 a1 j : Nat) : Int)))), (k0, .inl (cI, 12, .inl (fun j => iI ((K j : Nat) : Int)))), (p0, .inl (cI, 12, .inl (fun j => iI ((q j : Nat) : Int))))]) rfl hD
    refine st_i (y := iI 0) (congrArg iI (bI_f (by decide))) ?_
    refine ib_if_ne (tgt := 35) hx hb dX1_pairs_30 (by decide) ⟨by omega, by omega⟩ (fun c_30 => absurd c_30 (by decide)) (fun c_30 => ?_)
    refine ib_const hx hb dX1_pairs_33 ?_
    exact W.iret hx hb hr (fun t ht _ => ⟨rfl, by rw [ht]; exact hP, hS.F ht⟩) hS.2.2 dX1_pairs_34
  · skip
    refine lv_iload_n hx hb dX1_pairs_12 rfl (lv_at hl 2 rfl) ?_
    refine ib_const hx hb dX1_pairs_13 ?_
    refine ib_bi hx hb dX1_pairs_14 (by decide) ?_
    refine rd_call (va_runS (As := [.int (iI z1), .int (iI 1), .int (iI 6)]) (rest := [.ref m0]) ⟨hx, hb, hml, hown, hts⟩ (mX1_in l z1 1 6 ⟨by omega, by omega⟩ ⟨by omega, by omega⟩ ⟨by omega, by omega⟩) (va_cwS 3 hts gX1_pairs_X1_in rfl rfl rfl hdX1_in ⟨Nat.le_of_ble_eq_true rfl, Nat.le_of_ble_eq_true rfl⟩) tt_pre rfl rfl hl.1 rfl (lv_room (Nat.le_of_ble_eq_true rfl)) dX1_pairs_16 ⟨Nat.le_of_ble_eq_true rfl, Nat.le_of_ble_eq_true rfl⟩) ?_
    refine bb_eq (tgt := 26) hx hb dX1_pairs_19 (by decide) (fun c_19 => ?_) (fun c_19 => ?_)
    · skip
      refine ib_const hx hb dX1_pairs_26 ?_
      refine wr_call (va_runV (As := [.int (iI 1)]) (rest := []) ⟨hx, hb, hml, hown, hts⟩ (mX1_goesWell l dC dI cI m0 t0 k0 p0 a0 a1 K q th w h0 h1 hw hq 1 ⟨by omega, by omega⟩) (cwV 1 hts gX1_pairs_X1_goesWell rfl rfl rfl hvX1_goesWell ⟨Nat.le_of_ble_eq_true rfl, Nat.le_of_ble_eq_true rfl⟩) (bD_pre (ci := 1) (q0 := 0) hK hP hD rfl rfl rfl) rfl rfl hl.1 rfl (lv_room (Nat.le_of_ble_eq_true rfl)) dX1_pairs_27 ⟨Nat.le_of_ble_eq_true rfl, Nat.le_of_ble_eq_true rfl⟩) hS (fun q9 h => inW_same (w := [(m0, .inr (1, [.int th, .ref t0, .ref k0, .ref p0, .int (iI ((w : Nat) : Int))])), (t0, .inl (cI, 24, .inl (fun j => iI ((tb a0 a1 j : Nat) : Int)))), (k0, .inl (cI, 12, .inl (fun j => iI ((K j : Nat) : Int)))), (p0, .inl (cI, 12, .inl (fun j => iI ((q j : Nat) : Int))))]) (w' := [(m0, .inr (1, [.int th, .ref t0, .ref k0, .ref p0, .int (iI ((w : Nat) : Int))])), (t0, .inl (cI, 24, .inl (fun j => iI ((tb a0 a1 j : Nat) : Int)))), (k0, .inl (cI, 12, .inl (fun j => iI ((K j : Nat) : Int)))), (p0, .inl (cI, 12, .inl (fun j => iI ((q j : Nat) : Int))))]) rfl h) (fun H locs hP hz hk hS => ?_)
      have hD : va_D (inW [(m0, .inr (1, [.int th, .ref t0, .ref k0, .ref p0, .int (iI ((w : Nat) : Int))])), (t0, .inl (cI, 24, .inl (fun j => iI ((tb a0 a1 j : Nat) : Int)))), (k0, .inl (cI, 12, .inl (fun j => iI ((K j : Nat) : Int)))), (p0, .inl (cI, 12, .inl (fun j => iI ((q j : Nat) : Int))))]) [(m0, .inr (1, [.int (iI 1), .ref t0, .ref k0, .ref p0, .int (iI ((w : Nat) : Int))])), (t0, .inl (cI, 24, .inl (fun j => iI ((tb a0 a1 j : Nat) : Int)))), (k0, .inl (cI, 12, .inl (fun j => iI ((K j : Nat) : Int)))), (p0, .inl (cI, 12, .inl (fun j => iI ((q j : Nat) : Int))))] := va_D_same (w := [(m0, .inr (1, [.int th, .ref t0, .ref k0, .ref p0, .int (iI ((w : Nat) : Int))])), (t0, .inl (cI, 24, .inl (fun j => iI ((tb a0 a1 j : Nat) : Int)))), (k0, .inl (cI, 12, .inl (fun j => iI ((K j : Nat) : Int)))), (p0, .inl (cI, 12, .inl (fun j => iI ((q j : Nat) : Int))))]) rfl hD
      refine st_i (y := iI 0) (congrArg iI (bI_f (by decide))) ?_
      refine ib_if_ne (tgt := 35) hx hb dX1_pairs_30 (by decide) ⟨by omega, by omega⟩ (fun c_30 => absurd c_30 (by decide)) (fun c_30 => ?_)
      refine ib_const hx hb dX1_pairs_33 ?_
      exact W.iret hx hb hr (fun t ht _ => ⟨rfl, by rw [ht]; exact hP, hS.F ht⟩) hS.2.2 dX1_pairs_34
    · skip
      refine ib_const hx hb dX1_pairs_22 ?_
      refine lv_goto (tgt := 27) hx hb dX1_pairs_23 (by decide) ?_
      exfalso; omega

set_option maxHeartbeats 4000000 in
set_option maxRecDepth 100000 in
theorem mX1_combining_ok (l : Launch) (dC : Nat → ClassId) (dI : Nat → Nat → Nat) (cI : ClassId) (m0 t0 k0 p0 : Nat) (a0 a1 K q : Nat → Nat) (th : Int32) (w : Nat) (h0 : lt12 a0) (h1 : lt12 a1) (hw : w ≤ 12) (hq : ∀ i, i < w → q i < 12) (r : Nat) (hr9 : r < 2) : wr l yX1_combining wsX1_combining { frames := 3, cells := 0, slots := 0, locals := 74 } [.ref m0, .int (iI ((r : Nat) : Int))] (dC, dI) [(m0, .inr (1, [.int th, .ref t0, .ref k0, .ref p0, .int (iI ((w : Nat) : Int))])), (t0, .inl (cI, 24, .inl (fun j => iI ((tb a0 a1 j : Nat) : Int)))), (k0, .inl (cI, 12, .inl (fun j => iI ((K j : Nat) : Int)))), (p0, .inl (cI, 12, .inl (fun j => iI ((q j : Nat) : Int))))] [(cI, .int)] [(m0, .inr (1, [.int (iI 0), .ref t0, .ref k0, .ref p0, .int (iI ((w : Nat) : Int))])), (t0, .inl (cI, 24, .inl (fun j => iI ((tb a0 a1 j : Nat) : Int)))), (k0, .inl (cI, 12, .inl (fun j => iI ((K j : Nat) : Int)))), (p0, .inl (cI, 12, .inl (fun j => iI ((q j : Nat) : Int))))] (some (.long (cmL (rw_ r a0 a1) 48))) := by
  refine Met.ofW (cc := cX1_combining) (maxL := 6) (ret := (some .long)) (by decide) rfl ?_
  intro P0 e s m args below meth c s₁ B hml hv
  obtain ⟨rfl, hP, hK, hD0⟩ := hv
  have hx := B.exec
  have hb := B.bytes
  have hr := B.returns
  have hts := atoms_spec (ws := wsX1_combining) B.pre
  have hown : s.vm.findClass RX1 = some m.cls := findClass_of_methodNamed B.named
  have hlocks := B.notSynchronized
  have hinX : ∀ w ∈ u_ws RX1 TX1 5, w ∈ wsX1_combining := by decide +kernel
  have hD : va_D (inW [(m0, .inr (1, [.int th, .ref t0, .ref k0, .ref p0, .int (iI ((w : Nat) : Int))])), (t0, .inl (cI, 24, .inl (fun j => iI ((tb a0 a1 j : Nat) : Int)))), (k0, .inl (cI, 12, .inl (fun j => iI ((K j : Nat) : Int)))), (p0, .inl (cI, 12, .inl (fun j => iI ((q j : Nat) : Int))))]) [(m0, .inr (1, [.int th, .ref t0, .ref k0, .ref p0, .int (iI ((w : Nat) : Int))])), (t0, .inl (cI, 24, .inl (fun j => iI ((tb a0 a1 j : Nat) : Int)))), (k0, .inl (cI, 12, .inl (fun j => iI ((K j : Nat) : Int)))), (p0, .inl (cI, 12, .inl (fun j => iI ((q j : Nat) : Int))))] := va_D_in hD0
  have hS : va_S (inW [(m0, .inr (1, [.int th, .ref t0, .ref k0, .ref p0, .int (iI ((w : Nat) : Int))])), (t0, .inl (cI, 24, .inl (fun j => iI ((tb a0 a1 j : Nat) : Int)))), (k0, .inl (cI, 12, .inl (fun j => iI ((K j : Nat) : Int)))), (p0, .inl (cI, 12, .inl (fun j => iI ((q j : Nat) : Int))))]) s.heap s.heap [] := va_S.rf
  have hl := lv_entry ([.ref m0, .int (iI ((r : Nat) : Int))]) (n := 6) (Nat.le_of_ble_eq_true rfl)
  rw [lg_entry_eq]
  generalize (lg_sl ([.ref m0, .int (iI ((r : Nat) : Int))]) ++ List.replicate (6 - (lg_sl ([.ref m0, .int (iI ((r : Nat) : Int))])).length) Slot.unset).toArray = ls at hl ⊢
  have hl : lv_has ls 6 [(0, .ref m0), (1, .int (iI ((r : Nat) : Int)))] := hl
  refine lv_aload_n hx hb dX1_combining_0 rfl (lv_at hl 0 rfl) ?_
  refine lv_iload_n hx hb dX1_combining_1 rfl (lv_at hl 1 rfl) ?_
  refine rd_call (va_runS (As := [.int (iI ((r : Nat) : Int))]) (rest := [.ref m0]) ⟨hx, hb, hml, hown, hts⟩ (mX1_isRow l ((r : Nat) : Int) ⟨by omega, by omega⟩) (va_cwS 1 hts gX1_combining_X1_isRow rfl rfl rfl hdX1_isRow ⟨Nat.le_of_ble_eq_true rfl, Nat.le_of_ble_eq_true rfl⟩) tt_pre rfl rfl hl.1 rfl (lv_room (Nat.le_of_ble_eq_true rfl)) dX1_combining_2 ⟨Nat.le_of_ble_eq_true rfl, Nat.le_of_ble_eq_true rfl⟩) ?_
  refine bb_eq (tgt := 12) hx hb dX1_combining_5 (by decide) (fun c_5 => absurd c_5 (by omega)) (fun c_5 => ?_)
  refine ib_const hx hb dX1_combining_8 ?_
  refine lv_goto (tgt := 13) hx hb dX1_combining_9 (by decide) ?_
  refine wr_call (va_runV (As := [.int (iI 0)]) (rest := []) ⟨hx, hb, hml, hown, hts⟩ (mX1_goesWell l dC dI cI m0 t0 k0 p0 a0 a1 K q th w h0 h1 hw hq 0 ⟨by omega, by omega⟩) (cwV 1 hts gX1_combining_X1_goesWell rfl rfl rfl hvX1_goesWell ⟨Nat.le_of_ble_eq_true rfl, Nat.le_of_ble_eq_true rfl⟩) (bD_pre (ci := 1) (q0 := 0) hK hP hD rfl rfl rfl) rfl rfl hl.1 rfl (lv_room (Nat.le_of_ble_eq_true rfl)) dX1_combining_13 ⟨Nat.le_of_ble_eq_true rfl, Nat.le_of_ble_eq_true rfl⟩) hS (fun q9 h => inW_same (w := [(m0, .inr (1, [.int th, .ref t0, .ref k0, .ref p0, .int (iI ((w : Nat) : Int))])), (t0, .inl (cI, 24, .inl (fun j => iI ((tb a0 a1 j : Nat) : Int)))), (k0, .inl (cI, 12, .inl (fun j => iI ((K j : Nat) : Int)))), (p0, .inl (cI, 12, .inl (fun j => iI ((q j : Nat) : Int))))]) (w' := [(m0, .inr (1, [.int th, .ref t0, .ref k0, .ref p0, .int (iI ((w : Nat) : Int))])), (t0, .inl (cI, 24, .inl (fun j => iI ((tb a0 a1 j : Nat) : Int)))), (k0, .inl (cI, 12, .inl (fun j => iI ((K j : Nat) : Int)))), (p0, .inl (cI, 12, .inl (fun j => iI ((q j : Nat) : Int))))]) rfl h) (fun H locs hP hz hk hS => ?_)
  have hD : va_D (inW [(m0, .inr (1, [.int th, .ref t0, .ref k0, .ref p0, .int (iI ((w : Nat) : Int))])), (t0, .inl (cI, 24, .inl (fun j => iI ((tb a0 a1 j : Nat) : Int)))), (k0, .inl (cI, 12, .inl (fun j => iI ((K j : Nat) : Int)))), (p0, .inl (cI, 12, .inl (fun j => iI ((q j : Nat) : Int))))]) [(m0, .inr (1, [.int (iI 0), .ref t0, .ref k0, .ref p0, .int (iI ((w : Nat) : Int))])), (t0, .inl (cI, 24, .inl (fun j => iI ((tb a0 a1 j : Nat) : Int)))), (k0, .inl (cI, 12, .inl (fun j => iI ((K j : Nat) : Int)))), (p0, .inl (cI, 12, .inl (fun j => iI ((q j : Nat) : Int))))] := va_D_same (w := [(m0, .inr (1, [.int th, .ref t0, .ref k0, .ref p0, .int (iI ((w : Nat) : Int))])), (t0, .inl (cI, 24, .inl (fun j => iI ((tb a0 a1 j : Nat) : Int)))), (k0, .inl (cI, 12, .inl (fun j => iI ((K j : Nat) : Int)))), (p0, .inl (cI, 12, .inl (fun j => iI ((q j : Nat) : Int))))]) rfl hD
  refine st_i (y := iI 1) (congrArg iI (bI_t (by decide))) ?_
  refine ib_if_ne (tgt := 21) hx hb dX1_combining_16 (by decide) ⟨by omega, by omega⟩ (fun c_16 => ?_) (fun c_16 => absurd c_16 (by decide))
  refine lv_lconst (v := 0) hx hb dX1_combining_21 (by decide) ?_
  refine lv_lstore_n (lv' := [(2, .long (0 : Int64)), (0, .ref m0), (1, .int (iI ((r : Nat) : Int)))]) hx hb dX1_combining_22 rfl hl (by decide) rfl (fun ls hl => ?_)
  refine ib_const hx hb dX1_combining_23 ?_
  refine lv_istore (lv' := [(4, .int (iI 0)), (2, .long (0 : Int64)), (0, .ref m0), (1, .int (iI ((r : Nat) : Int)))]) hx hb dX1_combining_24 hl (by decide) rfl (fun ls hl => ?_)
  have lp_26_1 : ∀ (j n : Nat), n + j = 48 → ∀ ls : Array Slot, lv_has ls 6 [(0, .ref m0), (1, .int (iI ((r : Nat) : Int))), (2, .long (cmL (rw_ r a0 a1) n)), (4, .int (iI ((n : Nat) : Int)))] → W P0 l e (headSpec wsX1_combining { frames := 3, cells := 0, slots := 0, locals := 74 }).room s m ([.ref m0, .int (iI ((r : Nat) : Int))] : List Value).toArray below meth c H locs 0 0 (MQ below (wrQ (dC, dI) (inW [(m0, .inr (1, [.int th, .ref t0, .ref k0, .ref p0, .int (iI ((w : Nat) : Int))])), (t0, .inl (cI, 24, .inl (fun j => iI ((tb a0 a1 j : Nat) : Int)))), (k0, .inl (cI, 12, .inl (fun j => iI ((K j : Nat) : Int)))), (p0, .inl (cI, 12, .inl (fun j => iI ((q j : Nat) : Int))))]) [(m0, .inr (1, [.int (iI 0), .ref t0, .ref k0, .ref p0, .int (iI ((w : Nat) : Int))])), (t0, .inl (cI, 24, .inl (fun j => iI ((tb a0 a1 j : Nat) : Int)))), (k0, .inl (cI, 12, .inl (fun j => iI ((K j : Nat) : Int)))), (p0, .inl (cI, 12, .inl (fun j => iI ((q j : Nat) : Int))))] (some (.long (cmL (rw_ r a0 a1) 48)))) ([.ref m0, .int (iI ((r : Nat) : Int))] : List Value).toArray s 0 0 (inW [(m0, .inr (1, [.int th, .ref t0, .ref k0, .ref p0, .int (iI ((w : Nat) : Int))])), (t0, .inl (cI, 24, .inl (fun j => iI ((tb a0 a1 j : Nat) : Int)))), (k0, .inl (cI, 12, .inl (fun j => iI ((K j : Nat) : Int)))), (p0, .inl (cI, 12, .inl (fun j => iI ((q j : Nat) : Int))))])) (F0 m 26 ls []) := by
    intro j
    induction j with
    | zero =>
      intro n hn_26  ls hl
      refine lv_iload hx hb dX1_combining_26 (lv_at hl 3 rfl) ?_
      refine ib_bi hx hb dX1_combining_28 (by decide) ?_
      refine ib_icmp_ge (tgt := 89) hx hb dX1_combining_30 (by decide) ⟨by omega, by omega⟩ ⟨by omega, by omega⟩ (fun c_30 => ?_) (fun c_30 => absurd c_30 (by omega))
      refine lv_lload_n hx hb dX1_combining_89 rfl (lv_at hl 2 rfl) ?_
      refine st_l (y := cmL (rw_ r a0 a1) 48) (congrArg (cmL (rw_ r a0 a1)) (show n = 48 by omega)) ?_
      exact W.lret hx hb hr (fun t ht _ => ⟨rfl, by rw [ht]; exact hP, hS.F ht⟩) hS.2.2 dX1_combining_90
    | succ j ih_26_1 =>
      intro n hn_26  ls hl
      refine lv_iload hx hb dX1_combining_26 (lv_at hl 3 rfl) ?_
      refine ib_bi hx hb dX1_combining_28 (by decide) ?_
      refine ib_icmp_ge (tgt := 89) hx hb dX1_combining_30 (by decide) ⟨by omega, by omega⟩ ⟨by omega, by omega⟩ (fun c_30 => absurd c_30 (by omega)) (fun c_30 => ?_)
      refine lv_aload_n hx hb dX1_combining_33 rfl (lv_at hl 0 rfl) ?_
      refine lv_iload_n hx hb dX1_combining_34 rfl (lv_at hl 1 rfl) ?_
      refine lv_aload_n hx hb dX1_combining_35 rfl (lv_at hl 0 rfl) ?_
      refine lv_iload_n hx hb dX1_combining_36 rfl (lv_at hl 1 rfl) ?_
      refine rd_call (va_runV (As := [.int (iI ((r : Nat) : Int))]) (rest := [.int (iI ((r : Nat) : Int)), .ref m0]) ⟨hx, hb, hml, hown, hts⟩ (mX1_itself l dC dI cI m0 t0 k0 p0 a0 a1 K q (iI 0) w h0 h1 hw hq r (by omega)) (cwV 1 hts gX1_combining_X1_itself rfl rfl rfl hvX1_itself ⟨Nat.le_of_ble_eq_true rfl, Nat.le_of_ble_eq_true rfl⟩) (bW_pre (ci := 1) (q0 := 0) hK hP rfl rfl rfl) rfl rfl hl.1 rfl (lv_room (Nat.le_of_ble_eq_true rfl)) dX1_combining_37 ⟨Nat.le_of_ble_eq_true rfl, Nat.le_of_ble_eq_true rfl⟩) ?_
      have hr_37 := rw_lt h0 h1 r (i := 0) (by omega)
      refine ib_const hx hb dX1_combining_40 ?_
      refine ib_bi hx hb dX1_combining_41 (by decide) ?_
      refine rd_call (va_runV (As := [.int (iI ((r : Nat) : Int)), .int (iI ((rw_ r a0 a1 0 : Nat) : Int)), .int (iI 0), .int (iI 6)]) (rest := []) ⟨hx, hb, hml, hown, hts⟩ (mX1_setOf l dC dI cI m0 t0 k0 p0 a0 a1 K q (iI 0) w h0 h1 hw hq r (rw_ r a0 a1 0) 0 6 (by omega) (by omega) (by omega)) (cwV 4 hts gX1_combining_X1_setOf rfl rfl rfl hvX1_setOf ⟨Nat.le_of_ble_eq_true rfl, Nat.le_of_ble_eq_true rfl⟩) (bW_pre (ci := 1) (q0 := 0) hK hP rfl rfl rfl) rfl rfl hl.1 rfl (lv_room (Nat.le_of_ble_eq_true rfl)) dX1_combining_43 ⟨Nat.le_of_ble_eq_true rfl, Nat.le_of_ble_eq_true rfl⟩) ?_
      have hs_43 := setF_lt (fm_lt (rw_ r a0 a1) (rw_ r a0 a1 0)) 0 6
      refine lv_aload_n hx hb dX1_combining_46 rfl (lv_at hl 0 rfl) ?_
      refine lv_iload_n hx hb dX1_combining_47 rfl (lv_at hl 1 rfl) ?_
      refine lv_iload hx hb dX1_combining_48 (lv_at hl 3 rfl) ?_
      refine ib_const hx hb dX1_combining_50 ?_
      refine ib_bi hx hb dX1_combining_51 (by decide) ?_
      refine rd_call (va_runV (As := [.int (iI ((r : Nat) : Int)), .int (iI ((n : Nat) : Int)), .int (iI 0), .int (iI 6)]) (rest := [.int (iI ((setF (fm (rw_ r a0 a1) (rw_ r a0 a1 0)) 0 6 : Nat) : Int))]) ⟨hx, hb, hml, hown, hts⟩ (mX1_setOf l dC dI cI m0 t0 k0 p0 a0 a1 K q (iI 0) w h0 h1 hw hq r n 0 6 (by omega) (by omega) (by omega)) (cwV 4 hts gX1_combining_X1_setOf rfl rfl rfl hvX1_setOf ⟨Nat.le_of_ble_eq_true rfl, Nat.le_of_ble_eq_true rfl⟩) (bW_pre (ci := 1) (q0 := 0) hK hP rfl rfl rfl) rfl rfl hl.1 rfl (lv_room (Nat.le_of_ble_eq_true rfl)) dX1_combining_53 ⟨Nat.le_of_ble_eq_true rfl, Nat.le_of_ble_eq_true rfl⟩) ?_
      have hs_53 := setF_lt (fm_lt (rw_ r a0 a1) n) 0 6
      refine lv_iand hx hb dX1_combining_56 ?_
      refine st_i (y := iI ((setF (fm (rw_ r a0 a1) (rw_ r a0 a1 0)) 0 6 &&& setF (fm (rw_ r a0 a1) n) 0 6 : Nat) : Int)) (ir_and _ _) ?_
      have hab := Nat.and_le_left (n := setF (fm (rw_ r a0 a1) (rw_ r a0 a1 0)) 0 6) (m := setF (fm (rw_ r a0 a1) n) 0 6)
      refine ib_if_ne (tgt := 64) hx hb dX1_combining_57 (by decide) ⟨by omega, by omega⟩ (fun c_57 => ?_) (fun c_57 => ?_)
      · skip
        refine ib_const hx hb dX1_combining_64 ?_
        refine lv_istore (lv' := [(5, .int (iI 0)), (0, .ref m0), (1, .int (iI ((r : Nat) : Int))), (2, .long (cmL (rw_ r a0 a1) n)), (4, .int (iI ((n : Nat) : Int)))]) hx hb dX1_combining_65 hl (by decide) rfl (fun ls hl => ?_)
        refine lv_lload_n hx hb dX1_combining_67 rfl (lv_at hl 3 rfl) ?_
        refine lv_iload hx hb dX1_combining_68 (lv_at hl 0 rfl) ?_
        refine ib_if_eq (tgt := 80) hx hb dX1_combining_70 (by decide) ⟨by omega, by omega⟩ (fun c_70 => ?_) (fun c_70 => absurd c_70 (by decide))
        refine lv_lconst (v := 0) hx hb dX1_combining_80 (by decide) ?_
        refine lv_lor hx hb dX1_combining_81 ?_
        refine lv_lstore_n (lv' := [(2, .long ((cmL (rw_ r a0 a1) n) ||| (0 : Int64))), (5, .int (iI 0)), (0, .ref m0), (1, .int (iI ((r : Nat) : Int))), (4, .int (iI ((n : Nat) : Int)))]) hx hb dX1_combining_82 rfl hl (by decide) rfl (fun ls hl => ?_)
        refine lv_iinc (v := iI ((n + 1 : Nat) : Int)) (lv' := [(4, .int (iI ((n + 1 : Nat) : Int))), (2, .long ((cmL (rw_ r a0 a1) n) ||| (0 : Int64))), (5, .int (iI 0)), (0, .ref m0), (1, .int (iI ((r : Nat) : Int)))]) hx hb dX1_combining_83 hl (k := 4) rfl (iI_inc (by omega)) (by decide) rfl (fun ls hl => ?_)
        refine lv_goto (tgt := 26) hx hb dX1_combining_86 (by decide) ?_
        have hl : lv_has ls 6 [(4, .int (iI ((n + 1 : Nat) : Int))), (2, .long (cmL (rw_ r a0 a1) (n + 1))), (5, .int (iI 0)), (0, .ref m0), (1, .int (iI ((r : Nat) : Int)))] := by
          have e9 : (cmL (rw_ r a0 a1) n) ||| (0 : Int64) = cmL (rw_ r a0 a1) (n + 1) := (if_neg (and0_f c_57)).symm
          rw [← e9]; exact hl
        exact ih_26_1 (n + 1) (by omega)  _ (lv_sub hl [3, 4, 1, 0] rfl)
      · skip
        refine ib_const hx hb dX1_combining_60 ?_
        refine lv_goto (tgt := 65) hx hb dX1_combining_61 (by decide) ?_
        refine lv_istore (lv' := [(5, .int (iI 1)), (0, .ref m0), (1, .int (iI ((r : Nat) : Int))), (2, .long (cmL (rw_ r a0 a1) n)), (4, .int (iI ((n : Nat) : Int)))]) hx hb dX1_combining_65 hl (by decide) rfl (fun ls hl => ?_)
        refine lv_lload_n hx hb dX1_combining_67 rfl (lv_at hl 3 rfl) ?_
        refine lv_iload hx hb dX1_combining_68 (lv_at hl 0 rfl) ?_
        refine ib_if_eq (tgt := 80) hx hb dX1_combining_70 (by decide) ⟨by omega, by omega⟩ (fun c_70 => absurd c_70 (by decide)) (fun c_70 => ?_)
        refine lv_lconst (v := 1) hx hb dX1_combining_73 (by decide) ?_
        refine lv_iload hx hb dX1_combining_74 (lv_at hl 4 rfl) ?_
        refine lv_lshl hx hb dX1_combining_76 rfl ?_
        refine st_l (y := bitL n) (rfl) ?_
        refine lv_goto (tgt := 81) hx hb dX1_combining_77 (by decide) ?_
        refine lv_lor hx hb dX1_combining_81 ?_
        refine lv_lstore_n (lv' := [(2, .long ((cmL (rw_ r a0 a1) n) ||| (bitL n))), (5, .int (iI 1)), (0, .ref m0), (1, .int (iI ((r : Nat) : Int))), (4, .int (iI ((n : Nat) : Int)))]) hx hb dX1_combining_82 rfl hl (by decide) rfl (fun ls hl => ?_)
        refine lv_iinc (v := iI ((n + 1 : Nat) : Int)) (lv' := [(4, .int (iI ((n + 1 : Nat) : Int))), (2, .long ((cmL (rw_ r a0 a1) n) ||| (bitL n))), (5, .int (iI 1)), (0, .ref m0), (1, .int (iI ((r : Nat) : Int)))]) hx hb dX1_combining_83 hl (k := 4) rfl (iI_inc (by omega)) (by decide) rfl (fun ls hl => ?_)
        refine lv_goto (tgt := 26) hx hb dX1_combining_86 (by decide) ?_
        have hl : lv_has ls 6 [(4, .int (iI ((n + 1 : Nat) : Int))), (2, .long (cmL (rw_ r a0 a1) (n + 1))), (5, .int (iI 1)), (0, .ref m0), (1, .int (iI ((r : Nat) : Int)))] := by
          have e9 : (cmL (rw_ r a0 a1) n) ||| (bitL n) = cmL (rw_ r a0 a1) (n + 1) := (if_pos (and0_t c_57)).symm
          rw [← e9]; exact hl
        exact ih_26_1 (n + 1) (by omega)  _ (lv_sub hl [3, 4, 1, 0] rfl)
  exact lp_26_1 48 0 (by omega)  _ (lv_sub hl [2, 3, 1, 0] rfl)

set_option maxHeartbeats 4000000 in
set_option maxRecDepth 100000 in
theorem mX1_combining_x1 (l : Launch) (dC : Nat → ClassId) (dI : Nat → Nat → Nat) (cI : ClassId) (m0 t0 k0 p0 : Nat) (a0 a1 K q : Nat → Nat) (th : Int32) (w : Nat) (h0 : lt12 a0) (h1 : lt12 a1) (hw : w ≤ 12) (hq : ∀ i, i < w → q i < 12) (z0 : Int) (hz0 : inI z0) (hbad : ¬ (z0 = 0 ∨ z0 = 1)) : wr l yX1_combining wsX1_combining { frames := 1, cells := 0, slots := 0, locals := 21 } [.ref m0, .int (iI z0)] (dC, dI) [(m0, .inr (1, [.int th, .ref t0, .ref k0, .ref p0, .int (iI ((w : Nat) : Int))])), (t0, .inl (cI, 24, .inl (fun j => iI ((tb a0 a1 j : Nat) : Int)))), (k0, .inl (cI, 12, .inl (fun j => iI ((K j : Nat) : Int)))), (p0, .inl (cI, 12, .inl (fun j => iI ((q j : Nat) : Int))))] [(cI, .int)] [(m0, .inr (1, [.int (iI 1), .ref t0, .ref k0, .ref p0, .int (iI ((w : Nat) : Int))])), (t0, .inl (cI, 24, .inl (fun j => iI ((tb a0 a1 j : Nat) : Int)))), (k0, .inl (cI, 12, .inl (fun j => iI ((K j : Nat) : Int)))), (p0, .inl (cI, 12, .inl (fun j => iI ((q j : Nat) : Int))))] (some (.long (0 : Int64))) := by
  refine Met.ofW (cc := cX1_combining) (maxL := 6) (ret := (some .long)) (by decide) rfl ?_
  intro P0 e s m args below meth c s₁ B hml hv
  obtain ⟨rfl, hP, hK, hD0⟩ := hv
  have hx := B.exec
  have hb := B.bytes
  have hr := B.returns
  have hts := atoms_spec (ws := wsX1_combining) B.pre
  have hown : s.vm.findClass RX1 = some m.cls := findClass_of_methodNamed B.named
  have hlocks := B.notSynchronized
  have hinX : ∀ w ∈ u_ws RX1 TX1 5, w ∈ wsX1_combining := by decide +kernel
  have hD : va_D (inW [(m0, .inr (1, [.int th, .ref t0, .ref k0, .ref p0, .int (iI ((w : Nat) : Int))])), (t0, .inl (cI, 24, .inl (fun j => iI ((tb a0 a1 j : Nat) : Int)))), (k0, .inl (cI, 12, .inl (fun j => iI ((K j : Nat) : Int)))), (p0, .inl (cI, 12, .inl (fun j => iI ((q j : Nat) : Int))))]) [(m0, .inr (1, [.int th, .ref t0, .ref k0, .ref p0, .int (iI ((w : Nat) : Int))])), (t0, .inl (cI, 24, .inl (fun j => iI ((tb a0 a1 j : Nat) : Int)))), (k0, .inl (cI, 12, .inl (fun j => iI ((K j : Nat) : Int)))), (p0, .inl (cI, 12, .inl (fun j => iI ((q j : Nat) : Int))))] := va_D_in hD0
  have hS : va_S (inW [(m0, .inr (1, [.int th, .ref t0, .ref k0, .ref p0, .int (iI ((w : Nat) : Int))])), (t0, .inl (cI, 24, .inl (fun j => iI ((tb a0 a1 j : Nat) : Int)))), (k0, .inl (cI, 12, .inl (fun j => iI ((K j : Nat) : Int)))), (p0, .inl (cI, 12, .inl (fun j => iI ((q j : Nat) : Int))))]) s.heap s.heap [] := va_S.rf
  have hl := lv_entry ([.ref m0, .int (iI z0)]) (n := 6) (Nat.le_of_ble_eq_true rfl)
  rw [lg_entry_eq]
  generalize (lg_sl ([.ref m0, .int (iI z0)]) ++ List.replicate (6 - (lg_sl ([.ref m0, .int (iI z0)])).length) Slot.unset).toArray = ls at hl ⊢
  have hl : lv_has ls 6 [(0, .ref m0), (1, .int (iI z0))] := hl
  have hza0 := hz0.1
  have hzb0 := hz0.2
  refine lv_aload_n hx hb dX1_combining_0 rfl (lv_at hl 0 rfl) ?_
  refine lv_iload_n hx hb dX1_combining_1 rfl (lv_at hl 1 rfl) ?_
  refine rd_call (va_runS (As := [.int (iI z0)]) (rest := [.ref m0]) ⟨hx, hb, hml, hown, hts⟩ (mX1_isRow l z0 ⟨by omega, by omega⟩) (va_cwS 1 hts gX1_combining_X1_isRow rfl rfl rfl hdX1_isRow ⟨Nat.le_of_ble_eq_true rfl, Nat.le_of_ble_eq_true rfl⟩) tt_pre rfl rfl hl.1 rfl (lv_room (Nat.le_of_ble_eq_true rfl)) dX1_combining_2 ⟨Nat.le_of_ble_eq_true rfl, Nat.le_of_ble_eq_true rfl⟩) ?_
  refine bb_eq (tgt := 12) hx hb dX1_combining_5 (by decide) (fun c_5 => ?_) (fun c_5 => ?_)
  · skip
    refine ib_const hx hb dX1_combining_12 ?_
    refine wr_call (va_runV (As := [.int (iI 1)]) (rest := []) ⟨hx, hb, hml, hown, hts⟩ (mX1_goesWell l dC dI cI m0 t0 k0 p0 a0 a1 K q th w h0 h1 hw hq 1 ⟨by omega, by omega⟩) (cwV 1 hts gX1_combining_X1_goesWell rfl rfl rfl hvX1_goesWell ⟨Nat.le_of_ble_eq_true rfl, Nat.le_of_ble_eq_true rfl⟩) (bD_pre (ci := 1) (q0 := 0) hK hP hD rfl rfl rfl) rfl rfl hl.1 rfl (lv_room (Nat.le_of_ble_eq_true rfl)) dX1_combining_13 ⟨Nat.le_of_ble_eq_true rfl, Nat.le_of_ble_eq_true rfl⟩) hS (fun q9 h => inW_same (w := [(m0, .inr (1, [.int th, .ref t0, .ref k0, .ref p0, .int (iI ((w : Nat) : Int))])), (t0, .inl (cI, 24, .inl (fun j => iI ((tb a0 a1 j : Nat) : Int)))), (k0, .inl (cI, 12, .inl (fun j => iI ((K j : Nat) : Int)))), (p0, .inl (cI, 12, .inl (fun j => iI ((q j : Nat) : Int))))]) (w' := [(m0, .inr (1, [.int th, .ref t0, .ref k0, .ref p0, .int (iI ((w : Nat) : Int))])), (t0, .inl (cI, 24, .inl (fun j => iI ((tb a0 a1 j : Nat) : Int)))), (k0, .inl (cI, 12, .inl (fun j => iI ((K j : Nat) : Int)))), (p0, .inl (cI, 12, .inl (fun j => iI ((q j : Nat) : Int))))]) rfl h) (fun H locs hP hz hk hS => ?_)
    have hD : va_D (inW [(m0, .inr (1, [.int th, .ref t0, .ref k0, .ref p0, .int (iI ((w : Nat) : Int))])), (t0, .inl (cI, 24, .inl (fun j => iI ((tb a0 a1 j : Nat) : Int)))), (k0, .inl (cI, 12, .inl (fun j => iI ((K j : Nat) : Int)))), (p0, .inl (cI, 12, .inl (fun j => iI ((q j : Nat) : Int))))]) [(m0, .inr (1, [.int (iI 1), .ref t0, .ref k0, .ref p0, .int (iI ((w : Nat) : Int))])), (t0, .inl (cI, 24, .inl (fun j => iI ((tb a0 a1 j : Nat) : Int)))), (k0, .inl (cI, 12, .inl (fun j => iI ((K j : Nat) : Int)))), (p0, .inl (cI, 12, .inl (fun j => iI ((q j : Nat) : Int))))] := va_D_same (w := [(m0, .inr (1, [.int th, .ref t0, .ref k0, .ref p0, .int (iI ((w : Nat) : Int))])), (t0, .inl (cI, 24, .inl (fun j => iI ((tb a0 a1 j : Nat) : Int)))), (k0, .inl (cI, 12, .inl (fun j => iI ((K j : Nat) : Int)))), (p0, .inl (cI, 12, .inl (fun j => iI ((q j : Nat) : Int))))]) rfl hD
    refine st_i (y := iI 0) (congrArg iI (bI_f (by decide))) ?_
    refine ib_if_ne (tgt := 21) hx hb dX1_combining_16 (by decide) ⟨by omega, by omega⟩ (fun c_16 => absurd c_16 (by decide)) (fun c_16 => ?_)
    refine lv_lconst (v := 0) hx hb dX1_combining_19 (by decide) ?_
    exact W.lret hx hb hr (fun t ht _ => ⟨rfl, by rw [ht]; exact hP, hS.F ht⟩) hS.2.2 dX1_combining_20
  · skip
    refine ib_const hx hb dX1_combining_8 ?_
    refine lv_goto (tgt := 13) hx hb dX1_combining_9 (by decide) ?_
    exfalso; omega

set_option maxHeartbeats 4000000 in
set_option maxRecDepth 100000 in
theorem mX1_isDerived_ok1 (l : Launch) (dC : Nat → ClassId) (dI : Nat → Nat → Nat) (cI : ClassId) (m0 t0 k0 p0 : Nat) (a0 a1 K q : Nat → Nat) (th : Int32) (w : Nat) (h0 : lt12 a0) (h1 : lt12 a1) (hw : w ≤ 12) (hq : ∀ i, i < w → q i < 12) (r : Nat) (hr9 : r < 2) : wr l yX1_isDerived wsX1_isDerived { frames := 3, cells := 0, slots := 0, locals := 74 } [.ref m0, .int (iI ((r : Nat) : Int)), .int (iI 1)] (dC, dI) [(m0, .inr (1, [.int th, .ref t0, .ref k0, .ref p0, .int (iI ((w : Nat) : Int))])), (t0, .inl (cI, 24, .inl (fun j => iI ((tb a0 a1 j : Nat) : Int)))), (k0, .inl (cI, 12, .inl (fun j => iI ((K j : Nat) : Int)))), (p0, .inl (cI, 12, .inl (fun j => iI ((q j : Nat) : Int))))] [(cI, .int)] [(m0, .inr (1, [.int (iI 0), .ref t0, .ref k0, .ref p0, .int (iI ((w : Nat) : Int))])), (t0, .inl (cI, 24, .inl (fun j => iI ((tb a0 a1 j : Nat) : Int)))), (k0, .inl (cI, 12, .inl (fun j => iI ((K j : Nat) : Int)))), (p0, .inl (cI, 12, .inl (fun j => iI ((q j : Nat) : Int))))] (some (.int (iI (bI (alN (deB (rw_ r a0 a1) 1) 12 = true))))) := by
  refine Met.ofW (cc := cX1_isDerived) (maxL := 6) (ret := (some .boolean)) (by decide) rfl ?_
  intro P0 e s m args below meth c s₁ B hml hv
  obtain ⟨rfl, hP, hK, hD0⟩ := hv
  have hx := B.exec
  have hb := B.bytes
  have hr := B.returns
  have hts := atoms_spec (ws := wsX1_isDerived) B.pre
  have hown : s.vm.findClass RX1 = some m.cls := findClass_of_methodNamed B.named
  have hlocks := B.notSynchronized
  have hinX : ∀ w ∈ u_ws RX1 TX1 5, w ∈ wsX1_isDerived := by decide +kernel
  have hD : va_D (inW [(m0, .inr (1, [.int th, .ref t0, .ref k0, .ref p0, .int (iI ((w : Nat) : Int))])), (t0, .inl (cI, 24, .inl (fun j => iI ((tb a0 a1 j : Nat) : Int)))), (k0, .inl (cI, 12, .inl (fun j => iI ((K j : Nat) : Int)))), (p0, .inl (cI, 12, .inl (fun j => iI ((q j : Nat) : Int))))]) [(m0, .inr (1, [.int th, .ref t0, .ref k0, .ref p0, .int (iI ((w : Nat) : Int))])), (t0, .inl (cI, 24, .inl (fun j => iI ((tb a0 a1 j : Nat) : Int)))), (k0, .inl (cI, 12, .inl (fun j => iI ((K j : Nat) : Int)))), (p0, .inl (cI, 12, .inl (fun j => iI ((q j : Nat) : Int))))] := va_D_in hD0
  have hS : va_S (inW [(m0, .inr (1, [.int th, .ref t0, .ref k0, .ref p0, .int (iI ((w : Nat) : Int))])), (t0, .inl (cI, 24, .inl (fun j => iI ((tb a0 a1 j : Nat) : Int)))), (k0, .inl (cI, 12, .inl (fun j => iI ((K j : Nat) : Int)))), (p0, .inl (cI, 12, .inl (fun j => iI ((q j : Nat) : Int))))]) s.heap s.heap [] := va_S.rf
  have hl := lv_entry ([.ref m0, .int (iI ((r : Nat) : Int)), .int (iI 1)]) (n := 6) (Nat.le_of_ble_eq_true rfl)
  rw [lg_entry_eq]
  generalize (lg_sl ([.ref m0, .int (iI ((r : Nat) : Int)), .int (iI 1)]) ++ List.replicate (6 - (lg_sl ([.ref m0, .int (iI ((r : Nat) : Int)), .int (iI 1)])).length) Slot.unset).toArray = ls at hl ⊢
  have hl : lv_has ls 6 [(0, .ref m0), (1, .int (iI ((r : Nat) : Int))), (2, .int (iI 1))] := hl
  refine lv_iload_n hx hb dX1_isDerived_0 rfl (lv_at hl 2 rfl) ?_
  refine ib_const hx hb dX1_isDerived_1 ?_
  refine ib_bi hx hb dX1_isDerived_2 (by decide) ?_
  refine rd_call (va_runS (As := [.int (iI 1), .int (iI 1), .int (iI 12)]) (rest := []) ⟨hx, hb, hml, hown, hts⟩ (mX1_in l 1 1 12 ⟨by omega, by omega⟩ ⟨by omega, by omega⟩ ⟨by omega, by omega⟩) (va_cwS 3 hts gX1_isDerived_X1_in rfl rfl rfl hdX1_in ⟨Nat.le_of_ble_eq_true rfl, Nat.le_of_ble_eq_true rfl⟩) tt_pre rfl rfl hl.1 rfl (lv_room (Nat.le_of_ble_eq_true rfl)) dX1_isDerived_4 ⟨Nat.le_of_ble_eq_true rfl, Nat.le_of_ble_eq_true rfl⟩) ?_
  refine bb_eq (tgt := 21) hx hb dX1_isDerived_7 (by decide) (fun c_7 => absurd c_7 (by omega)) (fun c_7 => ?_)
  refine ib_bi hx hb dX1_isDerived_10 (by decide) ?_
  refine lv_iload_n hx hb dX1_isDerived_12 rfl (lv_at hl 2 rfl) ?_
  refine ib_rem (z := 0) hx hb dX1_isDerived_13 (by omega) (by omega) (by omega) (by omega) (by first | omega | rfl) ?_
  refine ib_if_ne (tgt := 21) hx hb dX1_isDerived_14 (by decide) ⟨by omega, by omega⟩ (fun c_14 => absurd c_14 (by decide)) (fun c_14 => ?_)
  refine ib_const hx hb dX1_isDerived_17 ?_
  refine lv_goto (tgt := 22) hx hb dX1_isDerived_18 (by decide) ?_
  refine lv_istore_n (lv' := [(3, .int (iI 1)), (0, .ref m0), (1, .int (iI ((r : Nat) : Int))), (2, .int (iI 1))]) hx hb dX1_isDerived_22 rfl hl (by decide) rfl (fun ls hl => ?_)
  refine lv_aload_n hx hb dX1_isDerived_23 rfl (lv_at hl 1 rfl) ?_
  refine lv_iload_n hx hb dX1_isDerived_24 rfl (lv_at hl 2 rfl) ?_
  refine rd_call (va_runS (As := [.int (iI ((r : Nat) : Int))]) (rest := [.ref m0]) ⟨hx, hb, hml, hown, hts⟩ (mX1_isRow l ((r : Nat) : Int) ⟨by omega, by omega⟩) (va_cwS 1 hts gX1_isDerived_X1_isRow rfl rfl rfl hdX1_isRow ⟨Nat.le_of_ble_eq_true rfl, Nat.le_of_ble_eq_true rfl⟩) tt_pre rfl rfl hl.1 rfl (lv_room (Nat.le_of_ble_eq_true rfl)) dX1_isDerived_25 ⟨Nat.le_of_ble_eq_true rfl, Nat.le_of_ble_eq_true rfl⟩) ?_
  refine bb_ne (tgt := 35) hx hb dX1_isDerived_28 (by decide) (fun c_28 => ?_) (fun c_28 => absurd c_28 (by omega))
  refine lv_iload_n hx hb dX1_isDerived_35 rfl (lv_at hl 0 rfl) ?_
  refine ib_if_eq (tgt := 43) hx hb dX1_isDerived_36 (by decide) ⟨by omega, by omega⟩ (fun c_36 => absurd c_36 (by decide)) (fun c_36 => ?_)
  refine ib_const hx hb dX1_isDerived_39 ?_
  refine lv_goto (tgt := 44) hx hb dX1_isDerived_40 (by decide) ?_
  refine wr_call (va_runV (As := [.int (iI 0)]) (rest := []) ⟨hx, hb, hml, hown, hts⟩ (mX1_goesWell l dC dI cI m0 t0 k0 p0 a0 a1 K q th w h0 h1 hw hq 0 ⟨by omega, by omega⟩) (cwV 1 hts gX1_isDerived_X1_goesWell rfl rfl rfl hvX1_goesWell ⟨Nat.le_of_ble_eq_true rfl, Nat.le_of_ble_eq_true rfl⟩) (bD_pre (ci := 1) (q0 := 0) hK hP hD rfl rfl rfl) rfl rfl hl.1 rfl (lv_room (Nat.le_of_ble_eq_true rfl)) dX1_isDerived_44 ⟨Nat.le_of_ble_eq_true rfl, Nat.le_of_ble_eq_true rfl⟩) hS (fun q9 h => inW_same (w := [(m0, .inr (1, [.int th, .ref t0, .ref k0, .ref p0, .int (iI ((w : Nat) : Int))])), (t0, .inl (cI, 24, .inl (fun j => iI ((tb a0 a1 j : Nat) : Int)))), (k0, .inl (cI, 12, .inl (fun j => iI ((K j : Nat) : Int)))), (p0, .inl (cI, 12, .inl (fun j => iI ((q j : Nat) : Int))))]) (w' := [(m0, .inr (1, [.int th, .ref t0, .ref k0, .ref p0, .int (iI ((w : Nat) : Int))])), (t0, .inl (cI, 24, .inl (fun j => iI ((tb a0 a1 j : Nat) : Int)))), (k0, .inl (cI, 12, .inl (fun j => iI ((K j : Nat) : Int)))), (p0, .inl (cI, 12, .inl (fun j => iI ((q j : Nat) : Int))))]) rfl h) (fun H locs hP hz hk hS => ?_)
  have hD : va_D (inW [(m0, .inr (1, [.int th, .ref t0, .ref k0, .ref p0, .int (iI ((w : Nat) : Int))])), (t0, .inl (cI, 24, .inl (fun j => iI ((tb a0 a1 j : Nat) : Int)))), (k0, .inl (cI, 12, .inl (fun j => iI ((K j : Nat) : Int)))), (p0, .inl (cI, 12, .inl (fun j => iI ((q j : Nat) : Int))))]) [(m0, .inr (1, [.int (iI 0), .ref t0, .ref k0, .ref p0, .int (iI ((w : Nat) : Int))])), (t0, .inl (cI, 24, .inl (fun j => iI ((tb a0 a1 j : Nat) : Int)))), (k0, .inl (cI, 12, .inl (fun j => iI ((K j : Nat) : Int)))), (p0, .inl (cI, 12, .inl (fun j => iI ((q j : Nat) : Int))))] := va_D_same (w := [(m0, .inr (1, [.int th, .ref t0, .ref k0, .ref p0, .int (iI ((w : Nat) : Int))])), (t0, .inl (cI, 24, .inl (fun j => iI ((tb a0 a1 j : Nat) : Int)))), (k0, .inl (cI, 12, .inl (fun j => iI ((K j : Nat) : Int)))), (p0, .inl (cI, 12, .inl (fun j => iI ((q j : Nat) : Int))))]) rfl hD
  refine st_i (y := iI 1) (congrArg iI (bI_t (by decide))) ?_
  refine ib_if_ne (tgt := 52) hx hb dX1_isDerived_47 (by decide) ⟨by omega, by omega⟩ (fun c_47 => ?_) (fun c_47 => absurd c_47 (by decide))
  refine ib_const hx hb dX1_isDerived_52 ?_
  refine lv_istore (lv' := [(4, .int (iI 1)), (3, .int (iI 1)), (0, .ref m0), (1, .int (iI ((r : Nat) : Int))), (2, .int (iI 1))]) hx hb dX1_isDerived_53 hl (by decide) rfl (fun ls hl => ?_)
  have hl : lv_has ls 6 [(4, .int (iI (bI (alN (deB (rw_ r a0 a1) 1) 0 = true)))), (3, .int (iI 1)), (0, .ref m0), (1, .int (iI ((r : Nat) : Int))), (2, .int (iI 1))] := by
    have e9 : iI 1 = iI (bI (alN (deB (rw_ r a0 a1) 1) 0 = true)) := congrArg iI (bI_t (by simp [alN])).symm
    rw [← e9]; exact hl
  refine ib_const hx hb dX1_isDerived_55 ?_
  refine lv_istore (lv' := [(5, .int (iI 0)), (4, .int (iI (bI (alN (deB (rw_ r a0 a1) 1) 0 = true)))), (3, .int (iI 1)), (0, .ref m0), (1, .int (iI ((r : Nat) : Int))), (2, .int (iI 1))]) hx hb dX1_isDerived_56 hl (by decide) rfl (fun ls hl => ?_)
  have lp_58_1 : ∀ (j n : Nat), n + j = 12 → ∀ ls : Array Slot, lv_has ls 6 [(0, .ref m0), (1, .int (iI ((r : Nat) : Int))), (2, .int (iI 1)), (4, .int (iI (bI (alN (deB (rw_ r a0 a1) 1) n = true)))), (5, .int (iI ((1 * n : Nat) : Int)))] → W P0 l e (headSpec wsX1_isDerived { frames := 3, cells := 0, slots := 0, locals := 74 }).room s m ([.ref m0, .int (iI ((r : Nat) : Int)), .int (iI 1)] : List Value).toArray below meth c H locs 0 0 (MQ below (wrQ (dC, dI) (inW [(m0, .inr (1, [.int th, .ref t0, .ref k0, .ref p0, .int (iI ((w : Nat) : Int))])), (t0, .inl (cI, 24, .inl (fun j => iI ((tb a0 a1 j : Nat) : Int)))), (k0, .inl (cI, 12, .inl (fun j => iI ((K j : Nat) : Int)))), (p0, .inl (cI, 12, .inl (fun j => iI ((q j : Nat) : Int))))]) [(m0, .inr (1, [.int (iI 0), .ref t0, .ref k0, .ref p0, .int (iI ((w : Nat) : Int))])), (t0, .inl (cI, 24, .inl (fun j => iI ((tb a0 a1 j : Nat) : Int)))), (k0, .inl (cI, 12, .inl (fun j => iI ((K j : Nat) : Int)))), (p0, .inl (cI, 12, .inl (fun j => iI ((q j : Nat) : Int))))] (some (.int (iI (bI (alN (deB (rw_ r a0 a1) 1) 12 = true)))))) ([.ref m0, .int (iI ((r : Nat) : Int)), .int (iI 1)] : List Value).toArray s 0 0 (inW [(m0, .inr (1, [.int th, .ref t0, .ref k0, .ref p0, .int (iI ((w : Nat) : Int))])), (t0, .inl (cI, 24, .inl (fun j => iI ((tb a0 a1 j : Nat) : Int)))), (k0, .inl (cI, 12, .inl (fun j => iI ((K j : Nat) : Int)))), (p0, .inl (cI, 12, .inl (fun j => iI ((q j : Nat) : Int))))])) (F0 m 58 ls []) := by
    intro j
    induction j with
    | zero =>
      intro n hn_58  ls hl
      refine lv_iload hx hb dX1_isDerived_58 (lv_at hl 4 rfl) ?_
      refine ib_bi hx hb dX1_isDerived_60 (by decide) ?_
      refine ib_icmp_ge (tgt := 120) hx hb dX1_isDerived_62 (by decide) ⟨by omega, by omega⟩ ⟨by omega, by omega⟩ (fun c_62 => ?_) (fun c_62 => absurd c_62 (by omega))
      refine lv_iload hx hb dX1_isDerived_120 (lv_at hl 3 rfl) ?_
      refine st_i (y := iI (bI (alN (deB (rw_ r a0 a1) 1) 12 = true))) (congrArg iI (bI_eq (by rw [show n = 12 by omega]))) ?_
      exact W.zret hx hb hr (bI_nar _) (fun t ht _ => ⟨rfl, by rw [ht]; exact hP, hS.F ht⟩) hS.2.2 dX1_isDerived_122
    | succ j ih_58_1 =>
      intro n hn_58  ls hl
      refine lv_iload hx hb dX1_isDerived_58 (lv_at hl 4 rfl) ?_
      refine ib_bi hx hb dX1_isDerived_60 (by decide) ?_
      refine ib_icmp_ge (tgt := 120) hx hb dX1_isDerived_62 (by decide) ⟨by omega, by omega⟩ ⟨by omega, by omega⟩ (fun c_62 => absurd c_62 (by omega)) (fun c_62 => ?_)
      refine lv_iload hx hb dX1_isDerived_65 (lv_at hl 3 rfl) ?_
      refine bb_eq (tgt := 108) hx hb dX1_isDerived_67 (by decide) (fun c_67 => ?_) (fun c_67 => ?_)
      · skip
        refine ib_const hx hb dX1_isDerived_108 ?_
        refine lv_istore (lv' := [(4, .int (iI 0)), (0, .ref m0), (1, .int (iI ((r : Nat) : Int))), (2, .int (iI 1)), (5, .int (iI ((1 * n : Nat) : Int)))]) hx hb dX1_isDerived_109 hl (by decide) rfl (fun ls hl => ?_)
        refine lv_iload hx hb dX1_isDerived_111 (lv_at hl 4 rfl) ?_
        refine lv_iload_n hx hb dX1_isDerived_113 rfl (lv_at hl 3 rfl) ?_
        refine ib_add (z := (((1 * n) + 1 : Nat) : Int)) hx hb dX1_isDerived_114 (by omega) ?_
        refine lv_istore (lv' := [(5, .int (iI (((1 * n) + 1 : Nat) : Int))), (4, .int (iI 0)), (0, .ref m0), (1, .int (iI ((r : Nat) : Int))), (2, .int (iI 1))]) hx hb dX1_isDerived_115 hl (by decide) rfl (fun ls hl => ?_)
        refine lv_goto (tgt := 58) hx hb dX1_isDerived_117 (by decide) ?_
        have hl : lv_has ls 6 [(5, .int (iI (((1 * n) + 1 : Nat) : Int))), (4, .int (iI (bI (alN (deB (rw_ r a0 a1) 1) (n + 1) = true)))), (0, .ref m0), (1, .int (iI ((r : Nat) : Int))), (2, .int (iI 1))] := by
          have e9 : iI 0 = iI (bI (alN (deB (rw_ r a0 a1) 1) (n + 1) = true)) := al_0 c_67
          rw [← e9]; exact hl
        have hl : lv_has ls 6 [(5, .int (iI ((1 * (n + 1) : Nat) : Int))), (4, .int (iI (bI (alN (deB (rw_ r a0 a1) 1) (n + 1) = true)))), (0, .ref m0), (1, .int (iI ((r : Nat) : Int))), (2, .int (iI 1))] := by
          have e9 : iI (((1 * n) + 1 : Nat) : Int) = iI ((1 * (n + 1) : Nat) : Int) := congrArg (fun z : Nat => iI ((z : Nat) : Int)) (show (1 * n) + 1 = 1 * (n + 1) by omega)
          rw [← e9]; exact hl
        exact ih_58_1 (n + 1) (by omega)  _ (lv_sub hl [2, 3, 4, 1, 0] rfl)
      · skip
        refine lv_aload_n hx hb dX1_isDerived_70 rfl (lv_at hl 0 rfl) ?_
        refine lv_iload_n hx hb dX1_isDerived_71 rfl (lv_at hl 1 rfl) ?_
        refine lv_aload_n hx hb dX1_isDerived_72 rfl (lv_at hl 0 rfl) ?_
        refine lv_iload_n hx hb dX1_isDerived_73 rfl (lv_at hl 1 rfl) ?_
        refine rd_call (va_runV (As := [.int (iI ((r : Nat) : Int))]) (rest := [.int (iI ((r : Nat) : Int)), .ref m0]) ⟨hx, hb, hml, hown, hts⟩ (mX1_itself l dC dI cI m0 t0 k0 p0 a0 a1 K q (iI 0) w h0 h1 hw hq r (by omega)) (cwV 1 hts gX1_isDerived_X1_itself rfl rfl rfl hvX1_itself ⟨Nat.le_of_ble_eq_true rfl, Nat.le_of_ble_eq_true rfl⟩) (bW_pre (ci := 1) (q0 := 0) hK hP rfl rfl rfl) rfl rfl hl.1 rfl (lv_room (Nat.le_of_ble_eq_true rfl)) dX1_isDerived_74 ⟨Nat.le_of_ble_eq_true rfl, Nat.le_of_ble_eq_true rfl⟩) ?_
        have hr_74 := rw_lt h0 h1 r (i := 0) (by omega)
        refine lv_iload hx hb dX1_isDerived_77 (lv_at hl 4 rfl) ?_
        refine lv_iload_n hx hb dX1_isDerived_79 rfl (lv_at hl 2 rfl) ?_
        refine rd_call (va_runV (As := [.int (iI ((r : Nat) : Int)), .int (iI ((rw_ r a0 a1 0 : Nat) : Int)), .int (iI ((1 * n : Nat) : Int)), .int (iI 1)]) (rest := []) ⟨hx, hb, hml, hown, hts⟩ (mX1_setOf l dC dI cI m0 t0 k0 p0 a0 a1 K q (iI 0) w h0 h1 hw hq r (rw_ r a0 a1 0) (1 * n) 1 (by omega) (by omega) (by omega)) (cwV 4 hts gX1_isDerived_X1_setOf rfl rfl rfl hvX1_setOf ⟨Nat.le_of_ble_eq_true rfl, Nat.le_of_ble_eq_true rfl⟩) (bW_pre (ci := 1) (q0 := 0) hK hP rfl rfl rfl) rfl rfl hl.1 rfl (lv_room (Nat.le_of_ble_eq_true rfl)) dX1_isDerived_80 ⟨Nat.le_of_ble_eq_true rfl, Nat.le_of_ble_eq_true rfl⟩) ?_
        have hs_80 := setF_lt (fm_lt (rw_ r a0 a1) (rw_ r a0 a1 0)) (1 * n) 1
        refine rd_call (va_runS (As := [.int (iI ((setF (fm (rw_ r a0 a1) (rw_ r a0 a1 0)) (1 * n) 1 : Nat) : Int))]) (rest := []) ⟨hx, hb, hml, hown, hts⟩ (mX1_least l (setF (fm (rw_ r a0 a1) (rw_ r a0 a1 0)) (1 * n) 1) (by omega)) (va_cwS 1 hts gX1_isDerived_X1_least rfl rfl rfl hdX1_least ⟨Nat.le_of_ble_eq_true rfl, Nat.le_of_ble_eq_true rfl⟩) tt_pre rfl rfl hl.1 rfl (lv_room (Nat.le_of_ble_eq_true rfl)) dX1_isDerived_83 ⟨Nat.le_of_ble_eq_true rfl, Nat.le_of_ble_eq_true rfl⟩) ?_
        have hl_83 := lsN_le (setF (fm (rw_ r a0 a1) (rw_ r a0 a1 0)) (1 * n) 1) 12
        refine lv_aload_n hx hb dX1_isDerived_86 rfl (lv_at hl 0 rfl) ?_
        refine lv_iload_n hx hb dX1_isDerived_87 rfl (lv_at hl 1 rfl) ?_
        refine lv_aload_n hx hb dX1_isDerived_88 rfl (lv_at hl 0 rfl) ?_
        refine lv_iload_n hx hb dX1_isDerived_89 rfl (lv_at hl 1 rfl) ?_
        refine rd_call (va_runV (As := [.int (iI ((r : Nat) : Int))]) (rest := [.int (iI ((r : Nat) : Int)), .ref m0, .int (iI ((lsN (setF (fm (rw_ r a0 a1) (rw_ r a0 a1 0)) (1 * n) 1) 12 : Nat) : Int))]) ⟨hx, hb, hml, hown, hts⟩ (mX1_itself l dC dI cI m0 t0 k0 p0 a0 a1 K q (iI 0) w h0 h1 hw hq r (by omega)) (cwV 1 hts gX1_isDerived_X1_itself rfl rfl rfl hvX1_itself ⟨Nat.le_of_ble_eq_true rfl, Nat.le_of_ble_eq_true rfl⟩) (bW_pre (ci := 1) (q0 := 0) hK hP rfl rfl rfl) rfl rfl hl.1 rfl (lv_room (Nat.le_of_ble_eq_true rfl)) dX1_isDerived_90 ⟨Nat.le_of_ble_eq_true rfl, Nat.le_of_ble_eq_true rfl⟩) ?_
        have hr_90 := rw_lt h0 h1 r (i := 0) (by omega)
        refine ib_const hx hb dX1_isDerived_93 ?_
        refine lv_iload_n hx hb dX1_isDerived_94 rfl (lv_at hl 2 rfl) ?_
        refine rd_call (va_runV (As := [.int (iI ((r : Nat) : Int)), .int (iI ((rw_ r a0 a1 0 : Nat) : Int)), .int (iI 0), .int (iI 1)]) (rest := [.int (iI ((lsN (setF (fm (rw_ r a0 a1) (rw_ r a0 a1 0)) (1 * n) 1) 12 : Nat) : Int))]) ⟨hx, hb, hml, hown, hts⟩ (mX1_setOf l dC dI cI m0 t0 k0 p0 a0 a1 K q (iI 0) w h0 h1 hw hq r (rw_ r a0 a1 0) 0 1 (by omega) (by omega) (by omega)) (cwV 4 hts gX1_isDerived_X1_setOf rfl rfl rfl hvX1_setOf ⟨Nat.le_of_ble_eq_true rfl, Nat.le_of_ble_eq_true rfl⟩) (bW_pre (ci := 1) (q0 := 0) hK hP rfl rfl rfl) rfl rfl hl.1 rfl (lv_room (Nat.le_of_ble_eq_true rfl)) dX1_isDerived_95 ⟨Nat.le_of_ble_eq_true rfl, Nat.le_of_ble_eq_true rfl⟩) ?_
        have hs_95 := setF_lt (fm_lt (rw_ r a0 a1) (rw_ r a0 a1 0)) 0 1
        refine rd_call (va_runS (As := [.int (iI ((setF (fm (rw_ r a0 a1) (rw_ r a0 a1 0)) 0 1 : Nat) : Int))]) (rest := [.int (iI ((lsN (setF (fm (rw_ r a0 a1) (rw_ r a0 a1 0)) (1 * n) 1) 12 : Nat) : Int))]) ⟨hx, hb, hml, hown, hts⟩ (mX1_least l (setF (fm (rw_ r a0 a1) (rw_ r a0 a1 0)) 0 1) (by omega)) (va_cwS 1 hts gX1_isDerived_X1_least rfl rfl rfl hdX1_least ⟨Nat.le_of_ble_eq_true rfl, Nat.le_of_ble_eq_true rfl⟩) tt_pre rfl rfl hl.1 rfl (lv_room (Nat.le_of_ble_eq_true rfl)) dX1_isDerived_98 ⟨Nat.le_of_ble_eq_true rfl, Nat.le_of_ble_eq_true rfl⟩) ?_
        have hl_98 := lsN_le (setF (fm (rw_ r a0 a1) (rw_ r a0 a1 0)) 0 1) 12
        refine ib_icmp_ne (tgt := 108) hx hb dX1_isDerived_101 (by decide) ⟨by omega, by omega⟩ ⟨by omega, by omega⟩ (fun c_101 => ?_) (fun c_101 => ?_)
        · skip
          refine ib_const hx hb dX1_isDerived_108 ?_
          refine lv_istore (lv' := [(4, .int (iI 0)), (0, .ref m0), (1, .int (iI ((r : Nat) : Int))), (2, .int (iI 1)), (5, .int (iI ((1 * n : Nat) : Int)))]) hx hb dX1_isDerived_109 hl (by decide) rfl (fun ls hl => ?_)
          refine lv_iload hx hb dX1_isDerived_111 (lv_at hl 4 rfl) ?_
          refine lv_iload_n hx hb dX1_isDerived_113 rfl (lv_at hl 3 rfl) ?_
          refine ib_add (z := (((1 * n) + 1 : Nat) : Int)) hx hb dX1_isDerived_114 (by omega) ?_
          refine lv_istore (lv' := [(5, .int (iI (((1 * n) + 1 : Nat) : Int))), (4, .int (iI 0)), (0, .ref m0), (1, .int (iI ((r : Nat) : Int))), (2, .int (iI 1))]) hx hb dX1_isDerived_115 hl (by decide) rfl (fun ls hl => ?_)
          refine lv_goto (tgt := 58) hx hb dX1_isDerived_117 (by decide) ?_
          have hl : lv_has ls 6 [(5, .int (iI (((1 * n) + 1 : Nat) : Int))), (4, .int (iI (bI (alN (deB (rw_ r a0 a1) 1) (n + 1) = true)))), (0, .ref m0), (1, .int (iI ((r : Nat) : Int))), (2, .int (iI 1))] := by
            have e9 : iI 0 = iI (bI (alN (deB (rw_ r a0 a1) 1) (n + 1) = true)) := al_2 (decide_eq_false (by omega))
            rw [← e9]; exact hl
          have hl : lv_has ls 6 [(5, .int (iI ((1 * (n + 1) : Nat) : Int))), (4, .int (iI (bI (alN (deB (rw_ r a0 a1) 1) (n + 1) = true)))), (0, .ref m0), (1, .int (iI ((r : Nat) : Int))), (2, .int (iI 1))] := by
            have e9 : iI (((1 * n) + 1 : Nat) : Int) = iI ((1 * (n + 1) : Nat) : Int) := congrArg (fun z : Nat => iI ((z : Nat) : Int)) (show (1 * n) + 1 = 1 * (n + 1) by omega)
            rw [← e9]; exact hl
          exact ih_58_1 (n + 1) (by omega)  _ (lv_sub hl [2, 3, 4, 1, 0] rfl)
        · skip
          refine ib_const hx hb dX1_isDerived_104 ?_
          refine lv_goto (tgt := 109) hx hb dX1_isDerived_105 (by decide) ?_
          refine lv_istore (lv' := [(4, .int (iI 1)), (0, .ref m0), (1, .int (iI ((r : Nat) : Int))), (2, .int (iI 1)), (5, .int (iI ((1 * n : Nat) : Int)))]) hx hb dX1_isDerived_109 hl (by decide) rfl (fun ls hl => ?_)
          refine lv_iload hx hb dX1_isDerived_111 (lv_at hl 4 rfl) ?_
          refine lv_iload_n hx hb dX1_isDerived_113 rfl (lv_at hl 3 rfl) ?_
          refine ib_add (z := (((1 * n) + 1 : Nat) : Int)) hx hb dX1_isDerived_114 (by omega) ?_
          refine lv_istore (lv' := [(5, .int (iI (((1 * n) + 1 : Nat) : Int))), (4, .int (iI 1)), (0, .ref m0), (1, .int (iI ((r : Nat) : Int))), (2, .int (iI 1))]) hx hb dX1_isDerived_115 hl (by decide) rfl (fun ls hl => ?_)
          refine lv_goto (tgt := 58) hx hb dX1_isDerived_117 (by decide) ?_
          have hl : lv_has ls 6 [(5, .int (iI (((1 * n) + 1 : Nat) : Int))), (4, .int (iI (bI (alN (deB (rw_ r a0 a1) 1) (n + 1) = true)))), (0, .ref m0), (1, .int (iI ((r : Nat) : Int))), (2, .int (iI 1))] := by
            have e9 : iI 1 = iI (bI (alN (deB (rw_ r a0 a1) 1) (n + 1) = true)) := al_1 c_67 (decide_eq_true (by omega))
            rw [← e9]; exact hl
          have hl : lv_has ls 6 [(5, .int (iI ((1 * (n + 1) : Nat) : Int))), (4, .int (iI (bI (alN (deB (rw_ r a0 a1) 1) (n + 1) = true)))), (0, .ref m0), (1, .int (iI ((r : Nat) : Int))), (2, .int (iI 1))] := by
            have e9 : iI (((1 * n) + 1 : Nat) : Int) = iI ((1 * (n + 1) : Nat) : Int) := congrArg (fun z : Nat => iI ((z : Nat) : Int)) (show (1 * n) + 1 = 1 * (n + 1) by omega)
            rw [← e9]; exact hl
          exact ih_58_1 (n + 1) (by omega)  _ (lv_sub hl [2, 3, 4, 1, 0] rfl)
  exact lp_58_1 12 0 (by omega)  _ (lv_sub hl [3, 4, 5, 1, 0] rfl)

set_option maxHeartbeats 4000000 in
set_option maxRecDepth 100000 in
theorem mX1_isDerived_ok2 (l : Launch) (dC : Nat → ClassId) (dI : Nat → Nat → Nat) (cI : ClassId) (m0 t0 k0 p0 : Nat) (a0 a1 K q : Nat → Nat) (th : Int32) (w : Nat) (h0 : lt12 a0) (h1 : lt12 a1) (hw : w ≤ 12) (hq : ∀ i, i < w → q i < 12) (r : Nat) (hr9 : r < 2) : wr l yX1_isDerived wsX1_isDerived { frames := 3, cells := 0, slots := 0, locals := 74 } [.ref m0, .int (iI ((r : Nat) : Int)), .int (iI 2)] (dC, dI) [(m0, .inr (1, [.int th, .ref t0, .ref k0, .ref p0, .int (iI ((w : Nat) : Int))])), (t0, .inl (cI, 24, .inl (fun j => iI ((tb a0 a1 j : Nat) : Int)))), (k0, .inl (cI, 12, .inl (fun j => iI ((K j : Nat) : Int)))), (p0, .inl (cI, 12, .inl (fun j => iI ((q j : Nat) : Int))))] [(cI, .int)] [(m0, .inr (1, [.int (iI 0), .ref t0, .ref k0, .ref p0, .int (iI ((w : Nat) : Int))])), (t0, .inl (cI, 24, .inl (fun j => iI ((tb a0 a1 j : Nat) : Int)))), (k0, .inl (cI, 12, .inl (fun j => iI ((K j : Nat) : Int)))), (p0, .inl (cI, 12, .inl (fun j => iI ((q j : Nat) : Int))))] (some (.int (iI (bI (alN (deB (rw_ r a0 a1) 2) 6 = true))))) := by
  refine Met.ofW (cc := cX1_isDerived) (maxL := 6) (ret := (some .boolean)) (by decide) rfl ?_
  intro P0 e s m args below meth c s₁ B hml hv
  obtain ⟨rfl, hP, hK, hD0⟩ := hv
  have hx := B.exec
  have hb := B.bytes
  have hr := B.returns
  have hts := atoms_spec (ws := wsX1_isDerived) B.pre
  have hown : s.vm.findClass RX1 = some m.cls := findClass_of_methodNamed B.named
  have hlocks := B.notSynchronized
  have hinX : ∀ w ∈ u_ws RX1 TX1 5, w ∈ wsX1_isDerived := by decide +kernel
  have hD : va_D (inW [(m0, .inr (1, [.int th, .ref t0, .ref k0, .ref p0, .int (iI ((w : Nat) : Int))])), (t0, .inl (cI, 24, .inl (fun j => iI ((tb a0 a1 j : Nat) : Int)))), (k0, .inl (cI, 12, .inl (fun j => iI ((K j : Nat) : Int)))), (p0, .inl (cI, 12, .inl (fun j => iI ((q j : Nat) : Int))))]) [(m0, .inr (1, [.int th, .ref t0, .ref k0, .ref p0, .int (iI ((w : Nat) : Int))])), (t0, .inl (cI, 24, .inl (fun j => iI ((tb a0 a1 j : Nat) : Int)))), (k0, .inl (cI, 12, .inl (fun j => iI ((K j : Nat) : Int)))), (p0, .inl (cI, 12, .inl (fun j => iI ((q j : Nat) : Int))))] := va_D_in hD0
  have hS : va_S (inW [(m0, .inr (1, [.int th, .ref t0, .ref k0, .ref p0, .int (iI ((w : Nat) : Int))])), (t0, .inl (cI, 24, .inl (fun j => iI ((tb a0 a1 j : Nat) : Int)))), (k0, .inl (cI, 12, .inl (fun j => iI ((K j : Nat) : Int)))), (p0, .inl (cI, 12, .inl (fun j => iI ((q j : Nat) : Int))))]) s.heap s.heap [] := va_S.rf
  have hl := lv_entry ([.ref m0, .int (iI ((r : Nat) : Int)), .int (iI 2)]) (n := 6) (Nat.le_of_ble_eq_true rfl)
  rw [lg_entry_eq]
  generalize (lg_sl ([.ref m0, .int (iI ((r : Nat) : Int)), .int (iI 2)]) ++ List.replicate (6 - (lg_sl ([.ref m0, .int (iI ((r : Nat) : Int)), .int (iI 2)])).length) Slot.unset).toArray = ls at hl ⊢
  have hl : lv_has ls 6 [(0, .ref m0), (1, .int (iI ((r : Nat) : Int))), (2, .int (iI 2))] := hl
  refine lv_iload_n hx hb dX1_isDerived_0 rfl (lv_at hl 2 rfl) ?_
  refine ib_const hx hb dX1_isDerived_1 ?_
  refine ib_bi hx hb dX1_isDerived_2 (by decide) ?_
  refine rd_call (va_runS (As := [.int (iI 2), .int (iI 1), .int (iI 12)]) (rest := []) ⟨hx, hb, hml, hown, hts⟩ (mX1_in l 2 1 12 ⟨by omega, by omega⟩ ⟨by omega, by omega⟩ ⟨by omega, by omega⟩) (va_cwS 3 hts gX1_isDerived_X1_in rfl rfl rfl hdX1_in ⟨Nat.le_of_ble_eq_true rfl, Nat.le_of_ble_eq_true rfl⟩) tt_pre rfl rfl hl.1 rfl (lv_room (Nat.le_of_ble_eq_true rfl)) dX1_isDerived_4 ⟨Nat.le_of_ble_eq_true rfl, Nat.le_of_ble_eq_true rfl⟩) ?_
  refine bb_eq (tgt := 21) hx hb dX1_isDerived_7 (by decide) (fun c_7 => absurd c_7 (by omega)) (fun c_7 => ?_)
  refine ib_bi hx hb dX1_isDerived_10 (by decide) ?_
  refine lv_iload_n hx hb dX1_isDerived_12 rfl (lv_at hl 2 rfl) ?_
  refine ib_rem (z := 0) hx hb dX1_isDerived_13 (by omega) (by omega) (by omega) (by omega) (by first | omega | rfl) ?_
  refine ib_if_ne (tgt := 21) hx hb dX1_isDerived_14 (by decide) ⟨by omega, by omega⟩ (fun c_14 => absurd c_14 (by decide)) (fun c_14 => ?_)
  refine ib_const hx hb dX1_isDerived_17 ?_
  refine lv_goto (tgt := 22) hx hb dX1_isDerived_18 (by decide) ?_
  refine lv_istore_n (lv' := [(3, .int (iI 1)), (0, .ref m0), (1, .int (iI ((r : Nat) : Int))), (2, .int (iI 2))]) hx hb dX1_isDerived_22 rfl hl (by decide) rfl (fun ls hl => ?_)
  refine lv_aload_n hx hb dX1_isDerived_23 rfl (lv_at hl 1 rfl) ?_
  refine lv_iload_n hx hb dX1_isDerived_24 rfl (lv_at hl 2 rfl) ?_
  refine rd_call (va_runS (As := [.int (iI ((r : Nat) : Int))]) (rest := [.ref m0]) ⟨hx, hb, hml, hown, hts⟩ (mX1_isRow l ((r : Nat) : Int) ⟨by omega, by omega⟩) (va_cwS 1 hts gX1_isDerived_X1_isRow rfl rfl rfl hdX1_isRow ⟨Nat.le_of_ble_eq_true rfl, Nat.le_of_ble_eq_true rfl⟩) tt_pre rfl rfl hl.1 rfl (lv_room (Nat.le_of_ble_eq_true rfl)) dX1_isDerived_25 ⟨Nat.le_of_ble_eq_true rfl, Nat.le_of_ble_eq_true rfl⟩) ?_
  refine bb_ne (tgt := 35) hx hb dX1_isDerived_28 (by decide) (fun c_28 => ?_) (fun c_28 => absurd c_28 (by omega))
  refine lv_iload_n hx hb dX1_isDerived_35 rfl (lv_at hl 0 rfl) ?_
  refine ib_if_eq (tgt := 43) hx hb dX1_isDerived_36 (by decide) ⟨by omega, by omega⟩ (fun c_36 => absurd c_36 (by decide)) (fun c_36 => ?_)
  refine ib_const hx hb dX1_isDerived_39 ?_
  refine lv_goto (tgt := 44) hx hb dX1_isDerived_40 (by decide) ?_
  refine wr_call (va_runV (As := [.int (iI 0)]) (rest := []) ⟨hx, hb, hml, hown, hts⟩ (mX1_goesWell l dC dI cI m0 t0 k0 p0 a0 a1 K q th w h0 h1 hw hq 0 ⟨by omega, by omega⟩) (cwV 1 hts gX1_isDerived_X1_goesWell rfl rfl rfl hvX1_goesWell ⟨Nat.le_of_ble_eq_true rfl, Nat.le_of_ble_eq_true rfl⟩) (bD_pre (ci := 1) (q0 := 0) hK hP hD rfl rfl rfl) rfl rfl hl.1 rfl (lv_room (Nat.le_of_ble_eq_true rfl)) dX1_isDerived_44 ⟨Nat.le_of_ble_eq_true rfl, Nat.le_of_ble_eq_true rfl⟩) hS (fun q9 h => inW_same (w := [(m0, .inr (1, [.int th, .ref t0, .ref k0, .ref p0, .int (iI ((w : Nat) : Int))])), (t0, .inl (cI, 24, .inl (fun j => iI ((tb a0 a1 j : Nat) : Int)))), (k0, .inl (cI, 12, .inl (fun j => iI ((K j : Nat) : Int)))), (p0, .inl (cI, 12, .inl (fun j => iI ((q j : Nat) : Int))))]) (w' := [(m0, .inr (1, [.int th, .ref t0, .ref k0, .ref p0, .int (iI ((w : Nat) : Int))])), (t0, .inl (cI, 24, .inl (fun j => iI ((tb a0 a1 j : Nat) : Int)))), (k0, .inl (cI, 12, .inl (fun j => iI ((K j : Nat) : Int)))), (p0, .inl (cI, 12, .inl (fun j => iI ((q j : Nat) : Int))))]) rfl h) (fun H locs hP hz hk hS => ?_)
  have hD : va_D (inW [(m0, .inr (1, [.int th, .ref t0, .ref k0, .ref p0, .int (iI ((w : Nat) : Int))])), (t0, .inl (cI, 24, .inl (fun j => iI ((tb a0 a1 j : Nat) : Int)))), (k0, .inl (cI, 12, .inl (fun j => iI ((K j : Nat) : Int)))), (p0, .inl (cI, 12, .inl (fun j => iI ((q j : Nat) : Int))))]) [(m0, .inr (1, [.int (iI 0), .ref t0, .ref k0, .ref p0, .int (iI ((w : Nat) : Int))])), (t0, .inl (cI, 24, .inl (fun j => iI ((tb a0 a1 j : Nat) : Int)))), (k0, .inl (cI, 12, .inl (fun j => iI ((K j : Nat) : Int)))), (p0, .inl (cI, 12, .inl (fun j => iI ((q j : Nat) : Int))))] := va_D_same (w := [(m0, .inr (1, [.int th, .ref t0, .ref k0, .ref p0, .int (iI ((w : Nat) : Int))])), (t0, .inl (cI, 24, .inl (fun j => iI ((tb a0 a1 j : Nat) : Int)))), (k0, .inl (cI, 12, .inl (fun j => iI ((K j : Nat) : Int)))), (p0, .inl (cI, 12, .inl (fun j => iI ((q j : Nat) : Int))))]) rfl hD
  refine st_i (y := iI 1) (congrArg iI (bI_t (by decide))) ?_
  refine ib_if_ne (tgt := 52) hx hb dX1_isDerived_47 (by decide) ⟨by omega, by omega⟩ (fun c_47 => ?_) (fun c_47 => absurd c_47 (by decide))
  refine ib_const hx hb dX1_isDerived_52 ?_
  refine lv_istore (lv' := [(4, .int (iI 1)), (3, .int (iI 1)), (0, .ref m0), (1, .int (iI ((r : Nat) : Int))), (2, .int (iI 2))]) hx hb dX1_isDerived_53 hl (by decide) rfl (fun ls hl => ?_)
  have hl : lv_has ls 6 [(4, .int (iI (bI (alN (deB (rw_ r a0 a1) 2) 0 = true)))), (3, .int (iI 1)), (0, .ref m0), (1, .int (iI ((r : Nat) : Int))), (2, .int (iI 2))] := by
    have e9 : iI 1 = iI (bI (alN (deB (rw_ r a0 a1) 2) 0 = true)) := congrArg iI (bI_t (by simp [alN])).symm
    rw [← e9]; exact hl
  refine ib_const hx hb dX1_isDerived_55 ?_
  refine lv_istore (lv' := [(5, .int (iI 0)), (4, .int (iI (bI (alN (deB (rw_ r a0 a1) 2) 0 = true)))), (3, .int (iI 1)), (0, .ref m0), (1, .int (iI ((r : Nat) : Int))), (2, .int (iI 2))]) hx hb dX1_isDerived_56 hl (by decide) rfl (fun ls hl => ?_)
  have lp_58_1 : ∀ (j n : Nat), n + j = 6 → ∀ ls : Array Slot, lv_has ls 6 [(0, .ref m0), (1, .int (iI ((r : Nat) : Int))), (2, .int (iI 2)), (4, .int (iI (bI (alN (deB (rw_ r a0 a1) 2) n = true)))), (5, .int (iI ((2 * n : Nat) : Int)))] → W P0 l e (headSpec wsX1_isDerived { frames := 3, cells := 0, slots := 0, locals := 74 }).room s m ([.ref m0, .int (iI ((r : Nat) : Int)), .int (iI 2)] : List Value).toArray below meth c H locs 0 0 (MQ below (wrQ (dC, dI) (inW [(m0, .inr (1, [.int th, .ref t0, .ref k0, .ref p0, .int (iI ((w : Nat) : Int))])), (t0, .inl (cI, 24, .inl (fun j => iI ((tb a0 a1 j : Nat) : Int)))), (k0, .inl (cI, 12, .inl (fun j => iI ((K j : Nat) : Int)))), (p0, .inl (cI, 12, .inl (fun j => iI ((q j : Nat) : Int))))]) [(m0, .inr (1, [.int (iI 0), .ref t0, .ref k0, .ref p0, .int (iI ((w : Nat) : Int))])), (t0, .inl (cI, 24, .inl (fun j => iI ((tb a0 a1 j : Nat) : Int)))), (k0, .inl (cI, 12, .inl (fun j => iI ((K j : Nat) : Int)))), (p0, .inl (cI, 12, .inl (fun j => iI ((q j : Nat) : Int))))] (some (.int (iI (bI (alN (deB (rw_ r a0 a1) 2) 6 = true)))))) ([.ref m0, .int (iI ((r : Nat) : Int)), .int (iI 2)] : List Value).toArray s 0 0 (inW [(m0, .inr (1, [.int th, .ref t0, .ref k0, .ref p0, .int (iI ((w : Nat) : Int))])), (t0, .inl (cI, 24, .inl (fun j => iI ((tb a0 a1 j : Nat) : Int)))), (k0, .inl (cI, 12, .inl (fun j => iI ((K j : Nat) : Int)))), (p0, .inl (cI, 12, .inl (fun j => iI ((q j : Nat) : Int))))])) (F0 m 58 ls []) := by
    intro j
    induction j with
    | zero =>
      intro n hn_58  ls hl
      refine lv_iload hx hb dX1_isDerived_58 (lv_at hl 4 rfl) ?_
      refine ib_bi hx hb dX1_isDerived_60 (by decide) ?_
      refine ib_icmp_ge (tgt := 120) hx hb dX1_isDerived_62 (by decide) ⟨by omega, by omega⟩ ⟨by omega, by omega⟩ (fun c_62 => ?_) (fun c_62 => absurd c_62 (by omega))
      refine lv_iload hx hb dX1_isDerived_120 (lv_at hl 3 rfl) ?_
      refine st_i (y := iI (bI (alN (deB (rw_ r a0 a1) 2) 6 = true))) (congrArg iI (bI_eq (by rw [show n = 6 by omega]))) ?_
      exact W.zret hx hb hr (bI_nar _) (fun t ht _ => ⟨rfl, by rw [ht]; exact hP, hS.F ht⟩) hS.2.2 dX1_isDerived_122
    | succ j ih_58_1 =>
      intro n hn_58  ls hl
      refine lv_iload hx hb dX1_isDerived_58 (lv_at hl 4 rfl) ?_
      refine ib_bi hx hb dX1_isDerived_60 (by decide) ?_
      refine ib_icmp_ge (tgt := 120) hx hb dX1_isDerived_62 (by decide) ⟨by omega, by omega⟩ ⟨by omega, by omega⟩ (fun c_62 => absurd c_62 (by omega)) (fun c_62 => ?_)
      refine lv_iload hx hb dX1_isDerived_65 (lv_at hl 3 rfl) ?_
      refine bb_eq (tgt := 108) hx hb dX1_isDerived_67 (by decide) (fun c_67 => ?_) (fun c_67 => ?_)
      · skip
        refine ib_const hx hb dX1_isDerived_108 ?_
        refine lv_istore (lv' := [(4, .int (iI 0)), (0, .ref m0), (1, .int (iI ((r : Nat) : Int))), (2, .int (iI 2)), (5, .int (iI ((2 * n : Nat) : Int)))]) hx hb dX1_isDerived_109 hl (by decide) rfl (fun ls hl => ?_)
        refine lv_iload hx hb dX1_isDerived_111 (lv_at hl 4 rfl) ?_
        refine lv_iload_n hx hb dX1_isDerived_113 rfl (lv_at hl 3 rfl) ?_
        refine ib_add (z := (((2 * n) + 2 : Nat) : Int)) hx hb dX1_isDerived_114 (by omega) ?_
        refine lv_istore (lv' := [(5, .int (iI (((2 * n) + 2 : Nat) : Int))), (4, .int (iI 0)), (0, .ref m0), (1, .int (iI ((r : Nat) : Int))), (2, .int (iI 2))]) hx hb dX1_isDerived_115 hl (by decide) rfl (fun ls hl => ?_)
        refine lv_goto (tgt := 58) hx hb dX1_isDerived_117 (by decide) ?_
        have hl : lv_has ls 6 [(5, .int (iI (((2 * n) + 2 : Nat) : Int))), (4, .int (iI (bI (alN (deB (rw_ r a0 a1) 2) (n + 1) = true)))), (0, .ref m0), (1, .int (iI ((r : Nat) : Int))), (2, .int (iI 2))] := by
          have e9 : iI 0 = iI (bI (alN (deB (rw_ r a0 a1) 2) (n + 1) = true)) := al_0 c_67
          rw [← e9]; exact hl
        have hl : lv_has ls 6 [(5, .int (iI ((2 * (n + 1) : Nat) : Int))), (4, .int (iI (bI (alN (deB (rw_ r a0 a1) 2) (n + 1) = true)))), (0, .ref m0), (1, .int (iI ((r : Nat) : Int))), (2, .int (iI 2))] := by
          have e9 : iI (((2 * n) + 2 : Nat) : Int) = iI ((2 * (n + 1) : Nat) : Int) := congrArg (fun z : Nat => iI ((z : Nat) : Int)) (show (2 * n) + 2 = 2 * (n + 1) by omega)
          rw [← e9]; exact hl
        exact ih_58_1 (n + 1) (by omega)  _ (lv_sub hl [2, 3, 4, 1, 0] rfl)
      · skip
        refine lv_aload_n hx hb dX1_isDerived_70 rfl (lv_at hl 0 rfl) ?_
        refine lv_iload_n hx hb dX1_isDerived_71 rfl (lv_at hl 1 rfl) ?_
        refine lv_aload_n hx hb dX1_isDerived_72 rfl (lv_at hl 0 rfl) ?_
        refine lv_iload_n hx hb dX1_isDerived_73 rfl (lv_at hl 1 rfl) ?_
        refine rd_call (va_runV (As := [.int (iI ((r : Nat) : Int))]) (rest := [.int (iI ((r : Nat) : Int)), .ref m0]) ⟨hx, hb, hml, hown, hts⟩ (mX1_itself l dC dI cI m0 t0 k0 p0 a0 a1 K q (iI 0) w h0 h1 hw hq r (by omega)) (cwV 1 hts gX1_isDerived_X1_itself rfl rfl rfl hvX1_itself ⟨Nat.le_of_ble_eq_true rfl, Nat.le_of_ble_eq_true rfl⟩) (bW_pre (ci := 1) (q0 := 0) hK hP rfl rfl rfl) rfl rfl hl.1 rfl (lv_room (Nat.le_of_ble_eq_true rfl)) dX1_isDerived_74 ⟨Nat.le_of_ble_eq_true rfl, Nat.le_of_ble_eq_true rfl⟩) ?_
        have hr_74 := rw_lt h0 h1 r (i := 0) (by omega)
        refine lv_iload hx hb dX1_isDerived_77 (lv_at hl 4 rfl) ?_
        refine lv_iload_n hx hb dX1_isDerived_79 rfl (lv_at hl 2 rfl) ?_
        refine rd_call (va_runV (As := [.int (iI ((r : Nat) : Int)), .int (iI ((rw_ r a0 a1 0 : Nat) : Int)), .int (iI ((2 * n : Nat) : Int)), .int (iI 2)]) (rest := []) ⟨hx, hb, hml, hown, hts⟩ (mX1_setOf l dC dI cI m0 t0 k0 p0 a0 a1 K q (iI 0) w h0 h1 hw hq r (rw_ r a0 a1 0) (2 * n) 2 (by omega) (by omega) (by omega)) (cwV 4 hts gX1_isDerived_X1_setOf rfl rfl rfl hvX1_setOf ⟨Nat.le_of_ble_eq_true rfl, Nat.le_of_ble_eq_true rfl⟩) (bW_pre (ci := 1) (q0 := 0) hK hP rfl rfl rfl) rfl rfl hl.1 rfl (lv_room (Nat.le_of_ble_eq_true rfl)) dX1_isDerived_80 ⟨Nat.le_of_ble_eq_true rfl, Nat.le_of_ble_eq_true rfl⟩) ?_
        have hs_80 := setF_lt (fm_lt (rw_ r a0 a1) (rw_ r a0 a1 0)) (2 * n) 2
        refine rd_call (va_runS (As := [.int (iI ((setF (fm (rw_ r a0 a1) (rw_ r a0 a1 0)) (2 * n) 2 : Nat) : Int))]) (rest := []) ⟨hx, hb, hml, hown, hts⟩ (mX1_least l (setF (fm (rw_ r a0 a1) (rw_ r a0 a1 0)) (2 * n) 2) (by omega)) (va_cwS 1 hts gX1_isDerived_X1_least rfl rfl rfl hdX1_least ⟨Nat.le_of_ble_eq_true rfl, Nat.le_of_ble_eq_true rfl⟩) tt_pre rfl rfl hl.1 rfl (lv_room (Nat.le_of_ble_eq_true rfl)) dX1_isDerived_83 ⟨Nat.le_of_ble_eq_true rfl, Nat.le_of_ble_eq_true rfl⟩) ?_
        have hl_83 := lsN_le (setF (fm (rw_ r a0 a1) (rw_ r a0 a1 0)) (2 * n) 2) 12
        refine lv_aload_n hx hb dX1_isDerived_86 rfl (lv_at hl 0 rfl) ?_
        refine lv_iload_n hx hb dX1_isDerived_87 rfl (lv_at hl 1 rfl) ?_
        refine lv_aload_n hx hb dX1_isDerived_88 rfl (lv_at hl 0 rfl) ?_
        refine lv_iload_n hx hb dX1_isDerived_89 rfl (lv_at hl 1 rfl) ?_
        refine rd_call (va_runV (As := [.int (iI ((r : Nat) : Int))]) (rest := [.int (iI ((r : Nat) : Int)), .ref m0, .int (iI ((lsN (setF (fm (rw_ r a0 a1) (rw_ r a0 a1 0)) (2 * n) 2) 12 : Nat) : Int))]) ⟨hx, hb, hml, hown, hts⟩ (mX1_itself l dC dI cI m0 t0 k0 p0 a0 a1 K q (iI 0) w h0 h1 hw hq r (by omega)) (cwV 1 hts gX1_isDerived_X1_itself rfl rfl rfl hvX1_itself ⟨Nat.le_of_ble_eq_true rfl, Nat.le_of_ble_eq_true rfl⟩) (bW_pre (ci := 1) (q0 := 0) hK hP rfl rfl rfl) rfl rfl hl.1 rfl (lv_room (Nat.le_of_ble_eq_true rfl)) dX1_isDerived_90 ⟨Nat.le_of_ble_eq_true rfl, Nat.le_of_ble_eq_true rfl⟩) ?_
        have hr_90 := rw_lt h0 h1 r (i := 0) (by omega)
        refine ib_const hx hb dX1_isDerived_93 ?_
        refine lv_iload_n hx hb dX1_isDerived_94 rfl (lv_at hl 2 rfl) ?_
        refine rd_call (va_runV (As := [.int (iI ((r : Nat) : Int)), .int (iI ((rw_ r a0 a1 0 : Nat) : Int)), .int (iI 0), .int (iI 2)]) (rest := [.int (iI ((lsN (setF (fm (rw_ r a0 a1) (rw_ r a0 a1 0)) (2 * n) 2) 12 : Nat) : Int))]) ⟨hx, hb, hml, hown, hts⟩ (mX1_setOf l dC dI cI m0 t0 k0 p0 a0 a1 K q (iI 0) w h0 h1 hw hq r (rw_ r a0 a1 0) 0 2 (by omega) (by omega) (by omega)) (cwV 4 hts gX1_isDerived_X1_setOf rfl rfl rfl hvX1_setOf ⟨Nat.le_of_ble_eq_true rfl, Nat.le_of_ble_eq_true rfl⟩) (bW_pre (ci := 1) (q0 := 0) hK hP rfl rfl rfl) rfl rfl hl.1 rfl (lv_room (Nat.le_of_ble_eq_true rfl)) dX1_isDerived_95 ⟨Nat.le_of_ble_eq_true rfl, Nat.le_of_ble_eq_true rfl⟩) ?_
        have hs_95 := setF_lt (fm_lt (rw_ r a0 a1) (rw_ r a0 a1 0)) 0 2
        refine rd_call (va_runS (As := [.int (iI ((setF (fm (rw_ r a0 a1) (rw_ r a0 a1 0)) 0 2 : Nat) : Int))]) (rest := [.int (iI ((lsN (setF (fm (rw_ r a0 a1) (rw_ r a0 a1 0)) (2 * n) 2) 12 : Nat) : Int))]) ⟨hx, hb, hml, hown, hts⟩ (mX1_least l (setF (fm (rw_ r a0 a1) (rw_ r a0 a1 0)) 0 2) (by omega)) (va_cwS 1 hts gX1_isDerived_X1_least rfl rfl rfl hdX1_least ⟨Nat.le_of_ble_eq_true rfl, Nat.le_of_ble_eq_true rfl⟩) tt_pre rfl rfl hl.1 rfl (lv_room (Nat.le_of_ble_eq_true rfl)) dX1_isDerived_98 ⟨Nat.le_of_ble_eq_true rfl, Nat.le_of_ble_eq_true rfl⟩) ?_
        have hl_98 := lsN_le (setF (fm (rw_ r a0 a1) (rw_ r a0 a1 0)) 0 2) 12
        refine ib_icmp_ne (tgt := 108) hx hb dX1_isDerived_101 (by decide) ⟨by omega, by omega⟩ ⟨by omega, by omega⟩ (fun c_101 => ?_) (fun c_101 => ?_)
        · skip
          refine ib_const hx hb dX1_isDerived_108 ?_
          refine lv_istore (lv' := [(4, .int (iI 0)), (0, .ref m0), (1, .int (iI ((r : Nat) : Int))), (2, .int (iI 2)), (5, .int (iI ((2 * n : Nat) : Int)))]) hx hb dX1_isDerived_109 hl (by decide) rfl (fun ls hl => ?_)
          refine lv_iload hx hb dX1_isDerived_111 (lv_at hl 4 rfl) ?_
          refine lv_iload_n hx hb dX1_isDerived_113 rfl (lv_at hl 3 rfl) ?_
          refine ib_add (z := (((2 * n) + 2 : Nat) : Int)) hx hb dX1_isDerived_114 (by omega) ?_
          refine lv_istore (lv' := [(5, .int (iI (((2 * n) + 2 : Nat) : Int))), (4, .int (iI 0)), (0, .ref m0), (1, .int (iI ((r : Nat) : Int))), (2, .int (iI 2))]) hx hb dX1_isDerived_115 hl (by decide) rfl (fun ls hl => ?_)
          refine lv_goto (tgt := 58) hx hb dX1_isDerived_117 (by decide) ?_
          have hl : lv_has ls 6 [(5, .int (iI (((2 * n) + 2 : Nat) : Int))), (4, .int (iI (bI (alN (deB (rw_ r a0 a1) 2) (n + 1) = true)))), (0, .ref m0), (1, .int (iI ((r : Nat) : Int))), (2, .int (iI 2))] := by
            have e9 : iI 0 = iI (bI (alN (deB (rw_ r a0 a1) 2) (n + 1) = true)) := al_2 (decide_eq_false (by omega))
            rw [← e9]; exact hl
          have hl : lv_has ls 6 [(5, .int (iI ((2 * (n + 1) : Nat) : Int))), (4, .int (iI (bI (alN (deB (rw_ r a0 a1) 2) (n + 1) = true)))), (0, .ref m0), (1, .int (iI ((r : Nat) : Int))), (2, .int (iI 2))] := by
            have e9 : iI (((2 * n) + 2 : Nat) : Int) = iI ((2 * (n + 1) : Nat) : Int) := congrArg (fun z : Nat => iI ((z : Nat) : Int)) (show (2 * n) + 2 = 2 * (n + 1) by omega)
            rw [← e9]; exact hl
          exact ih_58_1 (n + 1) (by omega)  _ (lv_sub hl [2, 3, 4, 1, 0] rfl)
        · skip
          refine ib_const hx hb dX1_isDerived_104 ?_
          refine lv_goto (tgt := 109) hx hb dX1_isDerived_105 (by decide) ?_
          refine lv_istore (lv' := [(4, .int (iI 1)), (0, .ref m0), (1, .int (iI ((r : Nat) : Int))), (2, .int (iI 2)), (5, .int (iI ((2 * n : Nat) : Int)))]) hx hb dX1_isDerived_109 hl (by decide) rfl (fun ls hl => ?_)
          refine lv_iload hx hb dX1_isDerived_111 (lv_at hl 4 rfl) ?_
          refine lv_iload_n hx hb dX1_isDerived_113 rfl (lv_at hl 3 rfl) ?_
          refine ib_add (z := (((2 * n) + 2 : Nat) : Int)) hx hb dX1_isDerived_114 (by omega) ?_
          refine lv_istore (lv' := [(5, .int (iI (((2 * n) + 2 : Nat) : Int))), (4, .int (iI 1)), (0, .ref m0), (1, .int (iI ((r : Nat) : Int))), (2, .int (iI 2))]) hx hb dX1_isDerived_115 hl (by decide) rfl (fun ls hl => ?_)
          refine lv_goto (tgt := 58) hx hb dX1_isDerived_117 (by decide) ?_
          have hl : lv_has ls 6 [(5, .int (iI (((2 * n) + 2 : Nat) : Int))), (4, .int (iI (bI (alN (deB (rw_ r a0 a1) 2) (n + 1) = true)))), (0, .ref m0), (1, .int (iI ((r : Nat) : Int))), (2, .int (iI 2))] := by
            have e9 : iI 1 = iI (bI (alN (deB (rw_ r a0 a1) 2) (n + 1) = true)) := al_1 c_67 (decide_eq_true (by omega))
            rw [← e9]; exact hl
          have hl : lv_has ls 6 [(5, .int (iI ((2 * (n + 1) : Nat) : Int))), (4, .int (iI (bI (alN (deB (rw_ r a0 a1) 2) (n + 1) = true)))), (0, .ref m0), (1, .int (iI ((r : Nat) : Int))), (2, .int (iI 2))] := by
            have e9 : iI (((2 * n) + 2 : Nat) : Int) = iI ((2 * (n + 1) : Nat) : Int) := congrArg (fun z : Nat => iI ((z : Nat) : Int)) (show (2 * n) + 2 = 2 * (n + 1) by omega)
            rw [← e9]; exact hl
          exact ih_58_1 (n + 1) (by omega)  _ (lv_sub hl [2, 3, 4, 1, 0] rfl)
  exact lp_58_1 6 0 (by omega)  _ (lv_sub hl [3, 4, 5, 1, 0] rfl)

set_option maxHeartbeats 4000000 in
set_option maxRecDepth 100000 in
theorem mX1_isDerived_ok3 (l : Launch) (dC : Nat → ClassId) (dI : Nat → Nat → Nat) (cI : ClassId) (m0 t0 k0 p0 : Nat) (a0 a1 K q : Nat → Nat) (th : Int32) (w : Nat) (h0 : lt12 a0) (h1 : lt12 a1) (hw : w ≤ 12) (hq : ∀ i, i < w → q i < 12) (r : Nat) (hr9 : r < 2) : wr l yX1_isDerived wsX1_isDerived { frames := 3, cells := 0, slots := 0, locals := 74 } [.ref m0, .int (iI ((r : Nat) : Int)), .int (iI 3)] (dC, dI) [(m0, .inr (1, [.int th, .ref t0, .ref k0, .ref p0, .int (iI ((w : Nat) : Int))])), (t0, .inl (cI, 24, .inl (fun j => iI ((tb a0 a1 j : Nat) : Int)))), (k0, .inl (cI, 12, .inl (fun j => iI ((K j : Nat) : Int)))), (p0, .inl (cI, 12, .inl (fun j => iI ((q j : Nat) : Int))))] [(cI, .int)] [(m0, .inr (1, [.int (iI 0), .ref t0, .ref k0, .ref p0, .int (iI ((w : Nat) : Int))])), (t0, .inl (cI, 24, .inl (fun j => iI ((tb a0 a1 j : Nat) : Int)))), (k0, .inl (cI, 12, .inl (fun j => iI ((K j : Nat) : Int)))), (p0, .inl (cI, 12, .inl (fun j => iI ((q j : Nat) : Int))))] (some (.int (iI (bI (alN (deB (rw_ r a0 a1) 3) 4 = true))))) := by
  refine Met.ofW (cc := cX1_isDerived) (maxL := 6) (ret := (some .boolean)) (by decide) rfl ?_
  intro P0 e s m args below meth c s₁ B hml hv
  obtain ⟨rfl, hP, hK, hD0⟩ := hv
  have hx := B.exec
  have hb := B.bytes
  have hr := B.returns
  have hts := atoms_spec (ws := wsX1_isDerived) B.pre
  have hown : s.vm.findClass RX1 = some m.cls := findClass_of_methodNamed B.named
  have hlocks := B.notSynchronized
  have hinX : ∀ w ∈ u_ws RX1 TX1 5, w ∈ wsX1_isDerived := by decide +kernel
  have hD : va_D (inW [(m0, .inr (1, [.int th, .ref t0, .ref k0, .ref p0, .int (iI ((w : Nat) : Int))])), (t0, .inl (cI, 24, .inl (fun j => iI ((tb a0 a1 j : Nat) : Int)))), (k0, .inl (cI, 12, .inl (fun j => iI ((K j : Nat) : Int)))), (p0, .inl (cI, 12, .inl (fun j => iI ((q j : Nat) : Int))))]) [(m0, .inr (1, [.int th, .ref t0, .ref k0, .ref p0, .int (iI ((w : Nat) : Int))])), (t0, .inl (cI, 24, .inl (fun j => iI ((tb a0 a1 j : Nat) : Int)))), (k0, .inl (cI, 12, .inl (fun j => iI ((K j : Nat) : Int)))), (p0, .inl (cI, 12, .inl (fun j => iI ((q j : Nat) : Int))))] := va_D_in hD0
  have hS : va_S (inW [(m0, .inr (1, [.int th, .ref t0, .ref k0, .ref p0, .int (iI ((w : Nat) : Int))])), (t0, .inl (cI, 24, .inl (fun j => iI ((tb a0 a1 j : Nat) : Int)))), (k0, .inl (cI, 12, .inl (fun j => iI ((K j : Nat) : Int)))), (p0, .inl (cI, 12, .inl (fun j => iI ((q j : Nat) : Int))))]) s.heap s.heap [] := va_S.rf
  have hl := lv_entry ([.ref m0, .int (iI ((r : Nat) : Int)), .int (iI 3)]) (n := 6) (Nat.le_of_ble_eq_true rfl)
  rw [lg_entry_eq]
  generalize (lg_sl ([.ref m0, .int (iI ((r : Nat) : Int)), .int (iI 3)]) ++ List.replicate (6 - (lg_sl ([.ref m0, .int (iI ((r : Nat) : Int)), .int (iI 3)])).length) Slot.unset).toArray = ls at hl ⊢
  have hl : lv_has ls 6 [(0, .ref m0), (1, .int (iI ((r : Nat) : Int))), (2, .int (iI 3))] := hl
  refine lv_iload_n hx hb dX1_isDerived_0 rfl (lv_at hl 2 rfl) ?_
  refine ib_const hx hb dX1_isDerived_1 ?_
  refine ib_bi hx hb dX1_isDerived_2 (by decide) ?_
  refine rd_call (va_runS (As := [.int (iI 3), .int (iI 1), .int (iI 12)]) (rest := []) ⟨hx, hb, hml, hown, hts⟩ (mX1_in l 3 1 12 ⟨by omega, by omega⟩ ⟨by omega, by omega⟩ ⟨by omega, by omega⟩) (va_cwS 3 hts gX1_isDerived_X1_in rfl rfl rfl hdX1_in ⟨Nat.le_of_ble_eq_true rfl, Nat.le_of_ble_eq_true rfl⟩) tt_pre rfl rfl hl.1 rfl (lv_room (Nat.le_of_ble_eq_true rfl)) dX1_isDerived_4 ⟨Nat.le_of_ble_eq_true rfl, Nat.le_of_ble_eq_true rfl⟩) ?_
  refine bb_eq (tgt := 21) hx hb dX1_isDerived_7 (by decide) (fun c_7 => absurd c_7 (by omega)) (fun c_7 => ?_)
  refine ib_bi hx hb dX1_isDerived_10 (by decide) ?_
  refine lv_iload_n hx hb dX1_isDerived_12 rfl (lv_at hl 2 rfl) ?_
  refine ib_rem (z := 0) hx hb dX1_isDerived_13 (by omega) (by omega) (by omega) (by omega) (by first | omega | rfl) ?_
  refine ib_if_ne (tgt := 21) hx hb dX1_isDerived_14 (by decide) ⟨by omega, by omega⟩ (fun c_14 => absurd c_14 (by decide)) (fun c_14 => ?_)
  refine ib_const hx hb dX1_isDerived_17 ?_
  refine lv_goto (tgt := 22) hx hb dX1_isDerived_18 (by decide) ?_
  refine lv_istore_n (lv' := [(3, .int (iI 1)), (0, .ref m0), (1, .int (iI ((r : Nat) : Int))), (2, .int (iI 3))]) hx hb dX1_isDerived_22 rfl hl (by decide) rfl (fun ls hl => ?_)
  refine lv_aload_n hx hb dX1_isDerived_23 rfl (lv_at hl 1 rfl) ?_
  refine lv_iload_n hx hb dX1_isDerived_24 rfl (lv_at hl 2 rfl) ?_
  refine rd_call (va_runS (As := [.int (iI ((r : Nat) : Int))]) (rest := [.ref m0]) ⟨hx, hb, hml, hown, hts⟩ (mX1_isRow l ((r : Nat) : Int) ⟨by omega, by omega⟩) (va_cwS 1 hts gX1_isDerived_X1_isRow rfl rfl rfl hdX1_isRow ⟨Nat.le_of_ble_eq_true rfl, Nat.le_of_ble_eq_true rfl⟩) tt_pre rfl rfl hl.1 rfl (lv_room (Nat.le_of_ble_eq_true rfl)) dX1_isDerived_25 ⟨Nat.le_of_ble_eq_true rfl, Nat.le_of_ble_eq_true rfl⟩) ?_
  refine bb_ne (tgt := 35) hx hb dX1_isDerived_28 (by decide) (fun c_28 => ?_) (fun c_28 => absurd c_28 (by omega))
  refine lv_iload_n hx hb dX1_isDerived_35 rfl (lv_at hl 0 rfl) ?_
  refine ib_if_eq (tgt := 43) hx hb dX1_isDerived_36 (by decide) ⟨by omega, by omega⟩ (fun c_36 => absurd c_36 (by decide)) (fun c_36 => ?_)
  refine ib_const hx hb dX1_isDerived_39 ?_
  refine lv_goto (tgt := 44) hx hb dX1_isDerived_40 (by decide) ?_
  refine wr_call (va_runV (As := [.int (iI 0)]) (rest := []) ⟨hx, hb, hml, hown, hts⟩ (mX1_goesWell l dC dI cI m0 t0 k0 p0 a0 a1 K q th w h0 h1 hw hq 0 ⟨by omega, by omega⟩) (cwV 1 hts gX1_isDerived_X1_goesWell rfl rfl rfl hvX1_goesWell ⟨Nat.le_of_ble_eq_true rfl, Nat.le_of_ble_eq_true rfl⟩) (bD_pre (ci := 1) (q0 := 0) hK hP hD rfl rfl rfl) rfl rfl hl.1 rfl (lv_room (Nat.le_of_ble_eq_true rfl)) dX1_isDerived_44 ⟨Nat.le_of_ble_eq_true rfl, Nat.le_of_ble_eq_true rfl⟩) hS (fun q9 h => inW_same (w := [(m0, .inr (1, [.int th, .ref t0, .ref k0, .ref p0, .int (iI ((w : Nat) : Int))])), (t0, .inl (cI, 24, .inl (fun j => iI ((tb a0 a1 j : Nat) : Int)))), (k0, .inl (cI, 12, .inl (fun j => iI ((K j : Nat) : Int)))), (p0, .inl (cI, 12, .inl (fun j => iI ((q j : Nat) : Int))))]) (w' := [(m0, .inr (1, [.int th, .ref t0, .ref k0, .ref p0, .int (iI ((w : Nat) : Int))])), (t0, .inl (cI, 24, .inl (fun j => iI ((tb a0 a1 j : Nat) : Int)))), (k0, .inl (cI, 12, .inl (fun j => iI ((K j : Nat) : Int)))), (p0, .inl (cI, 12, .inl (fun j => iI ((q j : Nat) : Int))))]) rfl h) (fun H locs hP hz hk hS => ?_)
  have hD : va_D (inW [(m0, .inr (1, [.int th, .ref t0, .ref k0, .ref p0, .int (iI ((w : Nat) : Int))])), (t0, .inl (cI, 24, .inl (fun j => iI ((tb a0 a1 j : Nat) : Int)))), (k0, .inl (cI, 12, .inl (fun j => iI ((K j : Nat) : Int)))), (p0, .inl (cI, 12, .inl (fun j => iI ((q j : Nat) : Int))))]) [(m0, .inr (1, [.int (iI 0), .ref t0, .ref k0, .ref p0, .int (iI ((w : Nat) : Int))])), (t0, .inl (cI, 24, .inl (fun j => iI ((tb a0 a1 j : Nat) : Int)))), (k0, .inl (cI, 12, .inl (fun j => iI ((K j : Nat) : Int)))), (p0, .inl (cI, 12, .inl (fun j => iI ((q j : Nat) : Int))))] := va_D_same (w := [(m0, .inr (1, [.int th, .ref t0, .ref k0, .ref p0, .int (iI ((w : Nat) : Int))])), (t0, .inl (cI, 24, .inl (fun j => iI ((tb a0 a1 j : Nat) : Int)))), (k0, .inl (cI, 12, .inl (fun j => iI ((K j : Nat) : Int)))), (p0, .inl (cI, 12, .inl (fun j => iI ((q j : Nat) : Int))))]) rfl hD
  refine st_i (y := iI 1) (congrArg iI (bI_t (by decide))) ?_
  refine ib_if_ne (tgt := 52) hx hb dX1_isDerived_47 (by decide) ⟨by omega, by omega⟩ (fun c_47 => ?_) (fun c_47 => absurd c_47 (by decide))
  refine ib_const hx hb dX1_isDerived_52 ?_
  refine lv_istore (lv' := [(4, .int (iI 1)), (3, .int (iI 1)), (0, .ref m0), (1, .int (iI ((r : Nat) : Int))), (2, .int (iI 3))]) hx hb dX1_isDerived_53 hl (by decide) rfl (fun ls hl => ?_)
  have hl : lv_has ls 6 [(4, .int (iI (bI (alN (deB (rw_ r a0 a1) 3) 0 = true)))), (3, .int (iI 1)), (0, .ref m0), (1, .int (iI ((r : Nat) : Int))), (2, .int (iI 3))] := by
    have e9 : iI 1 = iI (bI (alN (deB (rw_ r a0 a1) 3) 0 = true)) := congrArg iI (bI_t (by simp [alN])).symm
    rw [← e9]; exact hl
  refine ib_const hx hb dX1_isDerived_55 ?_
  refine lv_istore (lv' := [(5, .int (iI 0)), (4, .int (iI (bI (alN (deB (rw_ r a0 a1) 3) 0 = true)))), (3, .int (iI 1)), (0, .ref m0), (1, .int (iI ((r : Nat) : Int))), (2, .int (iI 3))]) hx hb dX1_isDerived_56 hl (by decide) rfl (fun ls hl => ?_)
  have lp_58_1 : ∀ (j n : Nat), n + j = 4 → ∀ ls : Array Slot, lv_has ls 6 [(0, .ref m0), (1, .int (iI ((r : Nat) : Int))), (2, .int (iI 3)), (4, .int (iI (bI (alN (deB (rw_ r a0 a1) 3) n = true)))), (5, .int (iI ((3 * n : Nat) : Int)))] → W P0 l e (headSpec wsX1_isDerived { frames := 3, cells := 0, slots := 0, locals := 74 }).room s m ([.ref m0, .int (iI ((r : Nat) : Int)), .int (iI 3)] : List Value).toArray below meth c H locs 0 0 (MQ below (wrQ (dC, dI) (inW [(m0, .inr (1, [.int th, .ref t0, .ref k0, .ref p0, .int (iI ((w : Nat) : Int))])), (t0, .inl (cI, 24, .inl (fun j => iI ((tb a0 a1 j : Nat) : Int)))), (k0, .inl (cI, 12, .inl (fun j => iI ((K j : Nat) : Int)))), (p0, .inl (cI, 12, .inl (fun j => iI ((q j : Nat) : Int))))]) [(m0, .inr (1, [.int (iI 0), .ref t0, .ref k0, .ref p0, .int (iI ((w : Nat) : Int))])), (t0, .inl (cI, 24, .inl (fun j => iI ((tb a0 a1 j : Nat) : Int)))), (k0, .inl (cI, 12, .inl (fun j => iI ((K j : Nat) : Int)))), (p0, .inl (cI, 12, .inl (fun j => iI ((q j : Nat) : Int))))] (some (.int (iI (bI (alN (deB (rw_ r a0 a1) 3) 4 = true)))))) ([.ref m0, .int (iI ((r : Nat) : Int)), .int (iI 3)] : List Value).toArray s 0 0 (inW [(m0, .inr (1, [.int th, .ref t0, .ref k0, .ref p0, .int (iI ((w : Nat) : Int))])), (t0, .inl (cI, 24, .inl (fun j => iI ((tb a0 a1 j : Nat) : Int)))), (k0, .inl (cI, 12, .inl (fun j => iI ((K j : Nat) : Int)))), (p0, .inl (cI, 12, .inl (fun j => iI ((q j : Nat) : Int))))])) (F0 m 58 ls []) := by
    intro j
    induction j with
    | zero =>
      intro n hn_58  ls hl
      refine lv_iload hx hb dX1_isDerived_58 (lv_at hl 4 rfl) ?_
      refine ib_bi hx hb dX1_isDerived_60 (by decide) ?_
      refine ib_icmp_ge (tgt := 120) hx hb dX1_isDerived_62 (by decide) ⟨by omega, by omega⟩ ⟨by omega, by omega⟩ (fun c_62 => ?_) (fun c_62 => absurd c_62 (by omega))
      refine lv_iload hx hb dX1_isDerived_120 (lv_at hl 3 rfl) ?_
      refine st_i (y := iI (bI (alN (deB (rw_ r a0 a1) 3) 4 = true))) (congrArg iI (bI_eq (by rw [show n = 4 by omega]))) ?_
      exact W.zret hx hb hr (bI_nar _) (fun t ht _ => ⟨rfl, by rw [ht]; exact hP, hS.F ht⟩) hS.2.2 dX1_isDerived_122
    | succ j ih_58_1 =>
      intro n hn_58  ls hl
      refine lv_iload hx hb dX1_isDerived_58 (lv_at hl 4 rfl) ?_
      refine ib_bi hx hb dX1_isDerived_60 (by decide) ?_
      refine ib_icmp_ge (tgt := 120) hx hb dX1_isDerived_62 (by decide) ⟨by omega, by omega⟩ ⟨by omega, by omega⟩ (fun c_62 => absurd c_62 (by omega)) (fun c_62 => ?_)
      refine lv_iload hx hb dX1_isDerived_65 (lv_at hl 3 rfl) ?_
      refine bb_eq (tgt := 108) hx hb dX1_isDerived_67 (by decide) (fun c_67 => ?_) (fun c_67 => ?_)
      · skip
        refine ib_const hx hb dX1_isDerived_108 ?_
        refine lv_istore (lv' := [(4, .int (iI 0)), (0, .ref m0), (1, .int (iI ((r : Nat) : Int))), (2, .int (iI 3)), (5, .int (iI ((3 * n : Nat) : Int)))]) hx hb dX1_isDerived_109 hl (by decide) rfl (fun ls hl => ?_)
        refine lv_iload hx hb dX1_isDerived_111 (lv_at hl 4 rfl) ?_
        refine lv_iload_n hx hb dX1_isDerived_113 rfl (lv_at hl 3 rfl) ?_
        refine ib_add (z := (((3 * n) + 3 : Nat) : Int)) hx hb dX1_isDerived_114 (by omega) ?_
        refine lv_istore (lv' := [(5, .int (iI (((3 * n) + 3 : Nat) : Int))), (4, .int (iI 0)), (0, .ref m0), (1, .int (iI ((r : Nat) : Int))), (2, .int (iI 3))]) hx hb dX1_isDerived_115 hl (by decide) rfl (fun ls hl => ?_)
        refine lv_goto (tgt := 58) hx hb dX1_isDerived_117 (by decide) ?_
        have hl : lv_has ls 6 [(5, .int (iI (((3 * n) + 3 : Nat) : Int))), (4, .int (iI (bI (alN (deB (rw_ r a0 a1) 3) (n + 1) = true)))), (0, .ref m0), (1, .int (iI ((r : Nat) : Int))), (2, .int (iI 3))] := by
          have e9 : iI 0 = iI (bI (alN (deB (rw_ r a0 a1) 3) (n + 1) = true)) := al_0 c_67
          rw [← e9]; exact hl
        have hl : lv_has ls 6 [(5, .int (iI ((3 * (n + 1) : Nat) : Int))), (4, .int (iI (bI (alN (deB (rw_ r a0 a1) 3) (n + 1) = true)))), (0, .ref m0), (1, .int (iI ((r : Nat) : Int))), (2, .int (iI 3))] := by
          have e9 : iI (((3 * n) + 3 : Nat) : Int) = iI ((3 * (n + 1) : Nat) : Int) := congrArg (fun z : Nat => iI ((z : Nat) : Int)) (show (3 * n) + 3 = 3 * (n + 1) by omega)
          rw [← e9]; exact hl
        exact ih_58_1 (n + 1) (by omega)  _ (lv_sub hl [2, 3, 4, 1, 0] rfl)
      · skip
        refine lv_aload_n hx hb dX1_isDerived_70 rfl (lv_at hl 0 rfl) ?_
        refine lv_iload_n hx hb dX1_isDerived_71 rfl (lv_at hl 1 rfl) ?_
        refine lv_aload_n hx hb dX1_isDerived_72 rfl (lv_at hl 0 rfl) ?_
        refine lv_iload_n hx hb dX1_isDerived_73 rfl (lv_at hl 1 rfl) ?_
        refine rd_call (va_runV (As := [.int (iI ((r : Nat) : Int))]) (rest := [.int (iI ((r : Nat) : Int)), .ref m0]) ⟨hx, hb, hml, hown, hts⟩ (mX1_itself l dC dI cI m0 t0 k0 p0 a0 a1 K q (iI 0) w h0 h1 hw hq r (by omega)) (cwV 1 hts gX1_isDerived_X1_itself rfl rfl rfl hvX1_itself ⟨Nat.le_of_ble_eq_true rfl, Nat.le_of_ble_eq_true rfl⟩) (bW_pre (ci := 1) (q0 := 0) hK hP rfl rfl rfl) rfl rfl hl.1 rfl (lv_room (Nat.le_of_ble_eq_true rfl)) dX1_isDerived_74 ⟨Nat.le_of_ble_eq_true rfl, Nat.le_of_ble_eq_true rfl⟩) ?_
        have hr_74 := rw_lt h0 h1 r (i := 0) (by omega)
        refine lv_iload hx hb dX1_isDerived_77 (lv_at hl 4 rfl) ?_
        refine lv_iload_n hx hb dX1_isDerived_79 rfl (lv_at hl 2 rfl) ?_
        refine rd_call (va_runV (As := [.int (iI ((r : Nat) : Int)), .int (iI ((rw_ r a0 a1 0 : Nat) : Int)), .int (iI ((3 * n : Nat) : Int)), .int (iI 3)]) (rest := []) ⟨hx, hb, hml, hown, hts⟩ (mX1_setOf l dC dI cI m0 t0 k0 p0 a0 a1 K q (iI 0) w h0 h1 hw hq r (rw_ r a0 a1 0) (3 * n) 3 (by omega) (by omega) (by omega)) (cwV 4 hts gX1_isDerived_X1_setOf rfl rfl rfl hvX1_setOf ⟨Nat.le_of_ble_eq_true rfl, Nat.le_of_ble_eq_true rfl⟩) (bW_pre (ci := 1) (q0 := 0) hK hP rfl rfl rfl) rfl rfl hl.1 rfl (lv_room (Nat.le_of_ble_eq_true rfl)) dX1_isDerived_80 ⟨Nat.le_of_ble_eq_true rfl, Nat.le_of_ble_eq_true rfl⟩) ?_
        have hs_80 := setF_lt (fm_lt (rw_ r a0 a1) (rw_ r a0 a1 0)) (3 * n) 3
        refine rd_call (va_runS (As := [.int (iI ((setF (fm (rw_ r a0 a1) (rw_ r a0 a1 0)) (3 * n) 3 : Nat) : Int))]) (rest := []) ⟨hx, hb, hml, hown, hts⟩ (mX1_least l (setF (fm (rw_ r a0 a1) (rw_ r a0 a1 0)) (3 * n) 3) (by omega)) (va_cwS 1 hts gX1_isDerived_X1_least rfl rfl rfl hdX1_least ⟨Nat.le_of_ble_eq_true rfl, Nat.le_of_ble_eq_true rfl⟩) tt_pre rfl rfl hl.1 rfl (lv_room (Nat.le_of_ble_eq_true rfl)) dX1_isDerived_83 ⟨Nat.le_of_ble_eq_true rfl, Nat.le_of_ble_eq_true rfl⟩) ?_
        have hl_83 := lsN_le (setF (fm (rw_ r a0 a1) (rw_ r a0 a1 0)) (3 * n) 3) 12
        refine lv_aload_n hx hb dX1_isDerived_86 rfl (lv_at hl 0 rfl) ?_
        refine lv_iload_n hx hb dX1_isDerived_87 rfl (lv_at hl 1 rfl) ?_
        refine lv_aload_n hx hb dX1_isDerived_88 rfl (lv_at hl 0 rfl) ?_
        refine lv_iload_n hx hb dX1_isDerived_89 rfl (lv_at hl 1 rfl) ?_
        refine rd_call (va_runV (As := [.int (iI ((r : Nat) : Int))]) (rest := [.int (iI ((r : Nat) : Int)), .ref m0, .int (iI ((lsN (setF (fm (rw_ r a0 a1) (rw_ r a0 a1 0)) (3 * n) 3) 12 : Nat) : Int))]) ⟨hx, hb, hml, hown, hts⟩ (mX1_itself l dC dI cI m0 t0 k0 p0 a0 a1 K q (iI 0) w h0 h1 hw hq r (by omega)) (cwV 1 hts gX1_isDerived_X1_itself rfl rfl rfl hvX1_itself ⟨Nat.le_of_ble_eq_true rfl, Nat.le_of_ble_eq_true rfl⟩) (bW_pre (ci := 1) (q0 := 0) hK hP rfl rfl rfl) rfl rfl hl.1 rfl (lv_room (Nat.le_of_ble_eq_true rfl)) dX1_isDerived_90 ⟨Nat.le_of_ble_eq_true rfl, Nat.le_of_ble_eq_true rfl⟩) ?_
        have hr_90 := rw_lt h0 h1 r (i := 0) (by omega)
        refine ib_const hx hb dX1_isDerived_93 ?_
        refine lv_iload_n hx hb dX1_isDerived_94 rfl (lv_at hl 2 rfl) ?_
        refine rd_call (va_runV (As := [.int (iI ((r : Nat) : Int)), .int (iI ((rw_ r a0 a1 0 : Nat) : Int)), .int (iI 0), .int (iI 3)]) (rest := [.int (iI ((lsN (setF (fm (rw_ r a0 a1) (rw_ r a0 a1 0)) (3 * n) 3) 12 : Nat) : Int))]) ⟨hx, hb, hml, hown, hts⟩ (mX1_setOf l dC dI cI m0 t0 k0 p0 a0 a1 K q (iI 0) w h0 h1 hw hq r (rw_ r a0 a1 0) 0 3 (by omega) (by omega) (by omega)) (cwV 4 hts gX1_isDerived_X1_setOf rfl rfl rfl hvX1_setOf ⟨Nat.le_of_ble_eq_true rfl, Nat.le_of_ble_eq_true rfl⟩) (bW_pre (ci := 1) (q0 := 0) hK hP rfl rfl rfl) rfl rfl hl.1 rfl (lv_room (Nat.le_of_ble_eq_true rfl)) dX1_isDerived_95 ⟨Nat.le_of_ble_eq_true rfl, Nat.le_of_ble_eq_true rfl⟩) ?_
        have hs_95 := setF_lt (fm_lt (rw_ r a0 a1) (rw_ r a0 a1 0)) 0 3
        refine rd_call (va_runS (As := [.int (iI ((setF (fm (rw_ r a0 a1) (rw_ r a0 a1 0)) 0 3 : Nat) : Int))]) (rest := [.int (iI ((lsN (setF (fm (rw_ r a0 a1) (rw_ r a0 a1 0)) (3 * n) 3) 12 : Nat) : Int))]) ⟨hx, hb, hml, hown, hts⟩ (mX1_least l (setF (fm (rw_ r a0 a1) (rw_ r a0 a1 0)) 0 3) (by omega)) (va_cwS 1 hts gX1_isDerived_X1_least rfl rfl rfl hdX1_least ⟨Nat.le_of_ble_eq_true rfl, Nat.le_of_ble_eq_true rfl⟩) tt_pre rfl rfl hl.1 rfl (lv_room (Nat.le_of_ble_eq_true rfl)) dX1_isDerived_98 ⟨Nat.le_of_ble_eq_true rfl, Nat.le_of_ble_eq_true rfl⟩) ?_
        have hl_98 := lsN_le (setF (fm (rw_ r a0 a1) (rw_ r a0 a1 0)) 0 3) 12
        refine ib_icmp_ne (tgt := 108) hx hb dX1_isDerived_101 (by decide) ⟨by omega, by omega⟩ ⟨by omega, by omega⟩ (fun c_101 => ?_) (fun c_101 => ?_)
        · skip
          refine ib_const hx hb dX1_isDerived_108 ?_
          refine lv_istore (lv' := [(4, .int (iI 0)), (0, .ref m0), (1, .int (iI ((r : Nat) : Int))), (2, .int (iI 3)), (5, .int (iI ((3 * n : Nat) : Int)))]) hx hb dX1_isDerived_109 hl (by decide) rfl (fun ls hl => ?_)
          refine lv_iload hx hb dX1_isDerived_111 (lv_at hl 4 rfl) ?_
          refine lv_iload_n hx hb dX1_isDerived_113 rfl (lv_at hl 3 rfl) ?_
          refine ib_add (z := (((3 * n) + 3 : Nat) : Int)) hx hb dX1_isDerived_114 (by omega) ?_
          refine lv_istore (lv' := [(5, .int (iI (((3 * n) + 3 : Nat) : Int))), (4, .int (iI 0)), (0, .ref m0), (1, .int (iI ((r : Nat) : Int))), (2, .int (iI 3))]) hx hb dX1_isDerived_115 hl (by decide) rfl (fun ls hl => ?_)
          refine lv_goto (tgt := 58) hx hb dX1_isDerived_117 (by decide) ?_
          have hl : lv_has ls 6 [(5, .int (iI (((3 * n) + 3 : Nat) : Int))), (4, .int (iI (bI (alN (deB (rw_ r a0 a1) 3) (n + 1) = true)))), (0, .ref m0), (1, .int (iI ((r : Nat) : Int))), (2, .int (iI 3))] := by
            have e9 : iI 0 = iI (bI (alN (deB (rw_ r a0 a1) 3) (n + 1) = true)) := al_2 (decide_eq_false (by omega))
            rw [← e9]; exact hl
          have hl : lv_has ls 6 [(5, .int (iI ((3 * (n + 1) : Nat) : Int))), (4, .int (iI (bI (alN (deB (rw_ r a0 a1) 3) (n + 1) = true)))), (0, .ref m0), (1, .int (iI ((r : Nat) : Int))), (2, .int (iI 3))] := by
            have e9 : iI (((3 * n) + 3 : Nat) : Int) = iI ((3 * (n + 1) : Nat) : Int) := congrArg (fun z : Nat => iI ((z : Nat) : Int)) (show (3 * n) + 3 = 3 * (n + 1) by omega)
            rw [← e9]; exact hl
          exact ih_58_1 (n + 1) (by omega)  _ (lv_sub hl [2, 3, 4, 1, 0] rfl)
        · skip
          refine ib_const hx hb dX1_isDerived_104 ?_
          refine lv_goto (tgt := 109) hx hb dX1_isDerived_105 (by decide) ?_
          refine lv_istore (lv' := [(4, .int (iI 1)), (0, .ref m0), (1, .int (iI ((r : Nat) : Int))), (2, .int (iI 3)), (5, .int (iI ((3 * n : Nat) : Int)))]) hx hb dX1_isDerived_109 hl (by decide) rfl (fun ls hl => ?_)
          refine lv_iload hx hb dX1_isDerived_111 (lv_at hl 4 rfl) ?_
          refine lv_iload_n hx hb dX1_isDerived_113 rfl (lv_at hl 3 rfl) ?_
          refine ib_add (z := (((3 * n) + 3 : Nat) : Int)) hx hb dX1_isDerived_114 (by omega) ?_
          refine lv_istore (lv' := [(5, .int (iI (((3 * n) + 3 : Nat) : Int))), (4, .int (iI 1)), (0, .ref m0), (1, .int (iI ((r : Nat) : Int))), (2, .int (iI 3))]) hx hb dX1_isDerived_115 hl (by decide) rfl (fun ls hl => ?_)
          refine lv_goto (tgt := 58) hx hb dX1_isDerived_117 (by decide) ?_
          have hl : lv_has ls 6 [(5, .int (iI (((3 * n) + 3 : Nat) : Int))), (4, .int (iI (bI (alN (deB (rw_ r a0 a1) 3) (n + 1) = true)))), (0, .ref m0), (1, .int (iI ((r : Nat) : Int))), (2, .int (iI 3))] := by
            have e9 : iI 1 = iI (bI (alN (deB (rw_ r a0 a1) 3) (n + 1) = true)) := al_1 c_67 (decide_eq_true (by omega))
            rw [← e9]; exact hl
          have hl : lv_has ls 6 [(5, .int (iI ((3 * (n + 1) : Nat) : Int))), (4, .int (iI (bI (alN (deB (rw_ r a0 a1) 3) (n + 1) = true)))), (0, .ref m0), (1, .int (iI ((r : Nat) : Int))), (2, .int (iI 3))] := by
            have e9 : iI (((3 * n) + 3 : Nat) : Int) = iI ((3 * (n + 1) : Nat) : Int) := congrArg (fun z : Nat => iI ((z : Nat) : Int)) (show (3 * n) + 3 = 3 * (n + 1) by omega)
            rw [← e9]; exact hl
          exact ih_58_1 (n + 1) (by omega)  _ (lv_sub hl [2, 3, 4, 1, 0] rfl)
  exact lp_58_1 4 0 (by omega)  _ (lv_sub hl [3, 4, 5, 1, 0] rfl)

set_option maxHeartbeats 4000000 in
set_option maxRecDepth 100000 in
theorem mX1_isDerived_ok4 (l : Launch) (dC : Nat → ClassId) (dI : Nat → Nat → Nat) (cI : ClassId) (m0 t0 k0 p0 : Nat) (a0 a1 K q : Nat → Nat) (th : Int32) (w : Nat) (h0 : lt12 a0) (h1 : lt12 a1) (hw : w ≤ 12) (hq : ∀ i, i < w → q i < 12) (r : Nat) (hr9 : r < 2) : wr l yX1_isDerived wsX1_isDerived { frames := 3, cells := 0, slots := 0, locals := 74 } [.ref m0, .int (iI ((r : Nat) : Int)), .int (iI 4)] (dC, dI) [(m0, .inr (1, [.int th, .ref t0, .ref k0, .ref p0, .int (iI ((w : Nat) : Int))])), (t0, .inl (cI, 24, .inl (fun j => iI ((tb a0 a1 j : Nat) : Int)))), (k0, .inl (cI, 12, .inl (fun j => iI ((K j : Nat) : Int)))), (p0, .inl (cI, 12, .inl (fun j => iI ((q j : Nat) : Int))))] [(cI, .int)] [(m0, .inr (1, [.int (iI 0), .ref t0, .ref k0, .ref p0, .int (iI ((w : Nat) : Int))])), (t0, .inl (cI, 24, .inl (fun j => iI ((tb a0 a1 j : Nat) : Int)))), (k0, .inl (cI, 12, .inl (fun j => iI ((K j : Nat) : Int)))), (p0, .inl (cI, 12, .inl (fun j => iI ((q j : Nat) : Int))))] (some (.int (iI (bI (alN (deB (rw_ r a0 a1) 4) 3 = true))))) := by
  refine Met.ofW (cc := cX1_isDerived) (maxL := 6) (ret := (some .boolean)) (by decide) rfl ?_
  intro P0 e s m args below meth c s₁ B hml hv
  obtain ⟨rfl, hP, hK, hD0⟩ := hv
  have hx := B.exec
  have hb := B.bytes
  have hr := B.returns
  have hts := atoms_spec (ws := wsX1_isDerived) B.pre
  have hown : s.vm.findClass RX1 = some m.cls := findClass_of_methodNamed B.named
  have hlocks := B.notSynchronized
  have hinX : ∀ w ∈ u_ws RX1 TX1 5, w ∈ wsX1_isDerived := by decide +kernel
  have hD : va_D (inW [(m0, .inr (1, [.int th, .ref t0, .ref k0, .ref p0, .int (iI ((w : Nat) : Int))])), (t0, .inl (cI, 24, .inl (fun j => iI ((tb a0 a1 j : Nat) : Int)))), (k0, .inl (cI, 12, .inl (fun j => iI ((K j : Nat) : Int)))), (p0, .inl (cI, 12, .inl (fun j => iI ((q j : Nat) : Int))))]) [(m0, .inr (1, [.int th, .ref t0, .ref k0, .ref p0, .int (iI ((w : Nat) : Int))])), (t0, .inl (cI, 24, .inl (fun j => iI ((tb a0 a1 j : Nat) : Int)))), (k0, .inl (cI, 12, .inl (fun j => iI ((K j : Nat) : Int)))), (p0, .inl (cI, 12, .inl (fun j => iI ((q j : Nat) : Int))))] := va_D_in hD0
  have hS : va_S (inW [(m0, .inr (1, [.int th, .ref t0, .ref k0, .ref p0, .int (iI ((w : Nat) : Int))])), (t0, .inl (cI, 24, .inl (fun j => iI ((tb a0 a1 j : Nat) : Int)))), (k0, .inl (cI, 12, .inl (fun j => iI ((K j : Nat) : Int)))), (p0, .inl (cI, 12, .inl (fun j => iI ((q j : Nat) : Int))))]) s.heap s.heap [] := va_S.rf
  have hl := lv_entry ([.ref m0, .int (iI ((r : Nat) : Int)), .int (iI 4)]) (n := 6) (Nat.le_of_ble_eq_true rfl)
  rw [lg_entry_eq]
  generalize (lg_sl ([.ref m0, .int (iI ((r : Nat) : Int)), .int (iI 4)]) ++ List.replicate (6 - (lg_sl ([.ref m0, .int (iI ((r : Nat) : Int)), .int (iI 4)])).length) Slot.unset).toArray = ls at hl ⊢
  have hl : lv_has ls 6 [(0, .ref m0), (1, .int (iI ((r : Nat) : Int))), (2, .int (iI 4))] := hl
  refine lv_iload_n hx hb dX1_isDerived_0 rfl (lv_at hl 2 rfl) ?_
  refine ib_const hx hb dX1_isDerived_1 ?_
  refine ib_bi hx hb dX1_isDerived_2 (by decide) ?_
  refine rd_call (va_runS (As := [.int (iI 4), .int (iI 1), .int (iI 12)]) (rest := []) ⟨hx, hb, hml, hown, hts⟩ (mX1_in l 4 1 12 ⟨by omega, by omega⟩ ⟨by omega, by omega⟩ ⟨by omega, by omega⟩) (va_cwS 3 hts gX1_isDerived_X1_in rfl rfl rfl hdX1_in ⟨Nat.le_of_ble_eq_true rfl, Nat.le_of_ble_eq_true rfl⟩) tt_pre rfl rfl hl.1 rfl (lv_room (Nat.le_of_ble_eq_true rfl)) dX1_isDerived_4 ⟨Nat.le_of_ble_eq_true rfl, Nat.le_of_ble_eq_true rfl⟩) ?_
  refine bb_eq (tgt := 21) hx hb dX1_isDerived_7 (by decide) (fun c_7 => absurd c_7 (by omega)) (fun c_7 => ?_)
  refine ib_bi hx hb dX1_isDerived_10 (by decide) ?_
  refine lv_iload_n hx hb dX1_isDerived_12 rfl (lv_at hl 2 rfl) ?_
  refine ib_rem (z := 0) hx hb dX1_isDerived_13 (by omega) (by omega) (by omega) (by omega) (by first | omega | rfl) ?_
  refine ib_if_ne (tgt := 21) hx hb dX1_isDerived_14 (by decide) ⟨by omega, by omega⟩ (fun c_14 => absurd c_14 (by decide)) (fun c_14 => ?_)
  refine ib_const hx hb dX1_isDerived_17 ?_
  refine lv_goto (tgt := 22) hx hb dX1_isDerived_18 (by decide) ?_
  refine lv_istore_n (lv' := [(3, .int (iI 1)), (0, .ref m0), (1, .int (iI ((r : Nat) : Int))), (2, .int (iI 4))]) hx hb dX1_isDerived_22 rfl hl (by decide) rfl (fun ls hl => ?_)
  refine lv_aload_n hx hb dX1_isDerived_23 rfl (lv_at hl 1 rfl) ?_
  refine lv_iload_n hx hb dX1_isDerived_24 rfl (lv_at hl 2 rfl) ?_
  refine rd_call (va_runS (As := [.int (iI ((r : Nat) : Int))]) (rest := [.ref m0]) ⟨hx, hb, hml, hown, hts⟩ (mX1_isRow l ((r : Nat) : Int) ⟨by omega, by omega⟩) (va_cwS 1 hts gX1_isDerived_X1_isRow rfl rfl rfl hdX1_isRow ⟨Nat.le_of_ble_eq_true rfl, Nat.le_of_ble_eq_true rfl⟩) tt_pre rfl rfl hl.1 rfl (lv_room (Nat.le_of_ble_eq_true rfl)) dX1_isDerived_25 ⟨Nat.le_of_ble_eq_true rfl, Nat.le_of_ble_eq_true rfl⟩) ?_
  refine bb_ne (tgt := 35) hx hb dX1_isDerived_28 (by decide) (fun c_28 => ?_) (fun c_28 => absurd c_28 (by omega))
  refine lv_iload_n hx hb dX1_isDerived_35 rfl (lv_at hl 0 rfl) ?_
  refine ib_if_eq (tgt := 43) hx hb dX1_isDerived_36 (by decide) ⟨by omega, by omega⟩ (fun c_36 => absurd c_36 (by decide)) (fun c_36 => ?_)
  refine ib_const hx hb dX1_isDerived_39 ?_
  refine lv_goto (tgt := 44) hx hb dX1_isDerived_40 (by decide) ?_
  refine wr_call (va_runV (As := [.int (iI 0)]) (rest := []) ⟨hx, hb, hml, hown, hts⟩ (mX1_goesWell l dC dI cI m0 t0 k0 p0 a0 a1 K q th w h0 h1 hw hq 0 ⟨by omega, by omega⟩) (cwV 1 hts gX1_isDerived_X1_goesWell rfl rfl rfl hvX1_goesWell ⟨Nat.le_of_ble_eq_true rfl, Nat.le_of_ble_eq_true rfl⟩) (bD_pre (ci := 1) (q0 := 0) hK hP hD rfl rfl rfl) rfl rfl hl.1 rfl (lv_room (Nat.le_of_ble_eq_true rfl)) dX1_isDerived_44 ⟨Nat.le_of_ble_eq_true rfl, Nat.le_of_ble_eq_true rfl⟩) hS (fun q9 h => inW_same (w := [(m0, .inr (1, [.int th, .ref t0, .ref k0, .ref p0, .int (iI ((w : Nat) : Int))])), (t0, .inl (cI, 24, .inl (fun j => iI ((tb a0 a1 j : Nat) : Int)))), (k0, .inl (cI, 12, .inl (fun j => iI ((K j : Nat) : Int)))), (p0, .inl (cI, 12, .inl (fun j => iI ((q j : Nat) : Int))))]) (w' := [(m0, .inr (1, [.int th, .ref t0, .ref k0, .ref p0, .int (iI ((w : Nat) : Int))])), (t0, .inl (cI, 24, .inl (fun j => iI ((tb a0 a1 j : Nat) : Int)))), (k0, .inl (cI, 12, .inl (fun j => iI ((K j : Nat) : Int)))), (p0, .inl (cI, 12, .inl (fun j => iI ((q j : Nat) : Int))))]) rfl h) (fun H locs hP hz hk hS => ?_)
  have hD : va_D (inW [(m0, .inr (1, [.int th, .ref t0, .ref k0, .ref p0, .int (iI ((w : Nat) : Int))])), (t0, .inl (cI, 24, .inl (fun j => iI ((tb a0 a1 j : Nat) : Int)))), (k0, .inl (cI, 12, .inl (fun j => iI ((K j : Nat) : Int)))), (p0, .inl (cI, 12, .inl (fun j => iI ((q j : Nat) : Int))))]) [(m0, .inr (1, [.int (iI 0), .ref t0, .ref k0, .ref p0, .int (iI ((w : Nat) : Int))])), (t0, .inl (cI, 24, .inl (fun j => iI ((tb a0 a1 j : Nat) : Int)))), (k0, .inl (cI, 12, .inl (fun j => iI ((K j : Nat) : Int)))), (p0, .inl (cI, 12, .inl (fun j => iI ((q j : Nat) : Int))))] := va_D_same (w := [(m0, .inr (1, [.int th, .ref t0, .ref k0, .ref p0, .int (iI ((w : Nat) : Int))])), (t0, .inl (cI, 24, .inl (fun j => iI ((tb a0 a1 j : Nat) : Int)))), (k0, .inl (cI, 12, .inl (fun j => iI ((K j : Nat) : Int)))), (p0, .inl (cI, 12, .inl (fun j => iI ((q j : Nat) : Int))))]) rfl hD
  refine st_i (y := iI 1) (congrArg iI (bI_t (by decide))) ?_
  refine ib_if_ne (tgt := 52) hx hb dX1_isDerived_47 (by decide) ⟨by omega, by omega⟩ (fun c_47 => ?_) (fun c_47 => absurd c_47 (by decide))
  refine ib_const hx hb dX1_isDerived_52 ?_
  refine lv_istore (lv' := [(4, .int (iI 1)), (3, .int (iI 1)), (0, .ref m0), (1, .int (iI ((r : Nat) : Int))), (2, .int (iI 4))]) hx hb dX1_isDerived_53 hl (by decide) rfl (fun ls hl => ?_)
  have hl : lv_has ls 6 [(4, .int (iI (bI (alN (deB (rw_ r a0 a1) 4) 0 = true)))), (3, .int (iI 1)), (0, .ref m0), (1, .int (iI ((r : Nat) : Int))), (2, .int (iI 4))] := by
    have e9 : iI 1 = iI (bI (alN (deB (rw_ r a0 a1) 4) 0 = true)) := congrArg iI (bI_t (by simp [alN])).symm
    rw [← e9]; exact hl
  refine ib_const hx hb dX1_isDerived_55 ?_
  refine lv_istore (lv' := [(5, .int (iI 0)), (4, .int (iI (bI (alN (deB (rw_ r a0 a1) 4) 0 = true)))), (3, .int (iI 1)), (0, .ref m0), (1, .int (iI ((r : Nat) : Int))), (2, .int (iI 4))]) hx hb dX1_isDerived_56 hl (by decide) rfl (fun ls hl => ?_)
  have lp_58_1 : ∀ (j n : Nat), n + j = 3 → ∀ ls : Array Slot, lv_has ls 6 [(0, .ref m0), (1, .int (iI ((r : Nat) : Int))), (2, .int (iI 4)), (4, .int (iI (bI (alN (deB (rw_ r a0 a1) 4) n = true)))), (5, .int (iI ((4 * n : Nat) : Int)))] → W P0 l e (headSpec wsX1_isDerived { frames := 3, cells := 0, slots := 0, locals := 74 }).room s m ([.ref m0, .int (iI ((r : Nat) : Int)), .int (iI 4)] : List Value).toArray below meth c H locs 0 0 (MQ below (wrQ (dC, dI) (inW [(m0, .inr (1, [.int th, .ref t0, .ref k0, .ref p0, .int (iI ((w : Nat) : Int))])), (t0, .inl (cI, 24, .inl (fun j => iI ((tb a0 a1 j : Nat) : Int)))), (k0, .inl (cI, 12, .inl (fun j => iI ((K j : Nat) : Int)))), (p0, .inl (cI, 12, .inl (fun j => iI ((q j : Nat) : Int))))]) [(m0, .inr (1, [.int (iI 0), .ref t0, .ref k0, .ref p0, .int (iI ((w : Nat) : Int))])), (t0, .inl (cI, 24, .inl (fun j => iI ((tb a0 a1 j : Nat) : Int)))), (k0, .inl (cI, 12, .inl (fun j => iI ((K j : Nat) : Int)))), (p0, .inl (cI, 12, .inl (fun j => iI ((q j : Nat) : Int))))] (some (.int (iI (bI (alN (deB (rw_ r a0 a1) 4) 3 = true)))))) ([.ref m0, .int (iI ((r : Nat) : Int)), .int (iI 4)] : List Value).toArray s 0 0 (inW [(m0, .inr (1, [.int th, .ref t0, .ref k0, .ref p0, .int (iI ((w : Nat) : Int))])), (t0, .inl (cI, 24, .inl (fun j => iI ((tb a0 a1 j : Nat) : Int)))), (k0, .inl (cI, 12, .inl (fun j => iI ((K j : Nat) : Int)))), (p0, .inl (cI, 12, .inl (fun j => iI ((q j : Nat) : Int))))])) (F0 m 58 ls []) := by
    intro j
    induction j with
    | zero =>
      intro n hn_58  ls hl
      refine lv_iload hx hb dX1_isDerived_58 (lv_at hl 4 rfl) ?_
      refine ib_bi hx hb dX1_isDerived_60 (by decide) ?_
      refine ib_icmp_ge (tgt := 120) hx hb dX1_isDerived_62 (by decide) ⟨by omega, by omega⟩ ⟨by omega, by omega⟩ (fun c_62 => ?_) (fun c_62 => absurd c_62 (by omega))
      refine lv_iload hx hb dX1_isDerived_120 (lv_at hl 3 rfl) ?_
      refine st_i (y := iI (bI (alN (deB (rw_ r a0 a1) 4) 3 = true))) (congrArg iI (bI_eq (by rw [show n = 3 by omega]))) ?_
      exact W.zret hx hb hr (bI_nar _) (fun t ht _ => ⟨rfl, by rw [ht]; exact hP, hS.F ht⟩) hS.2.2 dX1_isDerived_122
    | succ j ih_58_1 =>
      intro n hn_58  ls hl
      refine lv_iload hx hb dX1_isDerived_58 (lv_at hl 4 rfl) ?_
      refine ib_bi hx hb dX1_isDerived_60 (by decide) ?_
      refine ib_icmp_ge (tgt := 120) hx hb dX1_isDerived_62 (by decide) ⟨by omega, by omega⟩ ⟨by omega, by omega⟩ (fun c_62 => absurd c_62 (by omega)) (fun c_62 => ?_)
      refine lv_iload hx hb dX1_isDerived_65 (lv_at hl 3 rfl) ?_
      refine bb_eq (tgt := 108) hx hb dX1_isDerived_67 (by decide) (fun c_67 => ?_) (fun c_67 => ?_)
      · skip
        refine ib_const hx hb dX1_isDerived_108 ?_
        refine lv_istore (lv' := [(4, .int (iI 0)), (0, .ref m0), (1, .int (iI ((r : Nat) : Int))), (2, .int (iI 4)), (5, .int (iI ((4 * n : Nat) : Int)))]) hx hb dX1_isDerived_109 hl (by decide) rfl (fun ls hl => ?_)
        refine lv_iload hx hb dX1_isDerived_111 (lv_at hl 4 rfl) ?_
        refine lv_iload_n hx hb dX1_isDerived_113 rfl (lv_at hl 3 rfl) ?_
        refine ib_add (z := (((4 * n) + 4 : Nat) : Int)) hx hb dX1_isDerived_114 (by omega) ?_
        refine lv_istore (lv' := [(5, .int (iI (((4 * n) + 4 : Nat) : Int))), (4, .int (iI 0)), (0, .ref m0), (1, .int (iI ((r : Nat) : Int))), (2, .int (iI 4))]) hx hb dX1_isDerived_115 hl (by decide) rfl (fun ls hl => ?_)
        refine lv_goto (tgt := 58) hx hb dX1_isDerived_117 (by decide) ?_
        have hl : lv_has ls 6 [(5, .int (iI (((4 * n) + 4 : Nat) : Int))), (4, .int (iI (bI (alN (deB (rw_ r a0 a1) 4) (n + 1) = true)))), (0, .ref m0), (1, .int (iI ((r : Nat) : Int))), (2, .int (iI 4))] := by
          have e9 : iI 0 = iI (bI (alN (deB (rw_ r a0 a1) 4) (n + 1) = true)) := al_0 c_67
          rw [← e9]; exact hl
        have hl : lv_has ls 6 [(5, .int (iI ((4 * (n + 1) : Nat) : Int))), (4, .int (iI (bI (alN (deB (rw_ r a0 a1) 4) (n + 1) = true)))), (0, .ref m0), (1, .int (iI ((r : Nat) : Int))), (2, .int (iI 4))] := by
          have e9 : iI (((4 * n) + 4 : Nat) : Int) = iI ((4 * (n + 1) : Nat) : Int) := congrArg (fun z : Nat => iI ((z : Nat) : Int)) (show (4 * n) + 4 = 4 * (n + 1) by omega)
          rw [← e9]; exact hl
        exact ih_58_1 (n + 1) (by omega)  _ (lv_sub hl [2, 3, 4, 1, 0] rfl)
      · skip
        refine lv_aload_n hx hb dX1_isDerived_70 rfl (lv_at hl 0 rfl) ?_
        refine lv_iload_n hx hb dX1_isDerived_71 rfl (lv_at hl 1 rfl) ?_
        refine lv_aload_n hx hb dX1_isDerived_72 rfl (lv_at hl 0 rfl) ?_
        refine lv_iload_n hx hb dX1_isDerived_73 rfl (lv_at hl 1 rfl) ?_
        refine rd_call (va_runV (As := [.int (iI ((r : Nat) : Int))]) (rest := [.int (iI ((r : Nat) : Int)), .ref m0]) ⟨hx, hb, hml, hown, hts⟩ (mX1_itself l dC dI cI m0 t0 k0 p0 a0 a1 K q (iI 0) w h0 h1 hw hq r (by omega)) (cwV 1 hts gX1_isDerived_X1_itself rfl rfl rfl hvX1_itself ⟨Nat.le_of_ble_eq_true rfl, Nat.le_of_ble_eq_true rfl⟩) (bW_pre (ci := 1) (q0 := 0) hK hP rfl rfl rfl) rfl rfl hl.1 rfl (lv_room (Nat.le_of_ble_eq_true rfl)) dX1_isDerived_74 ⟨Nat.le_of_ble_eq_true rfl, Nat.le_of_ble_eq_true rfl⟩) ?_
        have hr_74 := rw_lt h0 h1 r (i := 0) (by omega)
        refine lv_iload hx hb dX1_isDerived_77 (lv_at hl 4 rfl) ?_
        refine lv_iload_n hx hb dX1_isDerived_79 rfl (lv_at hl 2 rfl) ?_
        refine rd_call (va_runV (As := [.int (iI ((r : Nat) : Int)), .int (iI ((rw_ r a0 a1 0 : Nat) : Int)), .int (iI ((4 * n : Nat) : Int)), .int (iI 4)]) (rest := []) ⟨hx, hb, hml, hown, hts⟩ (mX1_setOf l dC dI cI m0 t0 k0 p0 a0 a1 K q (iI 0) w h0 h1 hw hq r (rw_ r a0 a1 0) (4 * n) 4 (by omega) (by omega) (by omega)) (cwV 4 hts gX1_isDerived_X1_setOf rfl rfl rfl hvX1_setOf ⟨Nat.le_of_ble_eq_true rfl, Nat.le_of_ble_eq_true rfl⟩) (bW_pre (ci := 1) (q0 := 0) hK hP rfl rfl rfl) rfl rfl hl.1 rfl (lv_room (Nat.le_of_ble_eq_true rfl)) dX1_isDerived_80 ⟨Nat.le_of_ble_eq_true rfl, Nat.le_of_ble_eq_true rfl⟩) ?_
        have hs_80 := setF_lt (fm_lt (rw_ r a0 a1) (rw_ r a0 a1 0)) (4 * n) 4
        refine rd_call (va_runS (As := [.int (iI ((setF (fm (rw_ r a0 a1) (rw_ r a0 a1 0)) (4 * n) 4 : Nat) : Int))]) (rest := []) ⟨hx, hb, hml, hown, hts⟩ (mX1_least l (setF (fm (rw_ r a0 a1) (rw_ r a0 a1 0)) (4 * n) 4) (by omega)) (va_cwS 1 hts gX1_isDerived_X1_least rfl rfl rfl hdX1_least ⟨Nat.le_of_ble_eq_true rfl, Nat.le_of_ble_eq_true rfl⟩) tt_pre rfl rfl hl.1 rfl (lv_room (Nat.le_of_ble_eq_true rfl)) dX1_isDerived_83 ⟨Nat.le_of_ble_eq_true rfl, Nat.le_of_ble_eq_true rfl⟩) ?_
        have hl_83 := lsN_le (setF (fm (rw_ r a0 a1) (rw_ r a0 a1 0)) (4 * n) 4) 12
        refine lv_aload_n hx hb dX1_isDerived_86 rfl (lv_at hl 0 rfl) ?_
        refine lv_iload_n hx hb dX1_isDerived_87 rfl (lv_at hl 1 rfl) ?_
        refine lv_aload_n hx hb dX1_isDerived_88 rfl (lv_at hl 0 rfl) ?_
        refine lv_iload_n hx hb dX1_isDerived_89 rfl (lv_at hl 1 rfl) ?_
        refine rd_call (va_runV (As := [.int (iI ((r : Nat) : Int))]) (rest := [.int (iI ((r : Nat) : Int)), .ref m0, .int (iI ((lsN (setF (fm (rw_ r a0 a1) (rw_ r a0 a1 0)) (4 * n) 4) 12 : Nat) : Int))]) ⟨hx, hb, hml, hown, hts⟩ (mX1_itself l dC dI cI m0 t0 k0 p0 a0 a1 K q (iI 0) w h0 h1 hw hq r (by omega)) (cwV 1 hts gX1_isDerived_X1_itself rfl rfl rfl hvX1_itself ⟨Nat.le_of_ble_eq_true rfl, Nat.le_of_ble_eq_true rfl⟩) (bW_pre (ci := 1) (q0 := 0) hK hP rfl rfl rfl) rfl rfl hl.1 rfl (lv_room (Nat.le_of_ble_eq_true rfl)) dX1_isDerived_90 ⟨Nat.le_of_ble_eq_true rfl, Nat.le_of_ble_eq_true rfl⟩) ?_
        have hr_90 := rw_lt h0 h1 r (i := 0) (by omega)
        refine ib_const hx hb dX1_isDerived_93 ?_
        refine lv_iload_n hx hb dX1_isDerived_94 rfl (lv_at hl 2 rfl) ?_
        refine rd_call (va_runV (As := [.int (iI ((r : Nat) : Int)), .int (iI ((rw_ r a0 a1 0 : Nat) : Int)), .int (iI 0), .int (iI 4)]) (rest := [.int (iI ((lsN (setF (fm (rw_ r a0 a1) (rw_ r a0 a1 0)) (4 * n) 4) 12 : Nat) : Int))]) ⟨hx, hb, hml, hown, hts⟩ (mX1_setOf l dC dI cI m0 t0 k0 p0 a0 a1 K q (iI 0) w h0 h1 hw hq r (rw_ r a0 a1 0) 0 4 (by omega) (by omega) (by omega)) (cwV 4 hts gX1_isDerived_X1_setOf rfl rfl rfl hvX1_setOf ⟨Nat.le_of_ble_eq_true rfl, Nat.le_of_ble_eq_true rfl⟩) (bW_pre (ci := 1) (q0 := 0) hK hP rfl rfl rfl) rfl rfl hl.1 rfl (lv_room (Nat.le_of_ble_eq_true rfl)) dX1_isDerived_95 ⟨Nat.le_of_ble_eq_true rfl, Nat.le_of_ble_eq_true rfl⟩) ?_
        have hs_95 := setF_lt (fm_lt (rw_ r a0 a1) (rw_ r a0 a1 0)) 0 4
        refine rd_call (va_runS (As := [.int (iI ((setF (fm (rw_ r a0 a1) (rw_ r a0 a1 0)) 0 4 : Nat) : Int))]) (rest := [.int (iI ((lsN (setF (fm (rw_ r a0 a1) (rw_ r a0 a1 0)) (4 * n) 4) 12 : Nat) : Int))]) ⟨hx, hb, hml, hown, hts⟩ (mX1_least l (setF (fm (rw_ r a0 a1) (rw_ r a0 a1 0)) 0 4) (by omega)) (va_cwS 1 hts gX1_isDerived_X1_least rfl rfl rfl hdX1_least ⟨Nat.le_of_ble_eq_true rfl, Nat.le_of_ble_eq_true rfl⟩) tt_pre rfl rfl hl.1 rfl (lv_room (Nat.le_of_ble_eq_true rfl)) dX1_isDerived_98 ⟨Nat.le_of_ble_eq_true rfl, Nat.le_of_ble_eq_true rfl⟩) ?_
        have hl_98 := lsN_le (setF (fm (rw_ r a0 a1) (rw_ r a0 a1 0)) 0 4) 12
        refine ib_icmp_ne (tgt := 108) hx hb dX1_isDerived_101 (by decide) ⟨by omega, by omega⟩ ⟨by omega, by omega⟩ (fun c_101 => ?_) (fun c_101 => ?_)
        · skip
          refine ib_const hx hb dX1_isDerived_108 ?_
          refine lv_istore (lv' := [(4, .int (iI 0)), (0, .ref m0), (1, .int (iI ((r : Nat) : Int))), (2, .int (iI 4)), (5, .int (iI ((4 * n : Nat) : Int)))]) hx hb dX1_isDerived_109 hl (by decide) rfl (fun ls hl => ?_)
          refine lv_iload hx hb dX1_isDerived_111 (lv_at hl 4 rfl) ?_
          refine lv_iload_n hx hb dX1_isDerived_113 rfl (lv_at hl 3 rfl) ?_
          refine ib_add (z := (((4 * n) + 4 : Nat) : Int)) hx hb dX1_isDerived_114 (by omega) ?_
          refine lv_istore (lv' := [(5, .int (iI (((4 * n) + 4 : Nat) : Int))), (4, .int (iI 0)), (0, .ref m0), (1, .int (iI ((r : Nat) : Int))), (2, .int (iI 4))]) hx hb dX1_isDerived_115 hl (by decide) rfl (fun ls hl => ?_)
          refine lv_goto (tgt := 58) hx hb dX1_isDerived_117 (by decide) ?_
          have hl : lv_has ls 6 [(5, .int (iI (((4 * n) + 4 : Nat) : Int))), (4, .int (iI (bI (alN (deB (rw_ r a0 a1) 4) (n + 1) = true)))), (0, .ref m0), (1, .int (iI ((r : Nat) : Int))), (2, .int (iI 4))] := by
            have e9 : iI 0 = iI (bI (alN (deB (rw_ r a0 a1) 4) (n + 1) = true)) := al_2 (decide_eq_false (by omega))
            rw [← e9]; exact hl
          have hl : lv_has ls 6 [(5, .int (iI ((4 * (n + 1) : Nat) : Int))), (4, .int (iI (bI (alN (deB (rw_ r a0 a1) 4) (n + 1) = true)))), (0, .ref m0), (1, .int (iI ((r : Nat) : Int))), (2, .int (iI 4))] := by
            have e9 : iI (((4 * n) + 4 : Nat) : Int) = iI ((4 * (n + 1) : Nat) : Int) := congrArg (fun z : Nat => iI ((z : Nat) : Int)) (show (4 * n) + 4 = 4 * (n + 1) by omega)
            rw [← e9]; exact hl
          exact ih_58_1 (n + 1) (by omega)  _ (lv_sub hl [2, 3, 4, 1, 0] rfl)
        · skip
          refine ib_const hx hb dX1_isDerived_104 ?_
          refine lv_goto (tgt := 109) hx hb dX1_isDerived_105 (by decide) ?_
          refine lv_istore (lv' := [(4, .int (iI 1)), (0, .ref m0), (1, .int (iI ((r : Nat) : Int))), (2, .int (iI 4)), (5, .int (iI ((4 * n : Nat) : Int)))]) hx hb dX1_isDerived_109 hl (by decide) rfl (fun ls hl => ?_)
          refine lv_iload hx hb dX1_isDerived_111 (lv_at hl 4 rfl) ?_
          refine lv_iload_n hx hb dX1_isDerived_113 rfl (lv_at hl 3 rfl) ?_
          refine ib_add (z := (((4 * n) + 4 : Nat) : Int)) hx hb dX1_isDerived_114 (by omega) ?_
          refine lv_istore (lv' := [(5, .int (iI (((4 * n) + 4 : Nat) : Int))), (4, .int (iI 1)), (0, .ref m0), (1, .int (iI ((r : Nat) : Int))), (2, .int (iI 4))]) hx hb dX1_isDerived_115 hl (by decide) rfl (fun ls hl => ?_)
          refine lv_goto (tgt := 58) hx hb dX1_isDerived_117 (by decide) ?_
          have hl : lv_has ls 6 [(5, .int (iI (((4 * n) + 4 : Nat) : Int))), (4, .int (iI (bI (alN (deB (rw_ r a0 a1) 4) (n + 1) = true)))), (0, .ref m0), (1, .int (iI ((r : Nat) : Int))), (2, .int (iI 4))] := by
            have e9 : iI 1 = iI (bI (alN (deB (rw_ r a0 a1) 4) (n + 1) = true)) := al_1 c_67 (decide_eq_true (by omega))
            rw [← e9]; exact hl
          have hl : lv_has ls 6 [(5, .int (iI ((4 * (n + 1) : Nat) : Int))), (4, .int (iI (bI (alN (deB (rw_ r a0 a1) 4) (n + 1) = true)))), (0, .ref m0), (1, .int (iI ((r : Nat) : Int))), (2, .int (iI 4))] := by
            have e9 : iI (((4 * n) + 4 : Nat) : Int) = iI ((4 * (n + 1) : Nat) : Int) := congrArg (fun z : Nat => iI ((z : Nat) : Int)) (show (4 * n) + 4 = 4 * (n + 1) by omega)
            rw [← e9]; exact hl
          exact ih_58_1 (n + 1) (by omega)  _ (lv_sub hl [2, 3, 4, 1, 0] rfl)
  exact lp_58_1 3 0 (by omega)  _ (lv_sub hl [3, 4, 5, 1, 0] rfl)

set_option maxHeartbeats 4000000 in
set_option maxRecDepth 100000 in
theorem mX1_isDerived_ok6 (l : Launch) (dC : Nat → ClassId) (dI : Nat → Nat → Nat) (cI : ClassId) (m0 t0 k0 p0 : Nat) (a0 a1 K q : Nat → Nat) (th : Int32) (w : Nat) (h0 : lt12 a0) (h1 : lt12 a1) (hw : w ≤ 12) (hq : ∀ i, i < w → q i < 12) (r : Nat) (hr9 : r < 2) : wr l yX1_isDerived wsX1_isDerived { frames := 3, cells := 0, slots := 0, locals := 74 } [.ref m0, .int (iI ((r : Nat) : Int)), .int (iI 6)] (dC, dI) [(m0, .inr (1, [.int th, .ref t0, .ref k0, .ref p0, .int (iI ((w : Nat) : Int))])), (t0, .inl (cI, 24, .inl (fun j => iI ((tb a0 a1 j : Nat) : Int)))), (k0, .inl (cI, 12, .inl (fun j => iI ((K j : Nat) : Int)))), (p0, .inl (cI, 12, .inl (fun j => iI ((q j : Nat) : Int))))] [(cI, .int)] [(m0, .inr (1, [.int (iI 0), .ref t0, .ref k0, .ref p0, .int (iI ((w : Nat) : Int))])), (t0, .inl (cI, 24, .inl (fun j => iI ((tb a0 a1 j : Nat) : Int)))), (k0, .inl (cI, 12, .inl (fun j => iI ((K j : Nat) : Int)))), (p0, .inl (cI, 12, .inl (fun j => iI ((q j : Nat) : Int))))] (some (.int (iI (bI (alN (deB (rw_ r a0 a1) 6) 2 = true))))) := by
  refine Met.ofW (cc := cX1_isDerived) (maxL := 6) (ret := (some .boolean)) (by decide) rfl ?_
  intro P0 e s m args below meth c s₁ B hml hv
  obtain ⟨rfl, hP, hK, hD0⟩ := hv
  have hx := B.exec
  have hb := B.bytes
  have hr := B.returns
  have hts := atoms_spec (ws := wsX1_isDerived) B.pre
  have hown : s.vm.findClass RX1 = some m.cls := findClass_of_methodNamed B.named
  have hlocks := B.notSynchronized
  have hinX : ∀ w ∈ u_ws RX1 TX1 5, w ∈ wsX1_isDerived := by decide +kernel
  have hD : va_D (inW [(m0, .inr (1, [.int th, .ref t0, .ref k0, .ref p0, .int (iI ((w : Nat) : Int))])), (t0, .inl (cI, 24, .inl (fun j => iI ((tb a0 a1 j : Nat) : Int)))), (k0, .inl (cI, 12, .inl (fun j => iI ((K j : Nat) : Int)))), (p0, .inl (cI, 12, .inl (fun j => iI ((q j : Nat) : Int))))]) [(m0, .inr (1, [.int th, .ref t0, .ref k0, .ref p0, .int (iI ((w : Nat) : Int))])), (t0, .inl (cI, 24, .inl (fun j => iI ((tb a0 a1 j : Nat) : Int)))), (k0, .inl (cI, 12, .inl (fun j => iI ((K j : Nat) : Int)))), (p0, .inl (cI, 12, .inl (fun j => iI ((q j : Nat) : Int))))] := va_D_in hD0
  have hS : va_S (inW [(m0, .inr (1, [.int th, .ref t0, .ref k0, .ref p0, .int (iI ((w : Nat) : Int))])), (t0, .inl (cI, 24, .inl (fun j => iI ((tb a0 a1 j : Nat) : Int)))), (k0, .inl (cI, 12, .inl (fun j => iI ((K j : Nat) : Int)))), (p0, .inl (cI, 12, .inl (fun j => iI ((q j : Nat) : Int))))]) s.heap s.heap [] := va_S.rf
  have hl := lv_entry ([.ref m0, .int (iI ((r : Nat) : Int)), .int (iI 6)]) (n := 6) (Nat.le_of_ble_eq_true rfl)
  rw [lg_entry_eq]
  generalize (lg_sl ([.ref m0, .int (iI ((r : Nat) : Int)), .int (iI 6)]) ++ List.replicate (6 - (lg_sl ([.ref m0, .int (iI ((r : Nat) : Int)), .int (iI 6)])).length) Slot.unset).toArray = ls at hl ⊢
  have hl : lv_has ls 6 [(0, .ref m0), (1, .int (iI ((r : Nat) : Int))), (2, .int (iI 6))] := hl
  refine lv_iload_n hx hb dX1_isDerived_0 rfl (lv_at hl 2 rfl) ?_
  refine ib_const hx hb dX1_isDerived_1 ?_
  refine ib_bi hx hb dX1_isDerived_2 (by decide) ?_
  refine rd_call (va_runS (As := [.int (iI 6), .int (iI 1), .int (iI 12)]) (rest := []) ⟨hx, hb, hml, hown, hts⟩ (mX1_in l 6 1 12 ⟨by omega, by omega⟩ ⟨by omega, by omega⟩ ⟨by omega, by omega⟩) (va_cwS 3 hts gX1_isDerived_X1_in rfl rfl rfl hdX1_in ⟨Nat.le_of_ble_eq_true rfl, Nat.le_of_ble_eq_true rfl⟩) tt_pre rfl rfl hl.1 rfl (lv_room (Nat.le_of_ble_eq_true rfl)) dX1_isDerived_4 ⟨Nat.le_of_ble_eq_true rfl, Nat.le_of_ble_eq_true rfl⟩) ?_
  refine bb_eq (tgt := 21) hx hb dX1_isDerived_7 (by decide) (fun c_7 => absurd c_7 (by omega)) (fun c_7 => ?_)
  refine ib_bi hx hb dX1_isDerived_10 (by decide) ?_
  refine lv_iload_n hx hb dX1_isDerived_12 rfl (lv_at hl 2 rfl) ?_
  refine ib_rem (z := 0) hx hb dX1_isDerived_13 (by omega) (by omega) (by omega) (by omega) (by first | omega | rfl) ?_
  refine ib_if_ne (tgt := 21) hx hb dX1_isDerived_14 (by decide) ⟨by omega, by omega⟩ (fun c_14 => absurd c_14 (by decide)) (fun c_14 => ?_)
  refine ib_const hx hb dX1_isDerived_17 ?_
  refine lv_goto (tgt := 22) hx hb dX1_isDerived_18 (by decide) ?_
  refine lv_istore_n (lv' := [(3, .int (iI 1)), (0, .ref m0), (1, .int (iI ((r : Nat) : Int))), (2, .int (iI 6))]) hx hb dX1_isDerived_22 rfl hl (by decide) rfl (fun ls hl => ?_)
  refine lv_aload_n hx hb dX1_isDerived_23 rfl (lv_at hl 1 rfl) ?_
  refine lv_iload_n hx hb dX1_isDerived_24 rfl (lv_at hl 2 rfl) ?_
  refine rd_call (va_runS (As := [.int (iI ((r : Nat) : Int))]) (rest := [.ref m0]) ⟨hx, hb, hml, hown, hts⟩ (mX1_isRow l ((r : Nat) : Int) ⟨by omega, by omega⟩) (va_cwS 1 hts gX1_isDerived_X1_isRow rfl rfl rfl hdX1_isRow ⟨Nat.le_of_ble_eq_true rfl, Nat.le_of_ble_eq_true rfl⟩) tt_pre rfl rfl hl.1 rfl (lv_room (Nat.le_of_ble_eq_true rfl)) dX1_isDerived_25 ⟨Nat.le_of_ble_eq_true rfl, Nat.le_of_ble_eq_true rfl⟩) ?_
  refine bb_ne (tgt := 35) hx hb dX1_isDerived_28 (by decide) (fun c_28 => ?_) (fun c_28 => absurd c_28 (by omega))
  refine lv_iload_n hx hb dX1_isDerived_35 rfl (lv_at hl 0 rfl) ?_
  refine ib_if_eq (tgt := 43) hx hb dX1_isDerived_36 (by decide) ⟨by omega, by omega⟩ (fun c_36 => absurd c_36 (by decide)) (fun c_36 => ?_)
  refine ib_const hx hb dX1_isDerived_39 ?_
  refine lv_goto (tgt := 44) hx hb dX1_isDerived_40 (by decide) ?_
  refine wr_call (va_runV (As := [.int (iI 0)]) (rest := []) ⟨hx, hb, hml, hown, hts⟩ (mX1_goesWell l dC dI cI m0 t0 k0 p0 a0 a1 K q th w h0 h1 hw hq 0 ⟨by omega, by omega⟩) (cwV 1 hts gX1_isDerived_X1_goesWell rfl rfl rfl hvX1_goesWell ⟨Nat.le_of_ble_eq_true rfl, Nat.le_of_ble_eq_true rfl⟩) (bD_pre (ci := 1) (q0 := 0) hK hP hD rfl rfl rfl) rfl rfl hl.1 rfl (lv_room (Nat.le_of_ble_eq_true rfl)) dX1_isDerived_44 ⟨Nat.le_of_ble_eq_true rfl, Nat.le_of_ble_eq_true rfl⟩) hS (fun q9 h => inW_same (w := [(m0, .inr (1, [.int th, .ref t0, .ref k0, .ref p0, .int (iI ((w : Nat) : Int))])), (t0, .inl (cI, 24, .inl (fun j => iI ((tb a0 a1 j : Nat) : Int)))), (k0, .inl (cI, 12, .inl (fun j => iI ((K j : Nat) : Int)))), (p0, .inl (cI, 12, .inl (fun j => iI ((q j : Nat) : Int))))]) (w' := [(m0, .inr (1, [.int th, .ref t0, .ref k0, .ref p0, .int (iI ((w : Nat) : Int))])), (t0, .inl (cI, 24, .inl (fun j => iI ((tb a0 a1 j : Nat) : Int)))), (k0, .inl (cI, 12, .inl (fun j => iI ((K j : Nat) : Int)))), (p0, .inl (cI, 12, .inl (fun j => iI ((q j : Nat) : Int))))]) rfl h) (fun H locs hP hz hk hS => ?_)
  have hD : va_D (inW [(m0, .inr (1, [.int th, .ref t0, .ref k0, .ref p0, .int (iI ((w : Nat) : Int))])), (t0, .inl (cI, 24, .inl (fun j => iI ((tb a0 a1 j : Nat) : Int)))), (k0, .inl (cI, 12, .inl (fun j => iI ((K j : Nat) : Int)))), (p0, .inl (cI, 12, .inl (fun j => iI ((q j : Nat) : Int))))]) [(m0, .inr (1, [.int (iI 0), .ref t0, .ref k0, .ref p0, .int (iI ((w : Nat) : Int))])), (t0, .inl (cI, 24, .inl (fun j => iI ((tb a0 a1 j : Nat) : Int)))), (k0, .inl (cI, 12, .inl (fun j => iI ((K j : Nat) : Int)))), (p0, .inl (cI, 12, .inl (fun j => iI ((q j : Nat) : Int))))] := va_D_same (w := [(m0, .inr (1, [.int th, .ref t0, .ref k0, .ref p0, .int (iI ((w : Nat) : Int))])), (t0, .inl (cI, 24, .inl (fun j => iI ((tb a0 a1 j : Nat) : Int)))), (k0, .inl (cI, 12, .inl (fun j => iI ((K j : Nat) : Int)))), (p0, .inl (cI, 12, .inl (fun j => iI ((q j : Nat) : Int))))]) rfl hD
  refine st_i (y := iI 1) (congrArg iI (bI_t (by decide))) ?_
  refine ib_if_ne (tgt := 52) hx hb dX1_isDerived_47 (by decide) ⟨by omega, by omega⟩ (fun c_47 => ?_) (fun c_47 => absurd c_47 (by decide))
  refine ib_const hx hb dX1_isDerived_52 ?_
  refine lv_istore (lv' := [(4, .int (iI 1)), (3, .int (iI 1)), (0, .ref m0), (1, .int (iI ((r : Nat) : Int))), (2, .int (iI 6))]) hx hb dX1_isDerived_53 hl (by decide) rfl (fun ls hl => ?_)
  have hl : lv_has ls 6 [(4, .int (iI (bI (alN (deB (rw_ r a0 a1) 6) 0 = true)))), (3, .int (iI 1)), (0, .ref m0), (1, .int (iI ((r : Nat) : Int))), (2, .int (iI 6))] := by
    have e9 : iI 1 = iI (bI (alN (deB (rw_ r a0 a1) 6) 0 = true)) := congrArg iI (bI_t (by simp [alN])).symm
    rw [← e9]; exact hl
  refine ib_const hx hb dX1_isDerived_55 ?_
  refine lv_istore (lv' := [(5, .int (iI 0)), (4, .int (iI (bI (alN (deB (rw_ r a0 a1) 6) 0 = true)))), (3, .int (iI 1)), (0, .ref m0), (1, .int (iI ((r : Nat) : Int))), (2, .int (iI 6))]) hx hb dX1_isDerived_56 hl (by decide) rfl (fun ls hl => ?_)
  have lp_58_1 : ∀ (j n : Nat), n + j = 2 → ∀ ls : Array Slot, lv_has ls 6 [(0, .ref m0), (1, .int (iI ((r : Nat) : Int))), (2, .int (iI 6)), (4, .int (iI (bI (alN (deB (rw_ r a0 a1) 6) n = true)))), (5, .int (iI ((6 * n : Nat) : Int)))] → W P0 l e (headSpec wsX1_isDerived { frames := 3, cells := 0, slots := 0, locals := 74 }).room s m ([.ref m0, .int (iI ((r : Nat) : Int)), .int (iI 6)] : List Value).toArray below meth c H locs 0 0 (MQ below (wrQ (dC, dI) (inW [(m0, .inr (1, [.int th, .ref t0, .ref k0, .ref p0, .int (iI ((w : Nat) : Int))])), (t0, .inl (cI, 24, .inl (fun j => iI ((tb a0 a1 j : Nat) : Int)))), (k0, .inl (cI, 12, .inl (fun j => iI ((K j : Nat) : Int)))), (p0, .inl (cI, 12, .inl (fun j => iI ((q j : Nat) : Int))))]) [(m0, .inr (1, [.int (iI 0), .ref t0, .ref k0, .ref p0, .int (iI ((w : Nat) : Int))])), (t0, .inl (cI, 24, .inl (fun j => iI ((tb a0 a1 j : Nat) : Int)))), (k0, .inl (cI, 12, .inl (fun j => iI ((K j : Nat) : Int)))), (p0, .inl (cI, 12, .inl (fun j => iI ((q j : Nat) : Int))))] (some (.int (iI (bI (alN (deB (rw_ r a0 a1) 6) 2 = true)))))) ([.ref m0, .int (iI ((r : Nat) : Int)), .int (iI 6)] : List Value).toArray s 0 0 (inW [(m0, .inr (1, [.int th, .ref t0, .ref k0, .ref p0, .int (iI ((w : Nat) : Int))])), (t0, .inl (cI, 24, .inl (fun j => iI ((tb a0 a1 j : Nat) : Int)))), (k0, .inl (cI, 12, .inl (fun j => iI ((K j : Nat) : Int)))), (p0, .inl (cI, 12, .inl (fun j => iI ((q j : Nat) : Int))))])) (F0 m 58 ls []) := by
    intro j
    induction j with
    | zero =>
      intro n hn_58  ls hl
      refine lv_iload hx hb dX1_isDerived_58 (lv_at hl 4 rfl) ?_
      refine ib_bi hx hb dX1_isDerived_60 (by decide) ?_
      refine ib_icmp_ge (tgt := 120) hx hb dX1_isDerived_62 (by decide) ⟨by omega, by omega⟩ ⟨by omega, by omega⟩ (fun c_62 => ?_) (fun c_62 => absurd c_62 (by omega))
      refine lv_iload hx hb dX1_isDerived_120 (lv_at hl 3 rfl) ?_
      refine st_i (y := iI (bI (alN (deB (rw_ r a0 a1) 6) 2 = true))) (congrArg iI (bI_eq (by rw [show n = 2 by omega]))) ?_
      exact W.zret hx hb hr (bI_nar _) (fun t ht _ => ⟨rfl, by rw [ht]; exact hP, hS.F ht⟩) hS.2.2 dX1_isDerived_122
    | succ j ih_58_1 =>
      intro n hn_58  ls hl
      refine lv_iload hx hb dX1_isDerived_58 (lv_at hl 4 rfl) ?_
      refine ib_bi hx hb dX1_isDerived_60 (by decide) ?_
      refine ib_icmp_ge (tgt := 120) hx hb dX1_isDerived_62 (by decide) ⟨by omega, by omega⟩ ⟨by omega, by omega⟩ (fun c_62 => absurd c_62 (by omega)) (fun c_62 => ?_)
      refine lv_iload hx hb dX1_isDerived_65 (lv_at hl 3 rfl) ?_
      refine bb_eq (tgt := 108) hx hb dX1_isDerived_67 (by decide) (fun c_67 => ?_) (fun c_67 => ?_)
      · skip
        refine ib_const hx hb dX1_isDerived_108 ?_
        refine lv_istore (lv' := [(4, .int (iI 0)), (0, .ref m0), (1, .int (iI ((r : Nat) : Int))), (2, .int (iI 6)), (5, .int (iI ((6 * n : Nat) : Int)))]) hx hb dX1_isDerived_109 hl (by decide) rfl (fun ls hl => ?_)
        refine lv_iload hx hb dX1_isDerived_111 (lv_at hl 4 rfl) ?_
        refine lv_iload_n hx hb dX1_isDerived_113 rfl (lv_at hl 3 rfl) ?_
        refine ib_add (z := (((6 * n) + 6 : Nat) : Int)) hx hb dX1_isDerived_114 (by omega) ?_
        refine lv_istore (lv' := [(5, .int (iI (((6 * n) + 6 : Nat) : Int))), (4, .int (iI 0)), (0, .ref m0), (1, .int (iI ((r : Nat) : Int))), (2, .int (iI 6))]) hx hb dX1_isDerived_115 hl (by decide) rfl (fun ls hl => ?_)
        refine lv_goto (tgt := 58) hx hb dX1_isDerived_117 (by decide) ?_
        have hl : lv_has ls 6 [(5, .int (iI (((6 * n) + 6 : Nat) : Int))), (4, .int (iI (bI (alN (deB (rw_ r a0 a1) 6) (n + 1) = true)))), (0, .ref m0), (1, .int (iI ((r : Nat) : Int))), (2, .int (iI 6))] := by
          have e9 : iI 0 = iI (bI (alN (deB (rw_ r a0 a1) 6) (n + 1) = true)) := al_0 c_67
          rw [← e9]; exact hl
        have hl : lv_has ls 6 [(5, .int (iI ((6 * (n + 1) : Nat) : Int))), (4, .int (iI (bI (alN (deB (rw_ r a0 a1) 6) (n + 1) = true)))), (0, .ref m0), (1, .int (iI ((r : Nat) : Int))), (2, .int (iI 6))] := by
          have e9 : iI (((6 * n) + 6 : Nat) : Int) = iI ((6 * (n + 1) : Nat) : Int) := congrArg (fun z : Nat => iI ((z : Nat) : Int)) (show (6 * n) + 6 = 6 * (n + 1) by omega)
          rw [← e9]; exact hl
        exact ih_58_1 (n + 1) (by omega)  _ (lv_sub hl [2, 3, 4, 1, 0] rfl)
      · skip
        refine lv_aload_n hx hb dX1_isDerived_70 rfl (lv_at hl 0 rfl) ?_
        refine lv_iload_n hx hb dX1_isDerived_71 rfl (lv_at hl 1 rfl) ?_
        refine lv_aload_n hx hb dX1_isDerived_72 rfl (lv_at hl 0 rfl) ?_
        refine lv_iload_n hx hb dX1_isDerived_73 rfl (lv_at hl 1 rfl) ?_
        refine rd_call (va_runV (As := [.int (iI ((r : Nat) : Int))]) (rest := [.int (iI ((r : Nat) : Int)), .ref m0]) ⟨hx, hb, hml, hown, hts⟩ (mX1_itself l dC dI cI m0 t0 k0 p0 a0 a1 K q (iI 0) w h0 h1 hw hq r (by omega)) (cwV 1 hts gX1_isDerived_X1_itself rfl rfl rfl hvX1_itself ⟨Nat.le_of_ble_eq_true rfl, Nat.le_of_ble_eq_true rfl⟩) (bW_pre (ci := 1) (q0 := 0) hK hP rfl rfl rfl) rfl rfl hl.1 rfl (lv_room (Nat.le_of_ble_eq_true rfl)) dX1_isDerived_74 ⟨Nat.le_of_ble_eq_true rfl, Nat.le_of_ble_eq_true rfl⟩) ?_
        have hr_74 := rw_lt h0 h1 r (i := 0) (by omega)
        refine lv_iload hx hb dX1_isDerived_77 (lv_at hl 4 rfl) ?_
        refine lv_iload_n hx hb dX1_isDerived_79 rfl (lv_at hl 2 rfl) ?_
        refine rd_call (va_runV (As := [.int (iI ((r : Nat) : Int)), .int (iI ((rw_ r a0 a1 0 : Nat) : Int)), .int (iI ((6 * n : Nat) : Int)), .int (iI 6)]) (rest := []) ⟨hx, hb, hml, hown, hts⟩ (mX1_setOf l dC dI cI m0 t0 k0 p0 a0 a1 K q (iI 0) w h0 h1 hw hq r (rw_ r a0 a1 0) (6 * n) 6 (by omega) (by omega) (by omega)) (cwV 4 hts gX1_isDerived_X1_setOf rfl rfl rfl hvX1_setOf ⟨Nat.le_of_ble_eq_true rfl, Nat.le_of_ble_eq_true rfl⟩) (bW_pre (ci := 1) (q0 := 0) hK hP rfl rfl rfl) rfl rfl hl.1 rfl (lv_room (Nat.le_of_ble_eq_true rfl)) dX1_isDerived_80 ⟨Nat.le_of_ble_eq_true rfl, Nat.le_of_ble_eq_true rfl⟩) ?_
        have hs_80 := setF_lt (fm_lt (rw_ r a0 a1) (rw_ r a0 a1 0)) (6 * n) 6
        refine rd_call (va_runS (As := [.int (iI ((setF (fm (rw_ r a0 a1) (rw_ r a0 a1 0)) (6 * n) 6 : Nat) : Int))]) (rest := []) ⟨hx, hb, hml, hown, hts⟩ (mX1_least l (setF (fm (rw_ r a0 a1) (rw_ r a0 a1 0)) (6 * n) 6) (by omega)) (va_cwS 1 hts gX1_isDerived_X1_least rfl rfl rfl hdX1_least ⟨Nat.le_of_ble_eq_true rfl, Nat.le_of_ble_eq_true rfl⟩) tt_pre rfl rfl hl.1 rfl (lv_room (Nat.le_of_ble_eq_true rfl)) dX1_isDerived_83 ⟨Nat.le_of_ble_eq_true rfl, Nat.le_of_ble_eq_true rfl⟩) ?_
        have hl_83 := lsN_le (setF (fm (rw_ r a0 a1) (rw_ r a0 a1 0)) (6 * n) 6) 12
        refine lv_aload_n hx hb dX1_isDerived_86 rfl (lv_at hl 0 rfl) ?_
        refine lv_iload_n hx hb dX1_isDerived_87 rfl (lv_at hl 1 rfl) ?_
        refine lv_aload_n hx hb dX1_isDerived_88 rfl (lv_at hl 0 rfl) ?_
        refine lv_iload_n hx hb dX1_isDerived_89 rfl (lv_at hl 1 rfl) ?_
        refine rd_call (va_runV (As := [.int (iI ((r : Nat) : Int))]) (rest := [.int (iI ((r : Nat) : Int)), .ref m0, .int (iI ((lsN (setF (fm (rw_ r a0 a1) (rw_ r a0 a1 0)) (6 * n) 6) 12 : Nat) : Int))]) ⟨hx, hb, hml, hown, hts⟩ (mX1_itself l dC dI cI m0 t0 k0 p0 a0 a1 K q (iI 0) w h0 h1 hw hq r (by omega)) (cwV 1 hts gX1_isDerived_X1_itself rfl rfl rfl hvX1_itself ⟨Nat.le_of_ble_eq_true rfl, Nat.le_of_ble_eq_true rfl⟩) (bW_pre (ci := 1) (q0 := 0) hK hP rfl rfl rfl) rfl rfl hl.1 rfl (lv_room (Nat.le_of_ble_eq_true rfl)) dX1_isDerived_90 ⟨Nat.le_of_ble_eq_true rfl, Nat.le_of_ble_eq_true rfl⟩) ?_
        have hr_90 := rw_lt h0 h1 r (i := 0) (by omega)
        refine ib_const hx hb dX1_isDerived_93 ?_
        refine lv_iload_n hx hb dX1_isDerived_94 rfl (lv_at hl 2 rfl) ?_
        refine rd_call (va_runV (As := [.int (iI ((r : Nat) : Int)), .int (iI ((rw_ r a0 a1 0 : Nat) : Int)), .int (iI 0), .int (iI 6)]) (rest := [.int (iI ((lsN (setF (fm (rw_ r a0 a1) (rw_ r a0 a1 0)) (6 * n) 6) 12 : Nat) : Int))]) ⟨hx, hb, hml, hown, hts⟩ (mX1_setOf l dC dI cI m0 t0 k0 p0 a0 a1 K q (iI 0) w h0 h1 hw hq r (rw_ r a0 a1 0) 0 6 (by omega) (by omega) (by omega)) (cwV 4 hts gX1_isDerived_X1_setOf rfl rfl rfl hvX1_setOf ⟨Nat.le_of_ble_eq_true rfl, Nat.le_of_ble_eq_true rfl⟩) (bW_pre (ci := 1) (q0 := 0) hK hP rfl rfl rfl) rfl rfl hl.1 rfl (lv_room (Nat.le_of_ble_eq_true rfl)) dX1_isDerived_95 ⟨Nat.le_of_ble_eq_true rfl, Nat.le_of_ble_eq_true rfl⟩) ?_
        have hs_95 := setF_lt (fm_lt (rw_ r a0 a1) (rw_ r a0 a1 0)) 0 6
        refine rd_call (va_runS (As := [.int (iI ((setF (fm (rw_ r a0 a1) (rw_ r a0 a1 0)) 0 6 : Nat) : Int))]) (rest := [.int (iI ((lsN (setF (fm (rw_ r a0 a1) (rw_ r a0 a1 0)) (6 * n) 6) 12 : Nat) : Int))]) ⟨hx, hb, hml, hown, hts⟩ (mX1_least l (setF (fm (rw_ r a0 a1) (rw_ r a0 a1 0)) 0 6) (by omega)) (va_cwS 1 hts gX1_isDerived_X1_least rfl rfl rfl hdX1_least ⟨Nat.le_of_ble_eq_true rfl, Nat.le_of_ble_eq_true rfl⟩) tt_pre rfl rfl hl.1 rfl (lv_room (Nat.le_of_ble_eq_true rfl)) dX1_isDerived_98 ⟨Nat.le_of_ble_eq_true rfl, Nat.le_of_ble_eq_true rfl⟩) ?_
        have hl_98 := lsN_le (setF (fm (rw_ r a0 a1) (rw_ r a0 a1 0)) 0 6) 12
        refine ib_icmp_ne (tgt := 108) hx hb dX1_isDerived_101 (by decide) ⟨by omega, by omega⟩ ⟨by omega, by omega⟩ (fun c_101 => ?_) (fun c_101 => ?_)
        · skip
          refine ib_const hx hb dX1_isDerived_108 ?_
          refine lv_istore (lv' := [(4, .int (iI 0)), (0, .ref m0), (1, .int (iI ((r : Nat) : Int))), (2, .int (iI 6)), (5, .int (iI ((6 * n : Nat) : Int)))]) hx hb dX1_isDerived_109 hl (by decide) rfl (fun ls hl => ?_)
          refine lv_iload hx hb dX1_isDerived_111 (lv_at hl 4 rfl) ?_
          refine lv_iload_n hx hb dX1_isDerived_113 rfl (lv_at hl 3 rfl) ?_
          refine ib_add (z := (((6 * n) + 6 : Nat) : Int)) hx hb dX1_isDerived_114 (by omega) ?_
          refine lv_istore (lv' := [(5, .int (iI (((6 * n) + 6 : Nat) : Int))), (4, .int (iI 0)), (0, .ref m0), (1, .int (iI ((r : Nat) : Int))), (2, .int (iI 6))]) hx hb dX1_isDerived_115 hl (by decide) rfl (fun ls hl => ?_)
          refine lv_goto (tgt := 58) hx hb dX1_isDerived_117 (by decide) ?_
          have hl : lv_has ls 6 [(5, .int (iI (((6 * n) + 6 : Nat) : Int))), (4, .int (iI (bI (alN (deB (rw_ r a0 a1) 6) (n + 1) = true)))), (0, .ref m0), (1, .int (iI ((r : Nat) : Int))), (2, .int (iI 6))] := by
            have e9 : iI 0 = iI (bI (alN (deB (rw_ r a0 a1) 6) (n + 1) = true)) := al_2 (decide_eq_false (by omega))
            rw [← e9]; exact hl
          have hl : lv_has ls 6 [(5, .int (iI ((6 * (n + 1) : Nat) : Int))), (4, .int (iI (bI (alN (deB (rw_ r a0 a1) 6) (n + 1) = true)))), (0, .ref m0), (1, .int (iI ((r : Nat) : Int))), (2, .int (iI 6))] := by
            have e9 : iI (((6 * n) + 6 : Nat) : Int) = iI ((6 * (n + 1) : Nat) : Int) := congrArg (fun z : Nat => iI ((z : Nat) : Int)) (show (6 * n) + 6 = 6 * (n + 1) by omega)
            rw [← e9]; exact hl
          exact ih_58_1 (n + 1) (by omega)  _ (lv_sub hl [2, 3, 4, 1, 0] rfl)
        · skip
          refine ib_const hx hb dX1_isDerived_104 ?_
          refine lv_goto (tgt := 109) hx hb dX1_isDerived_105 (by decide) ?_
          refine lv_istore (lv' := [(4, .int (iI 1)), (0, .ref m0), (1, .int (iI ((r : Nat) : Int))), (2, .int (iI 6)), (5, .int (iI ((6 * n : Nat) : Int)))]) hx hb dX1_isDerived_109 hl (by decide) rfl (fun ls hl => ?_)
          refine lv_iload hx hb dX1_isDerived_111 (lv_at hl 4 rfl) ?_
          refine lv_iload_n hx hb dX1_isDerived_113 rfl (lv_at hl 3 rfl) ?_
          refine ib_add (z := (((6 * n) + 6 : Nat) : Int)) hx hb dX1_isDerived_114 (by omega) ?_
          refine lv_istore (lv' := [(5, .int (iI (((6 * n) + 6 : Nat) : Int))), (4, .int (iI 1)), (0, .ref m0), (1, .int (iI ((r : Nat) : Int))), (2, .int (iI 6))]) hx hb dX1_isDerived_115 hl (by decide) rfl (fun ls hl => ?_)
          refine lv_goto (tgt := 58) hx hb dX1_isDerived_117 (by decide) ?_
          have hl : lv_has ls 6 [(5, .int (iI (((6 * n) + 6 : Nat) : Int))), (4, .int (iI (bI (alN (deB (rw_ r a0 a1) 6) (n + 1) = true)))), (0, .ref m0), (1, .int (iI ((r : Nat) : Int))), (2, .int (iI 6))] := by
            have e9 : iI 1 = iI (bI (alN (deB (rw_ r a0 a1) 6) (n + 1) = true)) := al_1 c_67 (decide_eq_true (by omega))
            rw [← e9]; exact hl
          have hl : lv_has ls 6 [(5, .int (iI ((6 * (n + 1) : Nat) : Int))), (4, .int (iI (bI (alN (deB (rw_ r a0 a1) 6) (n + 1) = true)))), (0, .ref m0), (1, .int (iI ((r : Nat) : Int))), (2, .int (iI 6))] := by
            have e9 : iI (((6 * n) + 6 : Nat) : Int) = iI ((6 * (n + 1) : Nat) : Int) := congrArg (fun z : Nat => iI ((z : Nat) : Int)) (show (6 * n) + 6 = 6 * (n + 1) by omega)
            rw [← e9]; exact hl
          exact ih_58_1 (n + 1) (by omega)  _ (lv_sub hl [2, 3, 4, 1, 0] rfl)
  exact lp_58_1 2 0 (by omega)  _ (lv_sub hl [3, 4, 5, 1, 0] rfl)

set_option maxHeartbeats 4000000 in
set_option maxRecDepth 100000 in
theorem mX1_isDerived_ok12 (l : Launch) (dC : Nat → ClassId) (dI : Nat → Nat → Nat) (cI : ClassId) (m0 t0 k0 p0 : Nat) (a0 a1 K q : Nat → Nat) (th : Int32) (w : Nat) (h0 : lt12 a0) (h1 : lt12 a1) (hw : w ≤ 12) (hq : ∀ i, i < w → q i < 12) (r : Nat) (hr9 : r < 2) : wr l yX1_isDerived wsX1_isDerived { frames := 3, cells := 0, slots := 0, locals := 74 } [.ref m0, .int (iI ((r : Nat) : Int)), .int (iI 12)] (dC, dI) [(m0, .inr (1, [.int th, .ref t0, .ref k0, .ref p0, .int (iI ((w : Nat) : Int))])), (t0, .inl (cI, 24, .inl (fun j => iI ((tb a0 a1 j : Nat) : Int)))), (k0, .inl (cI, 12, .inl (fun j => iI ((K j : Nat) : Int)))), (p0, .inl (cI, 12, .inl (fun j => iI ((q j : Nat) : Int))))] [(cI, .int)] [(m0, .inr (1, [.int (iI 0), .ref t0, .ref k0, .ref p0, .int (iI ((w : Nat) : Int))])), (t0, .inl (cI, 24, .inl (fun j => iI ((tb a0 a1 j : Nat) : Int)))), (k0, .inl (cI, 12, .inl (fun j => iI ((K j : Nat) : Int)))), (p0, .inl (cI, 12, .inl (fun j => iI ((q j : Nat) : Int))))] (some (.int (iI (bI (alN (deB (rw_ r a0 a1) 12) 1 = true))))) := by
  refine Met.ofW (cc := cX1_isDerived) (maxL := 6) (ret := (some .boolean)) (by decide) rfl ?_
  intro P0 e s m args below meth c s₁ B hml hv
  obtain ⟨rfl, hP, hK, hD0⟩ := hv
  have hx := B.exec
  have hb := B.bytes
  have hr := B.returns
  have hts := atoms_spec (ws := wsX1_isDerived) B.pre
  have hown : s.vm.findClass RX1 = some m.cls := findClass_of_methodNamed B.named
  have hlocks := B.notSynchronized
  have hinX : ∀ w ∈ u_ws RX1 TX1 5, w ∈ wsX1_isDerived := by decide +kernel
  have hD : va_D (inW [(m0, .inr (1, [.int th, .ref t0, .ref k0, .ref p0, .int (iI ((w : Nat) : Int))])), (t0, .inl (cI, 24, .inl (fun j => iI ((tb a0 a1 j : Nat) : Int)))), (k0, .inl (cI, 12, .inl (fun j => iI ((K j : Nat) : Int)))), (p0, .inl (cI, 12, .inl (fun j => iI ((q j : Nat) : Int))))]) [(m0, .inr (1, [.int th, .ref t0, .ref k0, .ref p0, .int (iI ((w : Nat) : Int))])), (t0, .inl (cI, 24, .inl (fun j => iI ((tb a0 a1 j : Nat) : Int)))), (k0, .inl (cI, 12, .inl (fun j => iI ((K j : Nat) : Int)))), (p0, .inl (cI, 12, .inl (fun j => iI ((q j : Nat) : Int))))] := va_D_in hD0
  have hS : va_S (inW [(m0, .inr (1, [.int th, .ref t0, .ref k0, .ref p0, .int (iI ((w : Nat) : Int))])), (t0, .inl (cI, 24, .inl (fun j => iI ((tb a0 a1 j : Nat) : Int)))), (k0, .inl (cI, 12, .inl (fun j => iI ((K j : Nat) : Int)))), (p0, .inl (cI, 12, .inl (fun j => iI ((q j : Nat) : Int))))]) s.heap s.heap [] := va_S.rf
  have hl := lv_entry ([.ref m0, .int (iI ((r : Nat) : Int)), .int (iI 12)]) (n := 6) (Nat.le_of_ble_eq_true rfl)
  rw [lg_entry_eq]
  generalize (lg_sl ([.ref m0, .int (iI ((r : Nat) : Int)), .int (iI 12)]) ++ List.replicate (6 - (lg_sl ([.ref m0, .int (iI ((r : Nat) : Int)), .int (iI 12)])).length) Slot.unset).toArray = ls at hl ⊢
  have hl : lv_has ls 6 [(0, .ref m0), (1, .int (iI ((r : Nat) : Int))), (2, .int (iI 12))] := hl
  refine lv_iload_n hx hb dX1_isDerived_0 rfl (lv_at hl 2 rfl) ?_
  refine ib_const hx hb dX1_isDerived_1 ?_
  refine ib_bi hx hb dX1_isDerived_2 (by decide) ?_
  refine rd_call (va_runS (As := [.int (iI 12), .int (iI 1), .int (iI 12)]) (rest := []) ⟨hx, hb, hml, hown, hts⟩ (mX1_in l 12 1 12 ⟨by omega, by omega⟩ ⟨by omega, by omega⟩ ⟨by omega, by omega⟩) (va_cwS 3 hts gX1_isDerived_X1_in rfl rfl rfl hdX1_in ⟨Nat.le_of_ble_eq_true rfl, Nat.le_of_ble_eq_true rfl⟩) tt_pre rfl rfl hl.1 rfl (lv_room (Nat.le_of_ble_eq_true rfl)) dX1_isDerived_4 ⟨Nat.le_of_ble_eq_true rfl, Nat.le_of_ble_eq_true rfl⟩) ?_
  refine bb_eq (tgt := 21) hx hb dX1_isDerived_7 (by decide) (fun c_7 => absurd c_7 (by omega)) (fun c_7 => ?_)
  refine ib_bi hx hb dX1_isDerived_10 (by decide) ?_
  refine lv_iload_n hx hb dX1_isDerived_12 rfl (lv_at hl 2 rfl) ?_
  refine ib_rem (z := 0) hx hb dX1_isDerived_13 (by omega) (by omega) (by omega) (by omega) (by first | omega | rfl) ?_
  refine ib_if_ne (tgt := 21) hx hb dX1_isDerived_14 (by decide) ⟨by omega, by omega⟩ (fun c_14 => absurd c_14 (by decide)) (fun c_14 => ?_)
  refine ib_const hx hb dX1_isDerived_17 ?_
  refine lv_goto (tgt := 22) hx hb dX1_isDerived_18 (by decide) ?_
  refine lv_istore_n (lv' := [(3, .int (iI 1)), (0, .ref m0), (1, .int (iI ((r : Nat) : Int))), (2, .int (iI 12))]) hx hb dX1_isDerived_22 rfl hl (by decide) rfl (fun ls hl => ?_)
  refine lv_aload_n hx hb dX1_isDerived_23 rfl (lv_at hl 1 rfl) ?_
  refine lv_iload_n hx hb dX1_isDerived_24 rfl (lv_at hl 2 rfl) ?_
  refine rd_call (va_runS (As := [.int (iI ((r : Nat) : Int))]) (rest := [.ref m0]) ⟨hx, hb, hml, hown, hts⟩ (mX1_isRow l ((r : Nat) : Int) ⟨by omega, by omega⟩) (va_cwS 1 hts gX1_isDerived_X1_isRow rfl rfl rfl hdX1_isRow ⟨Nat.le_of_ble_eq_true rfl, Nat.le_of_ble_eq_true rfl⟩) tt_pre rfl rfl hl.1 rfl (lv_room (Nat.le_of_ble_eq_true rfl)) dX1_isDerived_25 ⟨Nat.le_of_ble_eq_true rfl, Nat.le_of_ble_eq_true rfl⟩) ?_
  refine bb_ne (tgt := 35) hx hb dX1_isDerived_28 (by decide) (fun c_28 => ?_) (fun c_28 => absurd c_28 (by omega))
  refine lv_iload_n hx hb dX1_isDerived_35 rfl (lv_at hl 0 rfl) ?_
  refine ib_if_eq (tgt := 43) hx hb dX1_isDerived_36 (by decide) ⟨by omega, by omega⟩ (fun c_36 => absurd c_36 (by decide)) (fun c_36 => ?_)
  refine ib_const hx hb dX1_isDerived_39 ?_
  refine lv_goto (tgt := 44) hx hb dX1_isDerived_40 (by decide) ?_
  refine wr_call (va_runV (As := [.int (iI 0)]) (rest := []) ⟨hx, hb, hml, hown, hts⟩ (mX1_goesWell l dC dI cI m0 t0 k0 p0 a0 a1 K q th w h0 h1 hw hq 0 ⟨by omega, by omega⟩) (cwV 1 hts gX1_isDerived_X1_goesWell rfl rfl rfl hvX1_goesWell ⟨Nat.le_of_ble_eq_true rfl, Nat.le_of_ble_eq_true rfl⟩) (bD_pre (ci := 1) (q0 := 0) hK hP hD rfl rfl rfl) rfl rfl hl.1 rfl (lv_room (Nat.le_of_ble_eq_true rfl)) dX1_isDerived_44 ⟨Nat.le_of_ble_eq_true rfl, Nat.le_of_ble_eq_true rfl⟩) hS (fun q9 h => inW_same (w := [(m0, .inr (1, [.int th, .ref t0, .ref k0, .ref p0, .int (iI ((w : Nat) : Int))])), (t0, .inl (cI, 24, .inl (fun j => iI ((tb a0 a1 j : Nat) : Int)))), (k0, .inl (cI, 12, .inl (fun j => iI ((K j : Nat) : Int)))), (p0, .inl (cI, 12, .inl (fun j => iI ((q j : Nat) : Int))))]) (w' := [(m0, .inr (1, [.int th, .ref t0, .ref k0, .ref p0, .int (iI ((w : Nat) : Int))])), (t0, .inl (cI, 24, .inl (fun j => iI ((tb a0 a1 j : Nat) : Int)))), (k0, .inl (cI, 12, .inl (fun j => iI ((K j : Nat) : Int)))), (p0, .inl (cI, 12, .inl (fun j => iI ((q j : Nat) : Int))))]) rfl h) (fun H locs hP hz hk hS => ?_)
  have hD : va_D (inW [(m0, .inr (1, [.int th, .ref t0, .ref k0, .ref p0, .int (iI ((w : Nat) : Int))])), (t0, .inl (cI, 24, .inl (fun j => iI ((tb a0 a1 j : Nat) : Int)))), (k0, .inl (cI, 12, .inl (fun j => iI ((K j : Nat) : Int)))), (p0, .inl (cI, 12, .inl (fun j => iI ((q j : Nat) : Int))))]) [(m0, .inr (1, [.int (iI 0), .ref t0, .ref k0, .ref p0, .int (iI ((w : Nat) : Int))])), (t0, .inl (cI, 24, .inl (fun j => iI ((tb a0 a1 j : Nat) : Int)))), (k0, .inl (cI, 12, .inl (fun j => iI ((K j : Nat) : Int)))), (p0, .inl (cI, 12, .inl (fun j => iI ((q j : Nat) : Int))))] := va_D_same (w := [(m0, .inr (1, [.int th, .ref t0, .ref k0, .ref p0, .int (iI ((w : Nat) : Int))])), (t0, .inl (cI, 24, .inl (fun j => iI ((tb a0 a1 j : Nat) : Int)))), (k0, .inl (cI, 12, .inl (fun j => iI ((K j : Nat) : Int)))), (p0, .inl (cI, 12, .inl (fun j => iI ((q j : Nat) : Int))))]) rfl hD
  refine st_i (y := iI 1) (congrArg iI (bI_t (by decide))) ?_
  refine ib_if_ne (tgt := 52) hx hb dX1_isDerived_47 (by decide) ⟨by omega, by omega⟩ (fun c_47 => ?_) (fun c_47 => absurd c_47 (by decide))
  refine ib_const hx hb dX1_isDerived_52 ?_
  refine lv_istore (lv' := [(4, .int (iI 1)), (3, .int (iI 1)), (0, .ref m0), (1, .int (iI ((r : Nat) : Int))), (2, .int (iI 12))]) hx hb dX1_isDerived_53 hl (by decide) rfl (fun ls hl => ?_)
  have hl : lv_has ls 6 [(4, .int (iI (bI (alN (deB (rw_ r a0 a1) 12) 0 = true)))), (3, .int (iI 1)), (0, .ref m0), (1, .int (iI ((r : Nat) : Int))), (2, .int (iI 12))] := by
    have e9 : iI 1 = iI (bI (alN (deB (rw_ r a0 a1) 12) 0 = true)) := congrArg iI (bI_t (by simp [alN])).symm
    rw [← e9]; exact hl
  refine ib_const hx hb dX1_isDerived_55 ?_
  refine lv_istore (lv' := [(5, .int (iI 0)), (4, .int (iI (bI (alN (deB (rw_ r a0 a1) 12) 0 = true)))), (3, .int (iI 1)), (0, .ref m0), (1, .int (iI ((r : Nat) : Int))), (2, .int (iI 12))]) hx hb dX1_isDerived_56 hl (by decide) rfl (fun ls hl => ?_)
  have lp_58_1 : ∀ (j n : Nat), n + j = 1 → ∀ ls : Array Slot, lv_has ls 6 [(0, .ref m0), (1, .int (iI ((r : Nat) : Int))), (2, .int (iI 12)), (4, .int (iI (bI (alN (deB (rw_ r a0 a1) 12) n = true)))), (5, .int (iI ((12 * n : Nat) : Int)))] → W P0 l e (headSpec wsX1_isDerived { frames := 3, cells := 0, slots := 0, locals := 74 }).room s m ([.ref m0, .int (iI ((r : Nat) : Int)), .int (iI 12)] : List Value).toArray below meth c H locs 0 0 (MQ below (wrQ (dC, dI) (inW [(m0, .inr (1, [.int th, .ref t0, .ref k0, .ref p0, .int (iI ((w : Nat) : Int))])), (t0, .inl (cI, 24, .inl (fun j => iI ((tb a0 a1 j : Nat) : Int)))), (k0, .inl (cI, 12, .inl (fun j => iI ((K j : Nat) : Int)))), (p0, .inl (cI, 12, .inl (fun j => iI ((q j : Nat) : Int))))]) [(m0, .inr (1, [.int (iI 0), .ref t0, .ref k0, .ref p0, .int (iI ((w : Nat) : Int))])), (t0, .inl (cI, 24, .inl (fun j => iI ((tb a0 a1 j : Nat) : Int)))), (k0, .inl (cI, 12, .inl (fun j => iI ((K j : Nat) : Int)))), (p0, .inl (cI, 12, .inl (fun j => iI ((q j : Nat) : Int))))] (some (.int (iI (bI (alN (deB (rw_ r a0 a1) 12) 1 = true)))))) ([.ref m0, .int (iI ((r : Nat) : Int)), .int (iI 12)] : List Value).toArray s 0 0 (inW [(m0, .inr (1, [.int th, .ref t0, .ref k0, .ref p0, .int (iI ((w : Nat) : Int))])), (t0, .inl (cI, 24, .inl (fun j => iI ((tb a0 a1 j : Nat) : Int)))), (k0, .inl (cI, 12, .inl (fun j => iI ((K j : Nat) : Int)))), (p0, .inl (cI, 12, .inl (fun j => iI ((q j : Nat) : Int))))])) (F0 m 58 ls []) := by
    intro j
    induction j with
    | zero =>
      intro n hn_58  ls hl
      refine lv_iload hx hb dX1_isDerived_58 (lv_at hl 4 rfl) ?_
      refine ib_bi hx hb dX1_isDerived_60 (by decide) ?_
      refine ib_icmp_ge (tgt := 120) hx hb dX1_isDerived_62 (by decide) ⟨by omega, by omega⟩ ⟨by omega, by omega⟩ (fun c_62 => ?_) (fun c_62 => absurd c_62 (by omega))
      refine lv_iload hx hb dX1_isDerived_120 (lv_at hl 3 rfl) ?_
      refine st_i (y := iI (bI (alN (deB (rw_ r a0 a1) 12) 1 = true))) (congrArg iI (bI_eq (by rw [show n = 1 by omega]))) ?_
      exact W.zret hx hb hr (bI_nar _) (fun t ht _ => ⟨rfl, by rw [ht]; exact hP, hS.F ht⟩) hS.2.2 dX1_isDerived_122
    | succ j ih_58_1 =>
      intro n hn_58  ls hl
      refine lv_iload hx hb dX1_isDerived_58 (lv_at hl 4 rfl) ?_
      refine ib_bi hx hb dX1_isDerived_60 (by decide) ?_
      refine ib_icmp_ge (tgt := 120) hx hb dX1_isDerived_62 (by decide) ⟨by omega, by omega⟩ ⟨by omega, by omega⟩ (fun c_62 => absurd c_62 (by omega)) (fun c_62 => ?_)
      refine lv_iload hx hb dX1_isDerived_65 (lv_at hl 3 rfl) ?_
      refine bb_eq (tgt := 108) hx hb dX1_isDerived_67 (by decide) (fun c_67 => ?_) (fun c_67 => ?_)
      · skip
        refine ib_const hx hb dX1_isDerived_108 ?_
        refine lv_istore (lv' := [(4, .int (iI 0)), (0, .ref m0), (1, .int (iI ((r : Nat) : Int))), (2, .int (iI 12)), (5, .int (iI ((12 * n : Nat) : Int)))]) hx hb dX1_isDerived_109 hl (by decide) rfl (fun ls hl => ?_)
        refine lv_iload hx hb dX1_isDerived_111 (lv_at hl 4 rfl) ?_
        refine lv_iload_n hx hb dX1_isDerived_113 rfl (lv_at hl 3 rfl) ?_
        refine ib_add (z := (((12 * n) + 12 : Nat) : Int)) hx hb dX1_isDerived_114 (by omega) ?_
        refine lv_istore (lv' := [(5, .int (iI (((12 * n) + 12 : Nat) : Int))), (4, .int (iI 0)), (0, .ref m0), (1, .int (iI ((r : Nat) : Int))), (2, .int (iI 12))]) hx hb dX1_isDerived_115 hl (by decide) rfl (fun ls hl => ?_)
        refine lv_goto (tgt := 58) hx hb dX1_isDerived_117 (by decide) ?_
        have hl : lv_has ls 6 [(5, .int (iI (((12 * n) + 12 : Nat) : Int))), (4, .int (iI (bI (alN (deB (rw_ r a0 a1) 12) (n + 1) = true)))), (0, .ref m0), (1, .int (iI ((r : Nat) : Int))), (2, .int (iI 12))] := by
          have e9 : iI 0 = iI (bI (alN (deB (rw_ r a0 a1) 12) (n + 1) = true)) := al_0 c_67
          rw [← e9]; exact hl
        have hl : lv_has ls 6 [(5, .int (iI ((12 * (n + 1) : Nat) : Int))), (4, .int (iI (bI (alN (deB (rw_ r a0 a1) 12) (n + 1) = true)))), (0, .ref m0), (1, .int (iI ((r : Nat) : Int))), (2, .int (iI 12))] := by
          have e9 : iI (((12 * n) + 12 : Nat) : Int) = iI ((12 * (n + 1) : Nat) : Int) := congrArg (fun z : Nat => iI ((z : Nat) : Int)) (show (12 * n) + 12 = 12 * (n + 1) by omega)
          rw [← e9]; exact hl
        exact ih_58_1 (n + 1) (by omega)  _ (lv_sub hl [2, 3, 4, 1, 0] rfl)
      · skip
        refine lv_aload_n hx hb dX1_isDerived_70 rfl (lv_at hl 0 rfl) ?_
        refine lv_iload_n hx hb dX1_isDerived_71 rfl (lv_at hl 1 rfl) ?_
        refine lv_aload_n hx hb dX1_isDerived_72 rfl (lv_at hl 0 rfl) ?_
        refine lv_iload_n hx hb dX1_isDerived_73 rfl (lv_at hl 1 rfl) ?_
        refine rd_call (va_runV (As := [.int (iI ((r : Nat) : Int))]) (rest := [.int (iI ((r : Nat) : Int)), .ref m0]) ⟨hx, hb, hml, hown, hts⟩ (mX1_itself l dC dI cI m0 t0 k0 p0 a0 a1 K q (iI 0) w h0 h1 hw hq r (by omega)) (cwV 1 hts gX1_isDerived_X1_itself rfl rfl rfl hvX1_itself ⟨Nat.le_of_ble_eq_true rfl, Nat.le_of_ble_eq_true rfl⟩) (bW_pre (ci := 1) (q0 := 0) hK hP rfl rfl rfl) rfl rfl hl.1 rfl (lv_room (Nat.le_of_ble_eq_true rfl)) dX1_isDerived_74 ⟨Nat.le_of_ble_eq_true rfl, Nat.le_of_ble_eq_true rfl⟩) ?_
        have hr_74 := rw_lt h0 h1 r (i := 0) (by omega)
        refine lv_iload hx hb dX1_isDerived_77 (lv_at hl 4 rfl) ?_
        refine lv_iload_n hx hb dX1_isDerived_79 rfl (lv_at hl 2 rfl) ?_
        refine rd_call (va_runV (As := [.int (iI ((r : Nat) : Int)), .int (iI ((rw_ r a0 a1 0 : Nat) : Int)), .int (iI ((12 * n : Nat) : Int)), .int (iI 12)]) (rest := []) ⟨hx, hb, hml, hown, hts⟩ (mX1_setOf l dC dI cI m0 t0 k0 p0 a0 a1 K q (iI 0) w h0 h1 hw hq r (rw_ r a0 a1 0) (12 * n) 12 (by omega) (by omega) (by omega)) (cwV 4 hts gX1_isDerived_X1_setOf rfl rfl rfl hvX1_setOf ⟨Nat.le_of_ble_eq_true rfl, Nat.le_of_ble_eq_true rfl⟩) (bW_pre (ci := 1) (q0 := 0) hK hP rfl rfl rfl) rfl rfl hl.1 rfl (lv_room (Nat.le_of_ble_eq_true rfl)) dX1_isDerived_80 ⟨Nat.le_of_ble_eq_true rfl, Nat.le_of_ble_eq_true rfl⟩) ?_
        have hs_80 := setF_lt (fm_lt (rw_ r a0 a1) (rw_ r a0 a1 0)) (12 * n) 12
        refine rd_call (va_runS (As := [.int (iI ((setF (fm (rw_ r a0 a1) (rw_ r a0 a1 0)) (12 * n) 12 : Nat) : Int))]) (rest := []) ⟨hx, hb, hml, hown, hts⟩ (mX1_least l (setF (fm (rw_ r a0 a1) (rw_ r a0 a1 0)) (12 * n) 12) (by omega)) (va_cwS 1 hts gX1_isDerived_X1_least rfl rfl rfl hdX1_least ⟨Nat.le_of_ble_eq_true rfl, Nat.le_of_ble_eq_true rfl⟩) tt_pre rfl rfl hl.1 rfl (lv_room (Nat.le_of_ble_eq_true rfl)) dX1_isDerived_83 ⟨Nat.le_of_ble_eq_true rfl, Nat.le_of_ble_eq_true rfl⟩) ?_
        have hl_83 := lsN_le (setF (fm (rw_ r a0 a1) (rw_ r a0 a1 0)) (12 * n) 12) 12
        refine lv_aload_n hx hb dX1_isDerived_86 rfl (lv_at hl 0 rfl) ?_
        refine lv_iload_n hx hb dX1_isDerived_87 rfl (lv_at hl 1 rfl) ?_
        refine lv_aload_n hx hb dX1_isDerived_88 rfl (lv_at hl 0 rfl) ?_
        refine lv_iload_n hx hb dX1_isDerived_89 rfl (lv_at hl 1 rfl) ?_
        refine rd_call (va_runV (As := [.int (iI ((r : Nat) : Int))]) (rest := [.int (iI ((r : Nat) : Int)), .ref m0, .int (iI ((lsN (setF (fm (rw_ r a0 a1) (rw_ r a0 a1 0)) (12 * n) 12) 12 : Nat) : Int))]) ⟨hx, hb, hml, hown, hts⟩ (mX1_itself l dC dI cI m0 t0 k0 p0 a0 a1 K q (iI 0) w h0 h1 hw hq r (by omega)) (cwV 1 hts gX1_isDerived_X1_itself rfl rfl rfl hvX1_itself ⟨Nat.le_of_ble_eq_true rfl, Nat.le_of_ble_eq_true rfl⟩) (bW_pre (ci := 1) (q0 := 0) hK hP rfl rfl rfl) rfl rfl hl.1 rfl (lv_room (Nat.le_of_ble_eq_true rfl)) dX1_isDerived_90 ⟨Nat.le_of_ble_eq_true rfl, Nat.le_of_ble_eq_true rfl⟩) ?_
        have hr_90 := rw_lt h0 h1 r (i := 0) (by omega)
        refine ib_const hx hb dX1_isDerived_93 ?_
        refine lv_iload_n hx hb dX1_isDerived_94 rfl (lv_at hl 2 rfl) ?_
        refine rd_call (va_runV (As := [.int (iI ((r : Nat) : Int)), .int (iI ((rw_ r a0 a1 0 : Nat) : Int)), .int (iI 0), .int (iI 12)]) (rest := [.int (iI ((lsN (setF (fm (rw_ r a0 a1) (rw_ r a0 a1 0)) (12 * n) 12) 12 : Nat) : Int))]) ⟨hx, hb, hml, hown, hts⟩ (mX1_setOf l dC dI cI m0 t0 k0 p0 a0 a1 K q (iI 0) w h0 h1 hw hq r (rw_ r a0 a1 0) 0 12 (by omega) (by omega) (by omega)) (cwV 4 hts gX1_isDerived_X1_setOf rfl rfl rfl hvX1_setOf ⟨Nat.le_of_ble_eq_true rfl, Nat.le_of_ble_eq_true rfl⟩) (bW_pre (ci := 1) (q0 := 0) hK hP rfl rfl rfl) rfl rfl hl.1 rfl (lv_room (Nat.le_of_ble_eq_true rfl)) dX1_isDerived_95 ⟨Nat.le_of_ble_eq_true rfl, Nat.le_of_ble_eq_true rfl⟩) ?_
        have hs_95 := setF_lt (fm_lt (rw_ r a0 a1) (rw_ r a0 a1 0)) 0 12
        refine rd_call (va_runS (As := [.int (iI ((setF (fm (rw_ r a0 a1) (rw_ r a0 a1 0)) 0 12 : Nat) : Int))]) (rest := [.int (iI ((lsN (setF (fm (rw_ r a0 a1) (rw_ r a0 a1 0)) (12 * n) 12) 12 : Nat) : Int))]) ⟨hx, hb, hml, hown, hts⟩ (mX1_least l (setF (fm (rw_ r a0 a1) (rw_ r a0 a1 0)) 0 12) (by omega)) (va_cwS 1 hts gX1_isDerived_X1_least rfl rfl rfl hdX1_least ⟨Nat.le_of_ble_eq_true rfl, Nat.le_of_ble_eq_true rfl⟩) tt_pre rfl rfl hl.1 rfl (lv_room (Nat.le_of_ble_eq_true rfl)) dX1_isDerived_98 ⟨Nat.le_of_ble_eq_true rfl, Nat.le_of_ble_eq_true rfl⟩) ?_
        have hl_98 := lsN_le (setF (fm (rw_ r a0 a1) (rw_ r a0 a1 0)) 0 12) 12
        refine ib_icmp_ne (tgt := 108) hx hb dX1_isDerived_101 (by decide) ⟨by omega, by omega⟩ ⟨by omega, by omega⟩ (fun c_101 => ?_) (fun c_101 => ?_)
        · skip
          refine ib_const hx hb dX1_isDerived_108 ?_
          refine lv_istore (lv' := [(4, .int (iI 0)), (0, .ref m0), (1, .int (iI ((r : Nat) : Int))), (2, .int (iI 12)), (5, .int (iI ((12 * n : Nat) : Int)))]) hx hb dX1_isDerived_109 hl (by decide) rfl (fun ls hl => ?_)
          refine lv_iload hx hb dX1_isDerived_111 (lv_at hl 4 rfl) ?_
          refine lv_iload_n hx hb dX1_isDerived_113 rfl (lv_at hl 3 rfl) ?_
          refine ib_add (z := (((12 * n) + 12 : Nat) : Int)) hx hb dX1_isDerived_114 (by omega) ?_
          refine lv_istore (lv' := [(5, .int (iI (((12 * n) + 12 : Nat) : Int))), (4, .int (iI 0)), (0, .ref m0), (1, .int (iI ((r : Nat) : Int))), (2, .int (iI 12))]) hx hb dX1_isDerived_115 hl (by decide) rfl (fun ls hl => ?_)
          refine lv_goto (tgt := 58) hx hb dX1_isDerived_117 (by decide) ?_
          have hl : lv_has ls 6 [(5, .int (iI (((12 * n) + 12 : Nat) : Int))), (4, .int (iI (bI (alN (deB (rw_ r a0 a1) 12) (n + 1) = true)))), (0, .ref m0), (1, .int (iI ((r : Nat) : Int))), (2, .int (iI 12))] := by
            have e9 : iI 0 = iI (bI (alN (deB (rw_ r a0 a1) 12) (n + 1) = true)) := al_2 (decide_eq_false (by omega))
            rw [← e9]; exact hl
          have hl : lv_has ls 6 [(5, .int (iI ((12 * (n + 1) : Nat) : Int))), (4, .int (iI (bI (alN (deB (rw_ r a0 a1) 12) (n + 1) = true)))), (0, .ref m0), (1, .int (iI ((r : Nat) : Int))), (2, .int (iI 12))] := by
            have e9 : iI (((12 * n) + 12 : Nat) : Int) = iI ((12 * (n + 1) : Nat) : Int) := congrArg (fun z : Nat => iI ((z : Nat) : Int)) (show (12 * n) + 12 = 12 * (n + 1) by omega)
            rw [← e9]; exact hl
          exact ih_58_1 (n + 1) (by omega)  _ (lv_sub hl [2, 3, 4, 1, 0] rfl)
        · skip
          refine ib_const hx hb dX1_isDerived_104 ?_
          refine lv_goto (tgt := 109) hx hb dX1_isDerived_105 (by decide) ?_
          refine lv_istore (lv' := [(4, .int (iI 1)), (0, .ref m0), (1, .int (iI ((r : Nat) : Int))), (2, .int (iI 12)), (5, .int (iI ((12 * n : Nat) : Int)))]) hx hb dX1_isDerived_109 hl (by decide) rfl (fun ls hl => ?_)
          refine lv_iload hx hb dX1_isDerived_111 (lv_at hl 4 rfl) ?_
          refine lv_iload_n hx hb dX1_isDerived_113 rfl (lv_at hl 3 rfl) ?_
          refine ib_add (z := (((12 * n) + 12 : Nat) : Int)) hx hb dX1_isDerived_114 (by omega) ?_
          refine lv_istore (lv' := [(5, .int (iI (((12 * n) + 12 : Nat) : Int))), (4, .int (iI 1)), (0, .ref m0), (1, .int (iI ((r : Nat) : Int))), (2, .int (iI 12))]) hx hb dX1_isDerived_115 hl (by decide) rfl (fun ls hl => ?_)
          refine lv_goto (tgt := 58) hx hb dX1_isDerived_117 (by decide) ?_
          have hl : lv_has ls 6 [(5, .int (iI (((12 * n) + 12 : Nat) : Int))), (4, .int (iI (bI (alN (deB (rw_ r a0 a1) 12) (n + 1) = true)))), (0, .ref m0), (1, .int (iI ((r : Nat) : Int))), (2, .int (iI 12))] := by
            have e9 : iI 1 = iI (bI (alN (deB (rw_ r a0 a1) 12) (n + 1) = true)) := al_1 c_67 (decide_eq_true (by omega))
            rw [← e9]; exact hl
          have hl : lv_has ls 6 [(5, .int (iI ((12 * (n + 1) : Nat) : Int))), (4, .int (iI (bI (alN (deB (rw_ r a0 a1) 12) (n + 1) = true)))), (0, .ref m0), (1, .int (iI ((r : Nat) : Int))), (2, .int (iI 12))] := by
            have e9 : iI (((12 * n) + 12 : Nat) : Int) = iI ((12 * (n + 1) : Nat) : Int) := congrArg (fun z : Nat => iI ((z : Nat) : Int)) (show (12 * n) + 12 = 12 * (n + 1) by omega)
            rw [← e9]; exact hl
          exact ih_58_1 (n + 1) (by omega)  _ (lv_sub hl [2, 3, 4, 1, 0] rfl)
  exact lp_58_1 1 0 (by omega)  _ (lv_sub hl [3, 4, 5, 1, 0] rfl)

set_option maxHeartbeats 4000000 in
set_option maxRecDepth 100000 in
theorem mX1_isDerived_x1 (l : Launch) (dC : Nat → ClassId) (dI : Nat → Nat → Nat) (cI : ClassId) (m0 t0 k0 p0 : Nat) (a0 a1 K q : Nat → Nat) (th : Int32) (w : Nat) (h0 : lt12 a0) (h1 : lt12 a1) (hw : w ≤ 12) (hq : ∀ i, i < w → q i < 12) (z0 z1 : Int) (hz0 : inI z0) (hz1 : inI z1) (hbad : ¬ (z0 = 0 ∨ z0 = 1)) : wr l yX1_isDerived wsX1_isDerived { frames := 1, cells := 0, slots := 0, locals := 22 } [.ref m0, .int (iI z0), .int (iI z1)] (dC, dI) [(m0, .inr (1, [.int th, .ref t0, .ref k0, .ref p0, .int (iI ((w : Nat) : Int))])), (t0, .inl (cI, 24, .inl (fun j => iI ((tb a0 a1 j : Nat) : Int)))), (k0, .inl (cI, 12, .inl (fun j => iI ((K j : Nat) : Int)))), (p0, .inl (cI, 12, .inl (fun j => iI ((q j : Nat) : Int))))] [(cI, .int)] [(m0, .inr (1, [.int (iI 1), .ref t0, .ref k0, .ref p0, .int (iI ((w : Nat) : Int))])), (t0, .inl (cI, 24, .inl (fun j => iI ((tb a0 a1 j : Nat) : Int)))), (k0, .inl (cI, 12, .inl (fun j => iI ((K j : Nat) : Int)))), (p0, .inl (cI, 12, .inl (fun j => iI ((q j : Nat) : Int))))] (some (.int (iI 0))) := by
  refine Met.ofW (cc := cX1_isDerived) (maxL := 6) (ret := (some .boolean)) (by decide) rfl ?_
  intro P0 e s m args below meth c s₁ B hml hv
  obtain ⟨rfl, hP, hK, hD0⟩ := hv
  have hx := B.exec
  have hb := B.bytes
  have hr := B.returns
  have hts := atoms_spec (ws := wsX1_isDerived) B.pre
  have hown : s.vm.findClass RX1 = some m.cls := findClass_of_methodNamed B.named
  have hlocks := B.notSynchronized
  have hinX : ∀ w ∈ u_ws RX1 TX1 5, w ∈ wsX1_isDerived := by decide +kernel
  have hD : va_D (inW [(m0, .inr (1, [.int th, .ref t0, .ref k0, .ref p0, .int (iI ((w : Nat) : Int))])), (t0, .inl (cI, 24, .inl (fun j => iI ((tb a0 a1 j : Nat) : Int)))), (k0, .inl (cI, 12, .inl (fun j => iI ((K j : Nat) : Int)))), (p0, .inl (cI, 12, .inl (fun j => iI ((q j : Nat) : Int))))]) [(m0, .inr (1, [.int th, .ref t0, .ref k0, .ref p0, .int (iI ((w : Nat) : Int))])), (t0, .inl (cI, 24, .inl (fun j => iI ((tb a0 a1 j : Nat) : Int)))), (k0, .inl (cI, 12, .inl (fun j => iI ((K j : Nat) : Int)))), (p0, .inl (cI, 12, .inl (fun j => iI ((q j : Nat) : Int))))] := va_D_in hD0
  have hS : va_S (inW [(m0, .inr (1, [.int th, .ref t0, .ref k0, .ref p0, .int (iI ((w : Nat) : Int))])), (t0, .inl (cI, 24, .inl (fun j => iI ((tb a0 a1 j : Nat) : Int)))), (k0, .inl (cI, 12, .inl (fun j => iI ((K j : Nat) : Int)))), (p0, .inl (cI, 12, .inl (fun j => iI ((q j : Nat) : Int))))]) s.heap s.heap [] := va_S.rf
  have hl := lv_entry ([.ref m0, .int (iI z0), .int (iI z1)]) (n := 6) (Nat.le_of_ble_eq_true rfl)
  rw [lg_entry_eq]
  generalize (lg_sl ([.ref m0, .int (iI z0), .int (iI z1)]) ++ List.replicate (6 - (lg_sl ([.ref m0, .int (iI z0), .int (iI z1)])).length) Slot.unset).toArray = ls at hl ⊢
  have hl : lv_has ls 6 [(0, .ref m0), (1, .int (iI z0)), (2, .int (iI z1))] := hl
  have hza0 := hz0.1
  have hza1 := hz1.1
  have hzb0 := hz0.2
  have hzb1 := hz1.2
  refine lv_iload_n hx hb dX1_isDerived_0 rfl (lv_at hl 2 rfl) ?_
  refine ib_const hx hb dX1_isDerived_1 ?_
  refine ib_bi hx hb dX1_isDerived_2 (by decide) ?_
  refine rd_call (va_runS (As := [.int (iI z1), .int (iI 1), .int (iI 12)]) (rest := []) ⟨hx, hb, hml, hown, hts⟩ (mX1_in l z1 1 12 ⟨by omega, by omega⟩ ⟨by omega, by omega⟩ ⟨by omega, by omega⟩) (va_cwS 3 hts gX1_isDerived_X1_in rfl rfl rfl hdX1_in ⟨Nat.le_of_ble_eq_true rfl, Nat.le_of_ble_eq_true rfl⟩) tt_pre rfl rfl hl.1 rfl (lv_room (Nat.le_of_ble_eq_true rfl)) dX1_isDerived_4 ⟨Nat.le_of_ble_eq_true rfl, Nat.le_of_ble_eq_true rfl⟩) ?_
  refine bb_eq (tgt := 21) hx hb dX1_isDerived_7 (by decide) (fun c_7 => ?_) (fun c_7 => ?_)
  · skip
    refine ib_const hx hb dX1_isDerived_21 ?_
    refine lv_istore_n (lv' := [(3, .int (iI 0)), (0, .ref m0), (1, .int (iI z0)), (2, .int (iI z1))]) hx hb dX1_isDerived_22 rfl hl (by decide) rfl (fun ls hl => ?_)
    refine lv_aload_n hx hb dX1_isDerived_23 rfl (lv_at hl 1 rfl) ?_
    refine lv_iload_n hx hb dX1_isDerived_24 rfl (lv_at hl 2 rfl) ?_
    refine rd_call (va_runS (As := [.int (iI z0)]) (rest := [.ref m0]) ⟨hx, hb, hml, hown, hts⟩ (mX1_isRow l z0 ⟨by omega, by omega⟩) (va_cwS 1 hts gX1_isDerived_X1_isRow rfl rfl rfl hdX1_isRow ⟨Nat.le_of_ble_eq_true rfl, Nat.le_of_ble_eq_true rfl⟩) tt_pre rfl rfl hl.1 rfl (lv_room (Nat.le_of_ble_eq_true rfl)) dX1_isDerived_25 ⟨Nat.le_of_ble_eq_true rfl, Nat.le_of_ble_eq_true rfl⟩) ?_
    refine bb_ne (tgt := 35) hx hb dX1_isDerived_28 (by decide) (fun c_28 => ?_) (fun c_28 => ?_)
    · skip
      refine lv_iload_n hx hb dX1_isDerived_35 rfl (lv_at hl 0 rfl) ?_
      refine ib_if_eq (tgt := 43) hx hb dX1_isDerived_36 (by decide) ⟨by omega, by omega⟩ (fun c_36 => ?_) (fun c_36 => absurd c_36 (by decide))
      refine ib_const hx hb dX1_isDerived_43 ?_
      exfalso; omega
    · skip
      refine ib_const hx hb dX1_isDerived_31 ?_
      refine lv_goto (tgt := 44) hx hb dX1_isDerived_32 (by decide) ?_
      refine wr_call (va_runV (As := [.int (iI 1)]) (rest := []) ⟨hx, hb, hml, hown, hts⟩ (mX1_goesWell l dC dI cI m0 t0 k0 p0 a0 a1 K q th w h0 h1 hw hq 1 ⟨by omega, by omega⟩) (cwV 1 hts gX1_isDerived_X1_goesWell rfl rfl rfl hvX1_goesWell ⟨Nat.le_of_ble_eq_true rfl, Nat.le_of_ble_eq_true rfl⟩) (bD_pre (ci := 1) (q0 := 0) hK hP hD rfl rfl rfl) rfl rfl hl.1 rfl (lv_room (Nat.le_of_ble_eq_true rfl)) dX1_isDerived_44 ⟨Nat.le_of_ble_eq_true rfl, Nat.le_of_ble_eq_true rfl⟩) hS (fun q9 h => inW_same (w := [(m0, .inr (1, [.int th, .ref t0, .ref k0, .ref p0, .int (iI ((w : Nat) : Int))])), (t0, .inl (cI, 24, .inl (fun j => iI ((tb a0 a1 j : Nat) : Int)))), (k0, .inl (cI, 12, .inl (fun j => iI ((K j : Nat) : Int)))), (p0, .inl (cI, 12, .inl (fun j => iI ((q j : Nat) : Int))))]) (w' := [(m0, .inr (1, [.int th, .ref t0, .ref k0, .ref p0, .int (iI ((w : Nat) : Int))])), (t0, .inl (cI, 24, .inl (fun j => iI ((tb a0 a1 j : Nat) : Int)))), (k0, .inl (cI, 12, .inl (fun j => iI ((K j : Nat) : Int)))), (p0, .inl (cI, 12, .inl (fun j => iI ((q j : Nat) : Int))))]) rfl h) (fun H locs hP hz hk hS => ?_)
      have hD : va_D (inW [(m0, .inr (1, [.int th, .ref t0, .ref k0, .ref p0, .int (iI ((w : Nat) : Int))])), (t0, .inl (cI, 24, .inl (fun j => iI ((tb a0 a1 j : Nat) : Int)))), (k0, .inl (cI, 12, .inl (fun j => iI ((K j : Nat) : Int)))), (p0, .inl (cI, 12, .inl (fun j => iI ((q j : Nat) : Int))))]) [(m0, .inr (1, [.int (iI 1), .ref t0, .ref k0, .ref p0, .int (iI ((w : Nat) : Int))])), (t0, .inl (cI, 24, .inl (fun j => iI ((tb a0 a1 j : Nat) : Int)))), (k0, .inl (cI, 12, .inl (fun j => iI ((K j : Nat) : Int)))), (p0, .inl (cI, 12, .inl (fun j => iI ((q j : Nat) : Int))))] := va_D_same (w := [(m0, .inr (1, [.int th, .ref t0, .ref k0, .ref p0, .int (iI ((w : Nat) : Int))])), (t0, .inl (cI, 24, .inl (fun j => iI ((tb a0 a1 j : Nat) : Int)))), (k0, .inl (cI, 12, .inl (fun j => iI ((K j : Nat) : Int)))), (p0, .inl (cI, 12, .inl (fun j => iI ((q j : Nat) : Int))))]) rfl hD
      refine st_i (y := iI 0) (congrArg iI (bI_f (by decide))) ?_
      refine ib_if_ne (tgt := 52) hx hb dX1_isDerived_47 (by decide) ⟨by omega, by omega⟩ (fun c_47 => absurd c_47 (by decide)) (fun c_47 => ?_)
      refine ib_const hx hb dX1_isDerived_50 ?_
      exact W.zret hx hb hr (nar_0) (fun t ht _ => ⟨rfl, by rw [ht]; exact hP, hS.F ht⟩) hS.2.2 dX1_isDerived_51
  · skip
    refine ib_bi hx hb dX1_isDerived_10 (by decide) ?_
    refine lv_iload_n hx hb dX1_isDerived_12 rfl (lv_at hl 2 rfl) ?_
    refine ib_rem (z := 12 % z1) hx hb dX1_isDerived_13 (by omega) (by omega) (by omega) (by omega) (by first | omega | rfl) ?_
    have hrm : 0 ≤ 12 % z1 ∧ 12 % z1 < z1 := ⟨Int.emod_nonneg _ (by omega), Int.emod_lt_of_pos _ (by omega)⟩
    refine ib_if_ne (tgt := 21) hx hb dX1_isDerived_14 (by decide) ⟨by omega, by omega⟩ (fun c_14 => ?_) (fun c_14 => ?_)
    · skip
      refine ib_const hx hb dX1_isDerived_21 ?_
      refine lv_istore_n (lv' := [(3, .int (iI 0)), (0, .ref m0), (1, .int (iI z0)), (2, .int (iI z1))]) hx hb dX1_isDerived_22 rfl hl (by decide) rfl (fun ls hl => ?_)
      refine lv_aload_n hx hb dX1_isDerived_23 rfl (lv_at hl 1 rfl) ?_
      refine lv_iload_n hx hb dX1_isDerived_24 rfl (lv_at hl 2 rfl) ?_
      refine rd_call (va_runS (As := [.int (iI z0)]) (rest := [.ref m0]) ⟨hx, hb, hml, hown, hts⟩ (mX1_isRow l z0 ⟨by omega, by omega⟩) (va_cwS 1 hts gX1_isDerived_X1_isRow rfl rfl rfl hdX1_isRow ⟨Nat.le_of_ble_eq_true rfl, Nat.le_of_ble_eq_true rfl⟩) tt_pre rfl rfl hl.1 rfl (lv_room (Nat.le_of_ble_eq_true rfl)) dX1_isDerived_25 ⟨Nat.le_of_ble_eq_true rfl, Nat.le_of_ble_eq_true rfl⟩) ?_
      refine bb_ne (tgt := 35) hx hb dX1_isDerived_28 (by decide) (fun c_28 => ?_) (fun c_28 => ?_)
      · skip
        refine lv_iload_n hx hb dX1_isDerived_35 rfl (lv_at hl 0 rfl) ?_
        refine ib_if_eq (tgt := 43) hx hb dX1_isDerived_36 (by decide) ⟨by omega, by omega⟩ (fun c_36 => ?_) (fun c_36 => absurd c_36 (by decide))
        refine ib_const hx hb dX1_isDerived_43 ?_
        exfalso; omega
      · skip
        refine ib_const hx hb dX1_isDerived_31 ?_
        refine lv_goto (tgt := 44) hx hb dX1_isDerived_32 (by decide) ?_
        refine wr_call (va_runV (As := [.int (iI 1)]) (rest := []) ⟨hx, hb, hml, hown, hts⟩ (mX1_goesWell l dC dI cI m0 t0 k0 p0 a0 a1 K q th w h0 h1 hw hq 1 ⟨by omega, by omega⟩) (cwV 1 hts gX1_isDerived_X1_goesWell rfl rfl rfl hvX1_goesWell ⟨Nat.le_of_ble_eq_true rfl, Nat.le_of_ble_eq_true rfl⟩) (bD_pre (ci := 1) (q0 := 0) hK hP hD rfl rfl rfl) rfl rfl hl.1 rfl (lv_room (Nat.le_of_ble_eq_true rfl)) dX1_isDerived_44 ⟨Nat.le_of_ble_eq_true rfl, Nat.le_of_ble_eq_true rfl⟩) hS (fun q9 h => inW_same (w := [(m0, .inr (1, [.int th, .ref t0, .ref k0, .ref p0, .int (iI ((w : Nat) : Int))])), (t0, .inl (cI, 24, .inl (fun j => iI ((tb a0 a1 j : Nat) : Int)))), (k0, .inl (cI, 12, .inl (fun j => iI ((K j : Nat) : Int)))), (p0, .inl (cI, 12, .inl (fun j => iI ((q j : Nat) : Int))))]) (w' := [(m0, .inr (1, [.int th, .ref t0, .ref k0, .ref p0, .int (iI ((w : Nat) : Int))])), (t0, .inl (cI, 24, .inl (fun j => iI ((tb a0 a1 j : Nat) : Int)))), (k0, .inl (cI, 12, .inl (fun j => iI ((K j : Nat) : Int)))), (p0, .inl (cI, 12, .inl (fun j => iI ((q j : Nat) : Int))))]) rfl h) (fun H locs hP hz hk hS => ?_)
        have hD : va_D (inW [(m0, .inr (1, [.int th, .ref t0, .ref k0, .ref p0, .int (iI ((w : Nat) : Int))])), (t0, .inl (cI, 24, .inl (fun j => iI ((tb a0 a1 j : Nat) : Int)))), (k0, .inl (cI, 12, .inl (fun j => iI ((K j : Nat) : Int)))), (p0, .inl (cI, 12, .inl (fun j => iI ((q j : Nat) : Int))))]) [(m0, .inr (1, [.int (iI 1), .ref t0, .ref k0, .ref p0, .int (iI ((w : Nat) : Int))])), (t0, .inl (cI, 24, .inl (fun j => iI ((tb a0 a1 j : Nat) : Int)))), (k0, .inl (cI, 12, .inl (fun j => iI ((K j : Nat) : Int)))), (p0, .inl (cI, 12, .inl (fun j => iI ((q j : Nat) : Int))))] := va_D_same (w := [(m0, .inr (1, [.int th, .ref t0, .ref k0, .ref p0, .int (iI ((w : Nat) : Int))])), (t0, .inl (cI, 24, .inl (fun j => iI ((tb a0 a1 j : Nat) : Int)))), (k0, .inl (cI, 12, .inl (fun j => iI ((K j : Nat) : Int)))), (p0, .inl (cI, 12, .inl (fun j => iI ((q j : Nat) : Int))))]) rfl hD
        refine st_i (y := iI 0) (congrArg iI (bI_f (by decide))) ?_
        refine ib_if_ne (tgt := 52) hx hb dX1_isDerived_47 (by decide) ⟨by omega, by omega⟩ (fun c_47 => absurd c_47 (by decide)) (fun c_47 => ?_)
        refine ib_const hx hb dX1_isDerived_50 ?_
        exact W.zret hx hb hr (nar_0) (fun t ht _ => ⟨rfl, by rw [ht]; exact hP, hS.F ht⟩) hS.2.2 dX1_isDerived_51
    · skip
      have hdv := dv12 (z := z1) (by omega) (by omega) (by omega)
      refine ib_const hx hb dX1_isDerived_17 ?_
      refine lv_goto (tgt := 22) hx hb dX1_isDerived_18 (by decide) ?_
      refine lv_istore_n (lv' := [(3, .int (iI 1)), (0, .ref m0), (1, .int (iI z0)), (2, .int (iI z1))]) hx hb dX1_isDerived_22 rfl hl (by decide) rfl (fun ls hl => ?_)
      refine lv_aload_n hx hb dX1_isDerived_23 rfl (lv_at hl 1 rfl) ?_
      refine lv_iload_n hx hb dX1_isDerived_24 rfl (lv_at hl 2 rfl) ?_
      refine rd_call (va_runS (As := [.int (iI z0)]) (rest := [.ref m0]) ⟨hx, hb, hml, hown, hts⟩ (mX1_isRow l z0 ⟨by omega, by omega⟩) (va_cwS 1 hts gX1_isDerived_X1_isRow rfl rfl rfl hdX1_isRow ⟨Nat.le_of_ble_eq_true rfl, Nat.le_of_ble_eq_true rfl⟩) tt_pre rfl rfl hl.1 rfl (lv_room (Nat.le_of_ble_eq_true rfl)) dX1_isDerived_25 ⟨Nat.le_of_ble_eq_true rfl, Nat.le_of_ble_eq_true rfl⟩) ?_
      refine bb_ne (tgt := 35) hx hb dX1_isDerived_28 (by decide) (fun c_28 => ?_) (fun c_28 => ?_)
      · skip
        refine lv_iload_n hx hb dX1_isDerived_35 rfl (lv_at hl 0 rfl) ?_
        refine ib_if_eq (tgt := 43) hx hb dX1_isDerived_36 (by decide) ⟨by omega, by omega⟩ (fun c_36 => absurd c_36 (by decide)) (fun c_36 => ?_)
        refine ib_const hx hb dX1_isDerived_39 ?_
        refine lv_goto (tgt := 44) hx hb dX1_isDerived_40 (by decide) ?_
        exfalso; omega
      · skip
        refine ib_const hx hb dX1_isDerived_31 ?_
        refine lv_goto (tgt := 44) hx hb dX1_isDerived_32 (by decide) ?_
        refine wr_call (va_runV (As := [.int (iI 1)]) (rest := []) ⟨hx, hb, hml, hown, hts⟩ (mX1_goesWell l dC dI cI m0 t0 k0 p0 a0 a1 K q th w h0 h1 hw hq 1 ⟨by omega, by omega⟩) (cwV 1 hts gX1_isDerived_X1_goesWell rfl rfl rfl hvX1_goesWell ⟨Nat.le_of_ble_eq_true rfl, Nat.le_of_ble_eq_true rfl⟩) (bD_pre (ci := 1) (q0 := 0) hK hP hD rfl rfl rfl) rfl rfl hl.1 rfl (lv_room (Nat.le_of_ble_eq_true rfl)) dX1_isDerived_44 ⟨Nat.le_of_ble_eq_true rfl, Nat.le_of_ble_eq_true rfl⟩) hS (fun q9 h => inW_same (w := [(m0, .inr (1, [.int th, .ref t0, .ref k0, .ref p0, .int (iI ((w : Nat) : Int))])), (t0, .inl (cI, 24, .inl (fun j => iI ((tb a0 a1 j : Nat) : Int)))), (k0, .inl (cI, 12, .inl (fun j => iI ((K j : Nat) : Int)))), (p0, .inl (cI, 12, .inl (fun j => iI ((q j : Nat) : Int))))]) (w' := [(m0, .inr (1, [.int th, .ref t0, .ref k0, .ref p0, .int (iI ((w : Nat) : Int))])), (t0, .inl (cI, 24, .inl (fun j => iI ((tb a0 a1 j : Nat) : Int)))), (k0, .inl (cI, 12, .inl (fun j => iI ((K j : Nat) : Int)))), (p0, .inl (cI, 12, .inl (fun j => iI ((q j : Nat) : Int))))]) rfl h) (fun H locs hP hz hk hS => ?_)
        have hD : va_D (inW [(m0, .inr (1, [.int th, .ref t0, .ref k0, .ref p0, .int (iI ((w : Nat) : Int))])), (t0, .inl (cI, 24, .inl (fun j => iI ((tb a0 a1 j : Nat) : Int)))), (k0, .inl (cI, 12, .inl (fun j => iI ((K j : Nat) : Int)))), (p0, .inl (cI, 12, .inl (fun j => iI ((q j : Nat) : Int))))]) [(m0, .inr (1, [.int (iI 1), .ref t0, .ref k0, .ref p0, .int (iI ((w : Nat) : Int))])), (t0, .inl (cI, 24, .inl (fun j => iI ((tb a0 a1 j : Nat) : Int)))), (k0, .inl (cI, 12, .inl (fun j => iI ((K j : Nat) : Int)))), (p0, .inl (cI, 12, .inl (fun j => iI ((q j : Nat) : Int))))] := va_D_same (w := [(m0, .inr (1, [.int th, .ref t0, .ref k0, .ref p0, .int (iI ((w : Nat) : Int))])), (t0, .inl (cI, 24, .inl (fun j => iI ((tb a0 a1 j : Nat) : Int)))), (k0, .inl (cI, 12, .inl (fun j => iI ((K j : Nat) : Int)))), (p0, .inl (cI, 12, .inl (fun j => iI ((q j : Nat) : Int))))]) rfl hD
        refine st_i (y := iI 0) (congrArg iI (bI_f (by decide))) ?_
        refine ib_if_ne (tgt := 52) hx hb dX1_isDerived_47 (by decide) ⟨by omega, by omega⟩ (fun c_47 => absurd c_47 (by decide)) (fun c_47 => ?_)
        refine ib_const hx hb dX1_isDerived_50 ?_
        exact W.zret hx hb hr (nar_0) (fun t ht _ => ⟨rfl, by rw [ht]; exact hP, hS.F ht⟩) hS.2.2 dX1_isDerived_51

set_option maxHeartbeats 4000000 in
set_option maxRecDepth 100000 in
theorem mX1_isDerived_x2 (l : Launch) (dC : Nat → ClassId) (dI : Nat → Nat → Nat) (cI : ClassId) (m0 t0 k0 p0 : Nat) (a0 a1 K q : Nat → Nat) (th : Int32) (w : Nat) (h0 : lt12 a0) (h1 : lt12 a1) (hw : w ≤ 12) (hq : ∀ i, i < w → q i < 12) (z0 z1 : Int) (hz0 : inI z0) (hz1 : inI z1) (hbad : (z0 = 0 ∨ z0 = 1) ∧ ¬ (z1 = 1 ∨ z1 = 2 ∨ z1 = 3 ∨ z1 = 4 ∨ z1 = 6 ∨ z1 = 12)) : wr l yX1_isDerived wsX1_isDerived { frames := 1, cells := 0, slots := 0, locals := 22 } [.ref m0, .int (iI z0), .int (iI z1)] (dC, dI) [(m0, .inr (1, [.int th, .ref t0, .ref k0, .ref p0, .int (iI ((w : Nat) : Int))])), (t0, .inl (cI, 24, .inl (fun j => iI ((tb a0 a1 j : Nat) : Int)))), (k0, .inl (cI, 12, .inl (fun j => iI ((K j : Nat) : Int)))), (p0, .inl (cI, 12, .inl (fun j => iI ((q j : Nat) : Int))))] [(cI, .int)] [(m0, .inr (1, [.int (iI 2), .ref t0, .ref k0, .ref p0, .int (iI ((w : Nat) : Int))])), (t0, .inl (cI, 24, .inl (fun j => iI ((tb a0 a1 j : Nat) : Int)))), (k0, .inl (cI, 12, .inl (fun j => iI ((K j : Nat) : Int)))), (p0, .inl (cI, 12, .inl (fun j => iI ((q j : Nat) : Int))))] (some (.int (iI 0))) := by
  refine Met.ofW (cc := cX1_isDerived) (maxL := 6) (ret := (some .boolean)) (by decide) rfl ?_
  intro P0 e s m args below meth c s₁ B hml hv
  obtain ⟨rfl, hP, hK, hD0⟩ := hv
  have hx := B.exec
  have hb := B.bytes
  have hr := B.returns
  have hts := atoms_spec (ws := wsX1_isDerived) B.pre
  have hown : s.vm.findClass RX1 = some m.cls := findClass_of_methodNamed B.named
  have hlocks := B.notSynchronized
  have hinX : ∀ w ∈ u_ws RX1 TX1 5, w ∈ wsX1_isDerived := by decide +kernel
  have hD : va_D (inW [(m0, .inr (1, [.int th, .ref t0, .ref k0, .ref p0, .int (iI ((w : Nat) : Int))])), (t0, .inl (cI, 24, .inl (fun j => iI ((tb a0 a1 j : Nat) : Int)))), (k0, .inl (cI, 12, .inl (fun j => iI ((K j : Nat) : Int)))), (p0, .inl (cI, 12, .inl (fun j => iI ((q j : Nat) : Int))))]) [(m0, .inr (1, [.int th, .ref t0, .ref k0, .ref p0, .int (iI ((w : Nat) : Int))])), (t0, .inl (cI, 24, .inl (fun j => iI ((tb a0 a1 j : Nat) : Int)))), (k0, .inl (cI, 12, .inl (fun j => iI ((K j : Nat) : Int)))), (p0, .inl (cI, 12, .inl (fun j => iI ((q j : Nat) : Int))))] := va_D_in hD0
  have hS : va_S (inW [(m0, .inr (1, [.int th, .ref t0, .ref k0, .ref p0, .int (iI ((w : Nat) : Int))])), (t0, .inl (cI, 24, .inl (fun j => iI ((tb a0 a1 j : Nat) : Int)))), (k0, .inl (cI, 12, .inl (fun j => iI ((K j : Nat) : Int)))), (p0, .inl (cI, 12, .inl (fun j => iI ((q j : Nat) : Int))))]) s.heap s.heap [] := va_S.rf
  have hl := lv_entry ([.ref m0, .int (iI z0), .int (iI z1)]) (n := 6) (Nat.le_of_ble_eq_true rfl)
  rw [lg_entry_eq]
  generalize (lg_sl ([.ref m0, .int (iI z0), .int (iI z1)]) ++ List.replicate (6 - (lg_sl ([.ref m0, .int (iI z0), .int (iI z1)])).length) Slot.unset).toArray = ls at hl ⊢
  have hl : lv_has ls 6 [(0, .ref m0), (1, .int (iI z0)), (2, .int (iI z1))] := hl
  have hza0 := hz0.1
  have hza1 := hz1.1
  have hzb0 := hz0.2
  have hzb1 := hz1.2
  refine lv_iload_n hx hb dX1_isDerived_0 rfl (lv_at hl 2 rfl) ?_
  refine ib_const hx hb dX1_isDerived_1 ?_
  refine ib_bi hx hb dX1_isDerived_2 (by decide) ?_
  refine rd_call (va_runS (As := [.int (iI z1), .int (iI 1), .int (iI 12)]) (rest := []) ⟨hx, hb, hml, hown, hts⟩ (mX1_in l z1 1 12 ⟨by omega, by omega⟩ ⟨by omega, by omega⟩ ⟨by omega, by omega⟩) (va_cwS 3 hts gX1_isDerived_X1_in rfl rfl rfl hdX1_in ⟨Nat.le_of_ble_eq_true rfl, Nat.le_of_ble_eq_true rfl⟩) tt_pre rfl rfl hl.1 rfl (lv_room (Nat.le_of_ble_eq_true rfl)) dX1_isDerived_4 ⟨Nat.le_of_ble_eq_true rfl, Nat.le_of_ble_eq_true rfl⟩) ?_
  refine bb_eq (tgt := 21) hx hb dX1_isDerived_7 (by decide) (fun c_7 => ?_) (fun c_7 => ?_)
  · skip
    refine ib_const hx hb dX1_isDerived_21 ?_
    refine lv_istore_n (lv' := [(3, .int (iI 0)), (0, .ref m0), (1, .int (iI z0)), (2, .int (iI z1))]) hx hb dX1_isDerived_22 rfl hl (by decide) rfl (fun ls hl => ?_)
    refine lv_aload_n hx hb dX1_isDerived_23 rfl (lv_at hl 1 rfl) ?_
    refine lv_iload_n hx hb dX1_isDerived_24 rfl (lv_at hl 2 rfl) ?_
    refine rd_call (va_runS (As := [.int (iI z0)]) (rest := [.ref m0]) ⟨hx, hb, hml, hown, hts⟩ (mX1_isRow l z0 ⟨by omega, by omega⟩) (va_cwS 1 hts gX1_isDerived_X1_isRow rfl rfl rfl hdX1_isRow ⟨Nat.le_of_ble_eq_true rfl, Nat.le_of_ble_eq_true rfl⟩) tt_pre rfl rfl hl.1 rfl (lv_room (Nat.le_of_ble_eq_true rfl)) dX1_isDerived_25 ⟨Nat.le_of_ble_eq_true rfl, Nat.le_of_ble_eq_true rfl⟩) ?_
    refine bb_ne (tgt := 35) hx hb dX1_isDerived_28 (by decide) (fun c_28 => ?_) (fun c_28 => ?_)
    · skip
      refine lv_iload_n hx hb dX1_isDerived_35 rfl (lv_at hl 0 rfl) ?_
      refine ib_if_eq (tgt := 43) hx hb dX1_isDerived_36 (by decide) ⟨by omega, by omega⟩ (fun c_36 => ?_) (fun c_36 => absurd c_36 (by decide))
      refine ib_const hx hb dX1_isDerived_43 ?_
      refine wr_call (va_runV (As := [.int (iI 2)]) (rest := []) ⟨hx, hb, hml, hown, hts⟩ (mX1_goesWell l dC dI cI m0 t0 k0 p0 a0 a1 K q th w h0 h1 hw hq 2 ⟨by omega, by omega⟩) (cwV 1 hts gX1_isDerived_X1_goesWell rfl rfl rfl hvX1_goesWell ⟨Nat.le_of_ble_eq_true rfl, Nat.le_of_ble_eq_true rfl⟩) (bD_pre (ci := 1) (q0 := 0) hK hP hD rfl rfl rfl) rfl rfl hl.1 rfl (lv_room (Nat.le_of_ble_eq_true rfl)) dX1_isDerived_44 ⟨Nat.le_of_ble_eq_true rfl, Nat.le_of_ble_eq_true rfl⟩) hS (fun q9 h => inW_same (w := [(m0, .inr (1, [.int th, .ref t0, .ref k0, .ref p0, .int (iI ((w : Nat) : Int))])), (t0, .inl (cI, 24, .inl (fun j => iI ((tb a0 a1 j : Nat) : Int)))), (k0, .inl (cI, 12, .inl (fun j => iI ((K j : Nat) : Int)))), (p0, .inl (cI, 12, .inl (fun j => iI ((q j : Nat) : Int))))]) (w' := [(m0, .inr (1, [.int th, .ref t0, .ref k0, .ref p0, .int (iI ((w : Nat) : Int))])), (t0, .inl (cI, 24, .inl (fun j => iI ((tb a0 a1 j : Nat) : Int)))), (k0, .inl (cI, 12, .inl (fun j => iI ((K j : Nat) : Int)))), (p0, .inl (cI, 12, .inl (fun j => iI ((q j : Nat) : Int))))]) rfl h) (fun H locs hP hz hk hS => ?_)
      have hD : va_D (inW [(m0, .inr (1, [.int th, .ref t0, .ref k0, .ref p0, .int (iI ((w : Nat) : Int))])), (t0, .inl (cI, 24, .inl (fun j => iI ((tb a0 a1 j : Nat) : Int)))), (k0, .inl (cI, 12, .inl (fun j => iI ((K j : Nat) : Int)))), (p0, .inl (cI, 12, .inl (fun j => iI ((q j : Nat) : Int))))]) [(m0, .inr (1, [.int (iI 2), .ref t0, .ref k0, .ref p0, .int (iI ((w : Nat) : Int))])), (t0, .inl (cI, 24, .inl (fun j => iI ((tb a0 a1 j : Nat) : Int)))), (k0, .inl (cI, 12, .inl (fun j => iI ((K j : Nat) : Int)))), (p0, .inl (cI, 12, .inl (fun j => iI ((q j : Nat) : Int))))] := va_D_same (w := [(m0, .inr (1, [.int th, .ref t0, .ref k0, .ref p0, .int (iI ((w : Nat) : Int))])), (t0, .inl (cI, 24, .inl (fun j => iI ((tb a0 a1 j : Nat) : Int)))), (k0, .inl (cI, 12, .inl (fun j => iI ((K j : Nat) : Int)))), (p0, .inl (cI, 12, .inl (fun j => iI ((q j : Nat) : Int))))]) rfl hD
      refine st_i (y := iI 0) (congrArg iI (bI_f (by decide))) ?_
      refine ib_if_ne (tgt := 52) hx hb dX1_isDerived_47 (by decide) ⟨by omega, by omega⟩ (fun c_47 => absurd c_47 (by decide)) (fun c_47 => ?_)
      refine ib_const hx hb dX1_isDerived_50 ?_
      exact W.zret hx hb hr (nar_0) (fun t ht _ => ⟨rfl, by rw [ht]; exact hP, hS.F ht⟩) hS.2.2 dX1_isDerived_51
    · skip
      refine ib_const hx hb dX1_isDerived_31 ?_
      refine lv_goto (tgt := 44) hx hb dX1_isDerived_32 (by decide) ?_
      exfalso; omega
  · skip
    refine ib_bi hx hb dX1_isDerived_10 (by decide) ?_
    refine lv_iload_n hx hb dX1_isDerived_12 rfl (lv_at hl 2 rfl) ?_
    refine ib_rem (z := 12 % z1) hx hb dX1_isDerived_13 (by omega) (by omega) (by omega) (by omega) (by first | omega | rfl) ?_
    have hrm : 0 ≤ 12 % z1 ∧ 12 % z1 < z1 := ⟨Int.emod_nonneg _ (by omega), Int.emod_lt_of_pos _ (by omega)⟩
    refine ib_if_ne (tgt := 21) hx hb dX1_isDerived_14 (by decide) ⟨by omega, by omega⟩ (fun c_14 => ?_) (fun c_14 => ?_)
    · skip
      refine ib_const hx hb dX1_isDerived_21 ?_
      refine lv_istore_n (lv' := [(3, .int (iI 0)), (0, .ref m0), (1, .int (iI z0)), (2, .int (iI z1))]) hx hb dX1_isDerived_22 rfl hl (by decide) rfl (fun ls hl => ?_)
      refine lv_aload_n hx hb dX1_isDerived_23 rfl (lv_at hl 1 rfl) ?_
      refine lv_iload_n hx hb dX1_isDerived_24 rfl (lv_at hl 2 rfl) ?_
      refine rd_call (va_runS (As := [.int (iI z0)]) (rest := [.ref m0]) ⟨hx, hb, hml, hown, hts⟩ (mX1_isRow l z0 ⟨by omega, by omega⟩) (va_cwS 1 hts gX1_isDerived_X1_isRow rfl rfl rfl hdX1_isRow ⟨Nat.le_of_ble_eq_true rfl, Nat.le_of_ble_eq_true rfl⟩) tt_pre rfl rfl hl.1 rfl (lv_room (Nat.le_of_ble_eq_true rfl)) dX1_isDerived_25 ⟨Nat.le_of_ble_eq_true rfl, Nat.le_of_ble_eq_true rfl⟩) ?_
      refine bb_ne (tgt := 35) hx hb dX1_isDerived_28 (by decide) (fun c_28 => ?_) (fun c_28 => ?_)
      · skip
        refine lv_iload_n hx hb dX1_isDerived_35 rfl (lv_at hl 0 rfl) ?_
        refine ib_if_eq (tgt := 43) hx hb dX1_isDerived_36 (by decide) ⟨by omega, by omega⟩ (fun c_36 => ?_) (fun c_36 => absurd c_36 (by decide))
        refine ib_const hx hb dX1_isDerived_43 ?_
        refine wr_call (va_runV (As := [.int (iI 2)]) (rest := []) ⟨hx, hb, hml, hown, hts⟩ (mX1_goesWell l dC dI cI m0 t0 k0 p0 a0 a1 K q th w h0 h1 hw hq 2 ⟨by omega, by omega⟩) (cwV 1 hts gX1_isDerived_X1_goesWell rfl rfl rfl hvX1_goesWell ⟨Nat.le_of_ble_eq_true rfl, Nat.le_of_ble_eq_true rfl⟩) (bD_pre (ci := 1) (q0 := 0) hK hP hD rfl rfl rfl) rfl rfl hl.1 rfl (lv_room (Nat.le_of_ble_eq_true rfl)) dX1_isDerived_44 ⟨Nat.le_of_ble_eq_true rfl, Nat.le_of_ble_eq_true rfl⟩) hS (fun q9 h => inW_same (w := [(m0, .inr (1, [.int th, .ref t0, .ref k0, .ref p0, .int (iI ((w : Nat) : Int))])), (t0, .inl (cI, 24, .inl (fun j => iI ((tb a0 a1 j : Nat) : Int)))), (k0, .inl (cI, 12, .inl (fun j => iI ((K j : Nat) : Int)))), (p0, .inl (cI, 12, .inl (fun j => iI ((q j : Nat) : Int))))]) (w' := [(m0, .inr (1, [.int th, .ref t0, .ref k0, .ref p0, .int (iI ((w : Nat) : Int))])), (t0, .inl (cI, 24, .inl (fun j => iI ((tb a0 a1 j : Nat) : Int)))), (k0, .inl (cI, 12, .inl (fun j => iI ((K j : Nat) : Int)))), (p0, .inl (cI, 12, .inl (fun j => iI ((q j : Nat) : Int))))]) rfl h) (fun H locs hP hz hk hS => ?_)
        have hD : va_D (inW [(m0, .inr (1, [.int th, .ref t0, .ref k0, .ref p0, .int (iI ((w : Nat) : Int))])), (t0, .inl (cI, 24, .inl (fun j => iI ((tb a0 a1 j : Nat) : Int)))), (k0, .inl (cI, 12, .inl (fun j => iI ((K j : Nat) : Int)))), (p0, .inl (cI, 12, .inl (fun j => iI ((q j : Nat) : Int))))]) [(m0, .inr (1, [.int (iI 2), .ref t0, .ref k0, .ref p0, .int (iI ((w : Nat) : Int))])), (t0, .inl (cI, 24, .inl (fun j => iI ((tb a0 a1 j : Nat) : Int)))), (k0, .inl (cI, 12, .inl (fun j => iI ((K j : Nat) : Int)))), (p0, .inl (cI, 12, .inl (fun j => iI ((q j : Nat) : Int))))] := va_D_same (w := [(m0, .inr (1, [.int th, .ref t0, .ref k0, .ref p0, .int (iI ((w : Nat) : Int))])), (t0, .inl (cI, 24, .inl (fun j => iI ((tb a0 a1 j : Nat) : Int)))), (k0, .inl (cI, 12, .inl (fun j => iI ((K j : Nat) : Int)))), (p0, .inl (cI, 12, .inl (fun j => iI ((q j : Nat) : Int))))]) rfl hD
        refine st_i (y := iI 0) (congrArg iI (bI_f (by decide))) ?_
        refine ib_if_ne (tgt := 52) hx hb dX1_isDerived_47 (by decide) ⟨by omega, by omega⟩ (fun c_47 => absurd c_47 (by decide)) (fun c_47 => ?_)
        refine ib_const hx hb dX1_isDerived_50 ?_
        exact W.zret hx hb hr (nar_0) (fun t ht _ => ⟨rfl, by rw [ht]; exact hP, hS.F ht⟩) hS.2.2 dX1_isDerived_51
      · skip
        refine ib_const hx hb dX1_isDerived_31 ?_
        refine lv_goto (tgt := 44) hx hb dX1_isDerived_32 (by decide) ?_
        exfalso; omega
    · skip
      have hdv := dv12 (z := z1) (by omega) (by omega) (by omega)
      refine ib_const hx hb dX1_isDerived_17 ?_
      refine lv_goto (tgt := 22) hx hb dX1_isDerived_18 (by decide) ?_
      refine lv_istore_n (lv' := [(3, .int (iI 1)), (0, .ref m0), (1, .int (iI z0)), (2, .int (iI z1))]) hx hb dX1_isDerived_22 rfl hl (by decide) rfl (fun ls hl => ?_)
      refine lv_aload_n hx hb dX1_isDerived_23 rfl (lv_at hl 1 rfl) ?_
      refine lv_iload_n hx hb dX1_isDerived_24 rfl (lv_at hl 2 rfl) ?_
      refine rd_call (va_runS (As := [.int (iI z0)]) (rest := [.ref m0]) ⟨hx, hb, hml, hown, hts⟩ (mX1_isRow l z0 ⟨by omega, by omega⟩) (va_cwS 1 hts gX1_isDerived_X1_isRow rfl rfl rfl hdX1_isRow ⟨Nat.le_of_ble_eq_true rfl, Nat.le_of_ble_eq_true rfl⟩) tt_pre rfl rfl hl.1 rfl (lv_room (Nat.le_of_ble_eq_true rfl)) dX1_isDerived_25 ⟨Nat.le_of_ble_eq_true rfl, Nat.le_of_ble_eq_true rfl⟩) ?_
      refine bb_ne (tgt := 35) hx hb dX1_isDerived_28 (by decide) (fun c_28 => ?_) (fun c_28 => ?_)
      · skip
        refine lv_iload_n hx hb dX1_isDerived_35 rfl (lv_at hl 0 rfl) ?_
        refine ib_if_eq (tgt := 43) hx hb dX1_isDerived_36 (by decide) ⟨by omega, by omega⟩ (fun c_36 => absurd c_36 (by decide)) (fun c_36 => ?_)
        refine ib_const hx hb dX1_isDerived_39 ?_
        refine lv_goto (tgt := 44) hx hb dX1_isDerived_40 (by decide) ?_
        exfalso; omega
      · skip
        refine ib_const hx hb dX1_isDerived_31 ?_
        refine lv_goto (tgt := 44) hx hb dX1_isDerived_32 (by decide) ?_
        exfalso; omega

set_option maxHeartbeats 4000000 in
set_option maxRecDepth 100000 in
theorem mX1_keptSets_ok (l : Launch) (dC : Nat → ClassId) (dI : Nat → Nat → Nat) (cI : ClassId) (m0 t0 k0 p0 : Nat) (a0 a1 K q : Nat → Nat) (th : Int32) (w : Nat) (h0 : lt12 a0) (h1 : lt12 a1) (hw : w ≤ 12) (hq : ∀ i, i < w → q i < 12) (r k i len : Nat) (hr9 : r < 2) (hk : k < 4) (hi : i < 12) (hl1 : 1 ≤ len) (hl2 : len ≤ 12) : wr l yX1_keptSets wsX1_keptSets { frames := 4, cells := 0, slots := 0, locals := 101 } [.ref m0, .int (iI ((r : Nat) : Int)), .int (iI ((k : Nat) : Int)), .int (iI ((i : Nat) : Int)), .int (iI ((len : Nat) : Int))] (dC, dI) [(m0, .inr (1, [.int th, .ref t0, .ref k0, .ref p0, .int (iI ((w : Nat) : Int))])), (t0, .inl (cI, 24, .inl (fun j => iI ((tb a0 a1 j : Nat) : Int)))), (k0, .inl (cI, 12, .inl (fun j => iI ((K j : Nat) : Int)))), (p0, .inl (cI, 12, .inl (fun j => iI ((q j : Nat) : Int))))] [(cI, .int)] [(m0, .inr (1, [.int (iI 0), .ref t0, .ref k0, .ref p0, .int (iI ((w : Nat) : Int))])), (t0, .inl (cI, 24, .inl (fun j => iI ((tb a0 a1 j : Nat) : Int)))), (k0, .inl (cI, 12, .inl (fun j => iI ((K j : Nat) : Int)))), (p0, .inl (cI, 12, .inl (fun j => iI ((q j : Nat) : Int))))] (some (.int (iI ((skN (rw_ r a0 a1) (12 * k + i) len (13 - len) : Nat) : Int)))) := by
  refine Met.ofW (cc := cX1_keptSets) (maxL := 6) (ret := (some .int)) (by decide) rfl ?_
  intro P0 e s m args below meth c s₁ B hml hv
  obtain ⟨rfl, hP, hK, hD0⟩ := hv
  have hx := B.exec
  have hb := B.bytes
  have hr := B.returns
  have hts := atoms_spec (ws := wsX1_keptSets) B.pre
  have hown : s.vm.findClass RX1 = some m.cls := findClass_of_methodNamed B.named
  have hlocks := B.notSynchronized
  have hinX : ∀ w ∈ u_ws RX1 TX1 5, w ∈ wsX1_keptSets := by decide +kernel
  have hD : va_D (inW [(m0, .inr (1, [.int th, .ref t0, .ref k0, .ref p0, .int (iI ((w : Nat) : Int))])), (t0, .inl (cI, 24, .inl (fun j => iI ((tb a0 a1 j : Nat) : Int)))), (k0, .inl (cI, 12, .inl (fun j => iI ((K j : Nat) : Int)))), (p0, .inl (cI, 12, .inl (fun j => iI ((q j : Nat) : Int))))]) [(m0, .inr (1, [.int th, .ref t0, .ref k0, .ref p0, .int (iI ((w : Nat) : Int))])), (t0, .inl (cI, 24, .inl (fun j => iI ((tb a0 a1 j : Nat) : Int)))), (k0, .inl (cI, 12, .inl (fun j => iI ((K j : Nat) : Int)))), (p0, .inl (cI, 12, .inl (fun j => iI ((q j : Nat) : Int))))] := va_D_in hD0
  have hS : va_S (inW [(m0, .inr (1, [.int th, .ref t0, .ref k0, .ref p0, .int (iI ((w : Nat) : Int))])), (t0, .inl (cI, 24, .inl (fun j => iI ((tb a0 a1 j : Nat) : Int)))), (k0, .inl (cI, 12, .inl (fun j => iI ((K j : Nat) : Int)))), (p0, .inl (cI, 12, .inl (fun j => iI ((q j : Nat) : Int))))]) s.heap s.heap [] := va_S.rf
  have hl := lv_entry ([.ref m0, .int (iI ((r : Nat) : Int)), .int (iI ((k : Nat) : Int)), .int (iI ((i : Nat) : Int)), .int (iI ((len : Nat) : Int))]) (n := 6) (Nat.le_of_ble_eq_true rfl)
  rw [lg_entry_eq]
  generalize (lg_sl ([.ref m0, .int (iI ((r : Nat) : Int)), .int (iI ((k : Nat) : Int)), .int (iI ((i : Nat) : Int)), .int (iI ((len : Nat) : Int))]) ++ List.replicate (6 - (lg_sl ([.ref m0, .int (iI ((r : Nat) : Int)), .int (iI ((k : Nat) : Int)), .int (iI ((i : Nat) : Int)), .int (iI ((len : Nat) : Int))])).length) Slot.unset).toArray = ls at hl ⊢
  have hl : lv_has ls 6 [(0, .ref m0), (1, .int (iI ((r : Nat) : Int))), (2, .int (iI ((k : Nat) : Int))), (3, .int (iI ((i : Nat) : Int))), (4, .int (iI ((len : Nat) : Int)))] := hl
  refine lv_iload_n hx hb dX1_keptSets_0 rfl (lv_at hl 2 rfl) ?_
  refine lv_iload_n hx hb dX1_keptSets_1 rfl (lv_at hl 3 rfl) ?_
  refine rd_call (va_runS (As := [.int (iI ((k : Nat) : Int)), .int (iI ((i : Nat) : Int))]) (rest := []) ⟨hx, hb, hml, hown, hts⟩ (mX1_isForm l ((k : Nat) : Int) ((i : Nat) : Int) ⟨by omega, by omega⟩ ⟨by omega, by omega⟩) (va_cwS 2 hts gX1_keptSets_X1_isForm rfl rfl rfl hdX1_isForm ⟨Nat.le_of_ble_eq_true rfl, Nat.le_of_ble_eq_true rfl⟩) tt_pre rfl rfl hl.1 rfl (lv_room (Nat.le_of_ble_eq_true rfl)) dX1_keptSets_2 ⟨Nat.le_of_ble_eq_true rfl, Nat.le_of_ble_eq_true rfl⟩) ?_
  refine bb_eq (tgt := 23) hx hb dX1_keptSets_5 (by decide) (fun c_5 => absurd c_5 (by omega)) (fun c_5 => ?_)
  refine lv_iload hx hb dX1_keptSets_8 (lv_at hl 4 rfl) ?_
  refine ib_const hx hb dX1_keptSets_10 ?_
  refine ib_bi hx hb dX1_keptSets_11 (by decide) ?_
  refine rd_call (va_runS (As := [.int (iI ((len : Nat) : Int)), .int (iI 1), .int (iI 12)]) (rest := []) ⟨hx, hb, hml, hown, hts⟩ (mX1_in l ((len : Nat) : Int) 1 12 ⟨by omega, by omega⟩ ⟨by omega, by omega⟩ ⟨by omega, by omega⟩) (va_cwS 3 hts gX1_keptSets_X1_in rfl rfl rfl hdX1_in ⟨Nat.le_of_ble_eq_true rfl, Nat.le_of_ble_eq_true rfl⟩) tt_pre rfl rfl hl.1 rfl (lv_room (Nat.le_of_ble_eq_true rfl)) dX1_keptSets_13 ⟨Nat.le_of_ble_eq_true rfl, Nat.le_of_ble_eq_true rfl⟩) ?_
  refine bb_eq (tgt := 23) hx hb dX1_keptSets_16 (by decide) (fun c_16 => absurd c_16 (by omega)) (fun c_16 => ?_)
  refine ib_const hx hb dX1_keptSets_19 ?_
  refine lv_goto (tgt := 24) hx hb dX1_keptSets_20 (by decide) ?_
  refine lv_istore (lv' := [(5, .int (iI 1)), (0, .ref m0), (1, .int (iI ((r : Nat) : Int))), (2, .int (iI ((k : Nat) : Int))), (3, .int (iI ((i : Nat) : Int))), (4, .int (iI ((len : Nat) : Int)))]) hx hb dX1_keptSets_24 hl (by decide) rfl (fun ls hl => ?_)
  refine lv_aload_n hx hb dX1_keptSets_26 rfl (lv_at hl 1 rfl) ?_
  refine lv_iload_n hx hb dX1_keptSets_27 rfl (lv_at hl 2 rfl) ?_
  refine rd_call (va_runS (As := [.int (iI ((r : Nat) : Int))]) (rest := [.ref m0]) ⟨hx, hb, hml, hown, hts⟩ (mX1_isRow l ((r : Nat) : Int) ⟨by omega, by omega⟩) (va_cwS 1 hts gX1_keptSets_X1_isRow rfl rfl rfl hdX1_isRow ⟨Nat.le_of_ble_eq_true rfl, Nat.le_of_ble_eq_true rfl⟩) tt_pre rfl rfl hl.1 rfl (lv_room (Nat.le_of_ble_eq_true rfl)) dX1_keptSets_28 ⟨Nat.le_of_ble_eq_true rfl, Nat.le_of_ble_eq_true rfl⟩) ?_
  refine bb_ne (tgt := 38) hx hb dX1_keptSets_31 (by decide) (fun c_31 => ?_) (fun c_31 => absurd c_31 (by omega))
  refine lv_iload hx hb dX1_keptSets_38 (lv_at hl 0 rfl) ?_
  refine ib_if_eq (tgt := 47) hx hb dX1_keptSets_40 (by decide) ⟨by omega, by omega⟩ (fun c_40 => absurd c_40 (by decide)) (fun c_40 => ?_)
  refine ib_const hx hb dX1_keptSets_43 ?_
  refine lv_goto (tgt := 48) hx hb dX1_keptSets_44 (by decide) ?_
  refine wr_call (va_runV (As := [.int (iI 0)]) (rest := []) ⟨hx, hb, hml, hown, hts⟩ (mX1_goesWell l dC dI cI m0 t0 k0 p0 a0 a1 K q th w h0 h1 hw hq 0 ⟨by omega, by omega⟩) (cwV 1 hts gX1_keptSets_X1_goesWell rfl rfl rfl hvX1_goesWell ⟨Nat.le_of_ble_eq_true rfl, Nat.le_of_ble_eq_true rfl⟩) (bD_pre (ci := 1) (q0 := 0) hK hP hD rfl rfl rfl) rfl rfl hl.1 rfl (lv_room (Nat.le_of_ble_eq_true rfl)) dX1_keptSets_48 ⟨Nat.le_of_ble_eq_true rfl, Nat.le_of_ble_eq_true rfl⟩) hS (fun q9 h => inW_same (w := [(m0, .inr (1, [.int th, .ref t0, .ref k0, .ref p0, .int (iI ((w : Nat) : Int))])), (t0, .inl (cI, 24, .inl (fun j => iI ((tb a0 a1 j : Nat) : Int)))), (k0, .inl (cI, 12, .inl (fun j => iI ((K j : Nat) : Int)))), (p0, .inl (cI, 12, .inl (fun j => iI ((q j : Nat) : Int))))]) (w' := [(m0, .inr (1, [.int th, .ref t0, .ref k0, .ref p0, .int (iI ((w : Nat) : Int))])), (t0, .inl (cI, 24, .inl (fun j => iI ((tb a0 a1 j : Nat) : Int)))), (k0, .inl (cI, 12, .inl (fun j => iI ((K j : Nat) : Int)))), (p0, .inl (cI, 12, .inl (fun j => iI ((q j : Nat) : Int))))]) rfl h) (fun H locs hP hz hk hS => ?_)
  have hD : va_D (inW [(m0, .inr (1, [.int th, .ref t0, .ref k0, .ref p0, .int (iI ((w : Nat) : Int))])), (t0, .inl (cI, 24, .inl (fun j => iI ((tb a0 a1 j : Nat) : Int)))), (k0, .inl (cI, 12, .inl (fun j => iI ((K j : Nat) : Int)))), (p0, .inl (cI, 12, .inl (fun j => iI ((q j : Nat) : Int))))]) [(m0, .inr (1, [.int (iI 0), .ref t0, .ref k0, .ref p0, .int (iI ((w : Nat) : Int))])), (t0, .inl (cI, 24, .inl (fun j => iI ((tb a0 a1 j : Nat) : Int)))), (k0, .inl (cI, 12, .inl (fun j => iI ((K j : Nat) : Int)))), (p0, .inl (cI, 12, .inl (fun j => iI ((q j : Nat) : Int))))] := va_D_same (w := [(m0, .inr (1, [.int th, .ref t0, .ref k0, .ref p0, .int (iI ((w : Nat) : Int))])), (t0, .inl (cI, 24, .inl (fun j => iI ((tb a0 a1 j : Nat) : Int)))), (k0, .inl (cI, 12, .inl (fun j => iI ((K j : Nat) : Int)))), (p0, .inl (cI, 12, .inl (fun j => iI ((q j : Nat) : Int))))]) rfl hD
  refine st_i (y := iI 1) (congrArg iI (bI_t (by decide))) ?_
  refine ib_if_eq (tgt := 69) hx hb dX1_keptSets_51 (by decide) ⟨by omega, by omega⟩ (fun c_51 => absurd c_51 (by decide)) (fun c_51 => ?_)
  refine lv_aload_n hx hb dX1_keptSets_54 rfl (lv_at hl 1 rfl) ?_
  refine lv_iload_n hx hb dX1_keptSets_55 rfl (lv_at hl 2 rfl) ?_
  refine lv_iload_n hx hb dX1_keptSets_56 rfl (lv_at hl 3 rfl) ?_
  refine lv_iload_n hx hb dX1_keptSets_57 rfl (lv_at hl 4 rfl) ?_
  refine rd_call (va_runS (As := [.int (iI ((k : Nat) : Int)), .int (iI ((i : Nat) : Int))]) (rest := [.int (iI ((r : Nat) : Int)), .ref m0]) ⟨hx, hb, hml, hown, hts⟩ (mX1_codeOf l k i) (va_cwS 2 hts gX1_keptSets_X1_codeOf rfl rfl rfl hdX1_codeOf ⟨Nat.le_of_ble_eq_true rfl, Nat.le_of_ble_eq_true rfl⟩) tt_pre rfl rfl hl.1 rfl (lv_room (Nat.le_of_ble_eq_true rfl)) dX1_keptSets_58 ⟨Nat.le_of_ble_eq_true rfl, Nat.le_of_ble_eq_true rfl⟩) ?_
  refine lv_iload hx hb dX1_keptSets_61 (lv_at hl 5 rfl) ?_
  refine rd_call (va_runV (As := [.int (iI ((r : Nat) : Int)), .int (iI ((12 * k + i : Nat) : Int)), .int (iI ((len : Nat) : Int))]) (rest := []) ⟨hx, hb, hml, hown, hts⟩ (mX1_setsKept l dC dI cI m0 t0 k0 p0 a0 a1 K q (iI 0) w h0 h1 hw hq r (12 * k + i) len (by omega) (by omega) (by omega) (by omega)) (cwV 3 hts gX1_keptSets_X1_setsKept rfl rfl rfl hvX1_setsKept ⟨Nat.le_of_ble_eq_true rfl, Nat.le_of_ble_eq_true rfl⟩) (bW_pre (ci := 1) (q0 := 0) hK hP rfl rfl rfl) rfl rfl hl.1 rfl (lv_room (Nat.le_of_ble_eq_true rfl)) dX1_keptSets_63 ⟨Nat.le_of_ble_eq_true rfl, Nat.le_of_ble_eq_true rfl⟩) ?_
  have hk_63 := skN_le (rw_ r a0 a1) (12 * k + i) len (13 - len)
  refine lv_goto (tgt := 70) hx hb dX1_keptSets_66 (by decide) ?_
  exact W.iret hx hb hr (fun t ht _ => ⟨rfl, by rw [ht]; exact hP, hS.F ht⟩) hS.2.2 dX1_keptSets_70

set_option maxHeartbeats 4000000 in
set_option maxRecDepth 100000 in
theorem mX1_keptSets_x1 (l : Launch) (dC : Nat → ClassId) (dI : Nat → Nat → Nat) (cI : ClassId) (m0 t0 k0 p0 : Nat) (a0 a1 K q : Nat → Nat) (th : Int32) (w : Nat) (h0 : lt12 a0) (h1 : lt12 a1) (hw : w ≤ 12) (hq : ∀ i, i < w → q i < 12) (z0 z1 z2 z3 : Int) (hz0 : inI z0) (hz1 : inI z1) (hz2 : inI z2) (hz3 : inI z3) (hbad : ¬ (z0 = 0 ∨ z0 = 1)) : wr l yX1_keptSets wsX1_keptSets { frames := 3, cells := 0, slots := 0, locals := 63 } [.ref m0, .int (iI z0), .int (iI z1), .int (iI z2), .int (iI z3)] (dC, dI) [(m0, .inr (1, [.int th, .ref t0, .ref k0, .ref p0, .int (iI ((w : Nat) : Int))])), (t0, .inl (cI, 24, .inl (fun j => iI ((tb a0 a1 j : Nat) : Int)))), (k0, .inl (cI, 12, .inl (fun j => iI ((K j : Nat) : Int)))), (p0, .inl (cI, 12, .inl (fun j => iI ((q j : Nat) : Int))))] [(cI, .int)] [(m0, .inr (1, [.int (iI 1), .ref t0, .ref k0, .ref p0, .int (iI ((w : Nat) : Int))])), (t0, .inl (cI, 24, .inl (fun j => iI ((tb a0 a1 j : Nat) : Int)))), (k0, .inl (cI, 12, .inl (fun j => iI ((K j : Nat) : Int)))), (p0, .inl (cI, 12, .inl (fun j => iI ((q j : Nat) : Int))))] (some (.int (iI 0))) := by
  refine Met.ofW (cc := cX1_keptSets) (maxL := 6) (ret := (some .int)) (by decide) rfl ?_
  intro P0 e s m args below meth c s₁ B hml hv
  obtain ⟨rfl, hP, hK, hD0⟩ := hv
  have hx := B.exec
  have hb := B.bytes
  have hr := B.returns
  have hts := atoms_spec (ws := wsX1_keptSets) B.pre
  have hown : s.vm.findClass RX1 = some m.cls := findClass_of_methodNamed B.named
  have hlocks := B.notSynchronized
  have hinX : ∀ w ∈ u_ws RX1 TX1 5, w ∈ wsX1_keptSets := by decide +kernel
  have hD : va_D (inW [(m0, .inr (1, [.int th, .ref t0, .ref k0, .ref p0, .int (iI ((w : Nat) : Int))])), (t0, .inl (cI, 24, .inl (fun j => iI ((tb a0 a1 j : Nat) : Int)))), (k0, .inl (cI, 12, .inl (fun j => iI ((K j : Nat) : Int)))), (p0, .inl (cI, 12, .inl (fun j => iI ((q j : Nat) : Int))))]) [(m0, .inr (1, [.int th, .ref t0, .ref k0, .ref p0, .int (iI ((w : Nat) : Int))])), (t0, .inl (cI, 24, .inl (fun j => iI ((tb a0 a1 j : Nat) : Int)))), (k0, .inl (cI, 12, .inl (fun j => iI ((K j : Nat) : Int)))), (p0, .inl (cI, 12, .inl (fun j => iI ((q j : Nat) : Int))))] := va_D_in hD0
  have hS : va_S (inW [(m0, .inr (1, [.int th, .ref t0, .ref k0, .ref p0, .int (iI ((w : Nat) : Int))])), (t0, .inl (cI, 24, .inl (fun j => iI ((tb a0 a1 j : Nat) : Int)))), (k0, .inl (cI, 12, .inl (fun j => iI ((K j : Nat) : Int)))), (p0, .inl (cI, 12, .inl (fun j => iI ((q j : Nat) : Int))))]) s.heap s.heap [] := va_S.rf
  have hl := lv_entry ([.ref m0, .int (iI z0), .int (iI z1), .int (iI z2), .int (iI z3)]) (n := 6) (Nat.le_of_ble_eq_true rfl)
  rw [lg_entry_eq]
  generalize (lg_sl ([.ref m0, .int (iI z0), .int (iI z1), .int (iI z2), .int (iI z3)]) ++ List.replicate (6 - (lg_sl ([.ref m0, .int (iI z0), .int (iI z1), .int (iI z2), .int (iI z3)])).length) Slot.unset).toArray = ls at hl ⊢
  have hl : lv_has ls 6 [(0, .ref m0), (1, .int (iI z0)), (2, .int (iI z1)), (3, .int (iI z2)), (4, .int (iI z3))] := hl
  have hza0 := hz0.1
  have hza1 := hz1.1
  have hza2 := hz2.1
  have hza3 := hz3.1
  have hzb0 := hz0.2
  have hzb1 := hz1.2
  have hzb2 := hz2.2
  have hzb3 := hz3.2
  refine lv_iload_n hx hb dX1_keptSets_0 rfl (lv_at hl 2 rfl) ?_
  refine lv_iload_n hx hb dX1_keptSets_1 rfl (lv_at hl 3 rfl) ?_
  refine rd_call (va_runS (As := [.int (iI z1), .int (iI z2)]) (rest := []) ⟨hx, hb, hml, hown, hts⟩ (mX1_isForm l z1 z2 ⟨by omega, by omega⟩ ⟨by omega, by omega⟩) (va_cwS 2 hts gX1_keptSets_X1_isForm rfl rfl rfl hdX1_isForm ⟨Nat.le_of_ble_eq_true rfl, Nat.le_of_ble_eq_true rfl⟩) tt_pre rfl rfl hl.1 rfl (lv_room (Nat.le_of_ble_eq_true rfl)) dX1_keptSets_2 ⟨Nat.le_of_ble_eq_true rfl, Nat.le_of_ble_eq_true rfl⟩) ?_
  refine bb_eq (tgt := 23) hx hb dX1_keptSets_5 (by decide) (fun c_5 => ?_) (fun c_5 => ?_)
  · skip
    refine ib_const hx hb dX1_keptSets_23 ?_
    refine lv_istore (lv' := [(5, .int (iI 0)), (0, .ref m0), (1, .int (iI z0)), (2, .int (iI z1)), (3, .int (iI z2)), (4, .int (iI z3))]) hx hb dX1_keptSets_24 hl (by decide) rfl (fun ls hl => ?_)
    refine lv_aload_n hx hb dX1_keptSets_26 rfl (lv_at hl 1 rfl) ?_
    refine lv_iload_n hx hb dX1_keptSets_27 rfl (lv_at hl 2 rfl) ?_
    refine rd_call (va_runS (As := [.int (iI z0)]) (rest := [.ref m0]) ⟨hx, hb, hml, hown, hts⟩ (mX1_isRow l z0 ⟨by omega, by omega⟩) (va_cwS 1 hts gX1_keptSets_X1_isRow rfl rfl rfl hdX1_isRow ⟨Nat.le_of_ble_eq_true rfl, Nat.le_of_ble_eq_true rfl⟩) tt_pre rfl rfl hl.1 rfl (lv_room (Nat.le_of_ble_eq_true rfl)) dX1_keptSets_28 ⟨Nat.le_of_ble_eq_true rfl, Nat.le_of_ble_eq_true rfl⟩) ?_
    refine bb_ne (tgt := 38) hx hb dX1_keptSets_31 (by decide) (fun c_31 => ?_) (fun c_31 => ?_)
    · skip
      refine lv_iload hx hb dX1_keptSets_38 (lv_at hl 0 rfl) ?_
      refine ib_if_eq (tgt := 47) hx hb dX1_keptSets_40 (by decide) ⟨by omega, by omega⟩ (fun c_40 => ?_) (fun c_40 => absurd c_40 (by decide))
      refine ib_const hx hb dX1_keptSets_47 ?_
      exfalso; omega
    · skip
      refine ib_const hx hb dX1_keptSets_34 ?_
      refine lv_goto (tgt := 48) hx hb dX1_keptSets_35 (by decide) ?_
      refine wr_call (va_runV (As := [.int (iI 1)]) (rest := []) ⟨hx, hb, hml, hown, hts⟩ (mX1_goesWell l dC dI cI m0 t0 k0 p0 a0 a1 K q th w h0 h1 hw hq 1 ⟨by omega, by omega⟩) (cwV 1 hts gX1_keptSets_X1_goesWell rfl rfl rfl hvX1_goesWell ⟨Nat.le_of_ble_eq_true rfl, Nat.le_of_ble_eq_true rfl⟩) (bD_pre (ci := 1) (q0 := 0) hK hP hD rfl rfl rfl) rfl rfl hl.1 rfl (lv_room (Nat.le_of_ble_eq_true rfl)) dX1_keptSets_48 ⟨Nat.le_of_ble_eq_true rfl, Nat.le_of_ble_eq_true rfl⟩) hS (fun q9 h => inW_same (w := [(m0, .inr (1, [.int th, .ref t0, .ref k0, .ref p0, .int (iI ((w : Nat) : Int))])), (t0, .inl (cI, 24, .inl (fun j => iI ((tb a0 a1 j : Nat) : Int)))), (k0, .inl (cI, 12, .inl (fun j => iI ((K j : Nat) : Int)))), (p0, .inl (cI, 12, .inl (fun j => iI ((q j : Nat) : Int))))]) (w' := [(m0, .inr (1, [.int th, .ref t0, .ref k0, .ref p0, .int (iI ((w : Nat) : Int))])), (t0, .inl (cI, 24, .inl (fun j => iI ((tb a0 a1 j : Nat) : Int)))), (k0, .inl (cI, 12, .inl (fun j => iI ((K j : Nat) : Int)))), (p0, .inl (cI, 12, .inl (fun j => iI ((q j : Nat) : Int))))]) rfl h) (fun H locs hP hz hk hS => ?_)
      have hD : va_D (inW [(m0, .inr (1, [.int th, .ref t0, .ref k0, .ref p0, .int (iI ((w : Nat) : Int))])), (t0, .inl (cI, 24, .inl (fun j => iI ((tb a0 a1 j : Nat) : Int)))), (k0, .inl (cI, 12, .inl (fun j => iI ((K j : Nat) : Int)))), (p0, .inl (cI, 12, .inl (fun j => iI ((q j : Nat) : Int))))]) [(m0, .inr (1, [.int (iI 1), .ref t0, .ref k0, .ref p0, .int (iI ((w : Nat) : Int))])), (t0, .inl (cI, 24, .inl (fun j => iI ((tb a0 a1 j : Nat) : Int)))), (k0, .inl (cI, 12, .inl (fun j => iI ((K j : Nat) : Int)))), (p0, .inl (cI, 12, .inl (fun j => iI ((q j : Nat) : Int))))] := va_D_same (w := [(m0, .inr (1, [.int th, .ref t0, .ref k0, .ref p0, .int (iI ((w : Nat) : Int))])), (t0, .inl (cI, 24, .inl (fun j => iI ((tb a0 a1 j : Nat) : Int)))), (k0, .inl (cI, 12, .inl (fun j => iI ((K j : Nat) : Int)))), (p0, .inl (cI, 12, .inl (fun j => iI ((q j : Nat) : Int))))]) rfl hD
      refine st_i (y := iI 0) (congrArg iI (bI_f (by decide))) ?_
      refine ib_if_eq (tgt := 69) hx hb dX1_keptSets_51 (by decide) ⟨by omega, by omega⟩ (fun c_51 => ?_) (fun c_51 => absurd c_51 (by decide))
      refine ib_const hx hb dX1_keptSets_69 ?_
      exact W.iret hx hb hr (fun t ht _ => ⟨rfl, by rw [ht]; exact hP, hS.F ht⟩) hS.2.2 dX1_keptSets_70
  · skip
    refine lv_iload hx hb dX1_keptSets_8 (lv_at hl 4 rfl) ?_
    refine ib_const hx hb dX1_keptSets_10 ?_
    refine ib_bi hx hb dX1_keptSets_11 (by decide) ?_
    refine rd_call (va_runS (As := [.int (iI z3), .int (iI 1), .int (iI 12)]) (rest := []) ⟨hx, hb, hml, hown, hts⟩ (mX1_in l z3 1 12 ⟨by omega, by omega⟩ ⟨by omega, by omega⟩ ⟨by omega, by omega⟩) (va_cwS 3 hts gX1_keptSets_X1_in rfl rfl rfl hdX1_in ⟨Nat.le_of_ble_eq_true rfl, Nat.le_of_ble_eq_true rfl⟩) tt_pre rfl rfl hl.1 rfl (lv_room (Nat.le_of_ble_eq_true rfl)) dX1_keptSets_13 ⟨Nat.le_of_ble_eq_true rfl, Nat.le_of_ble_eq_true rfl⟩) ?_
    refine bb_eq (tgt := 23) hx hb dX1_keptSets_16 (by decide) (fun c_16 => ?_) (fun c_16 => ?_)
    · skip
      refine ib_const hx hb dX1_keptSets_23 ?_
      refine lv_istore (lv' := [(5, .int (iI 0)), (0, .ref m0), (1, .int (iI z0)), (2, .int (iI z1)), (3, .int (iI z2)), (4, .int (iI z3))]) hx hb dX1_keptSets_24 hl (by decide) rfl (fun ls hl => ?_)
      refine lv_aload_n hx hb dX1_keptSets_26 rfl (lv_at hl 1 rfl) ?_
      refine lv_iload_n hx hb dX1_keptSets_27 rfl (lv_at hl 2 rfl) ?_
      refine rd_call (va_runS (As := [.int (iI z0)]) (rest := [.ref m0]) ⟨hx, hb, hml, hown, hts⟩ (mX1_isRow l z0 ⟨by omega, by omega⟩) (va_cwS 1 hts gX1_keptSets_X1_isRow rfl rfl rfl hdX1_isRow ⟨Nat.le_of_ble_eq_true rfl, Nat.le_of_ble_eq_true rfl⟩) tt_pre rfl rfl hl.1 rfl (lv_room (Nat.le_of_ble_eq_true rfl)) dX1_keptSets_28 ⟨Nat.le_of_ble_eq_true rfl, Nat.le_of_ble_eq_true rfl⟩) ?_
      refine bb_ne (tgt := 38) hx hb dX1_keptSets_31 (by decide) (fun c_31 => ?_) (fun c_31 => ?_)
      · skip
        refine lv_iload hx hb dX1_keptSets_38 (lv_at hl 0 rfl) ?_
        refine ib_if_eq (tgt := 47) hx hb dX1_keptSets_40 (by decide) ⟨by omega, by omega⟩ (fun c_40 => ?_) (fun c_40 => absurd c_40 (by decide))
        refine ib_const hx hb dX1_keptSets_47 ?_
        exfalso; omega
      · skip
        refine ib_const hx hb dX1_keptSets_34 ?_
        refine lv_goto (tgt := 48) hx hb dX1_keptSets_35 (by decide) ?_
        refine wr_call (va_runV (As := [.int (iI 1)]) (rest := []) ⟨hx, hb, hml, hown, hts⟩ (mX1_goesWell l dC dI cI m0 t0 k0 p0 a0 a1 K q th w h0 h1 hw hq 1 ⟨by omega, by omega⟩) (cwV 1 hts gX1_keptSets_X1_goesWell rfl rfl rfl hvX1_goesWell ⟨Nat.le_of_ble_eq_true rfl, Nat.le_of_ble_eq_true rfl⟩) (bD_pre (ci := 1) (q0 := 0) hK hP hD rfl rfl rfl) rfl rfl hl.1 rfl (lv_room (Nat.le_of_ble_eq_true rfl)) dX1_keptSets_48 ⟨Nat.le_of_ble_eq_true rfl, Nat.le_of_ble_eq_true rfl⟩) hS (fun q9 h => inW_same (w := [(m0, .inr (1, [.int th, .ref t0, .ref k0, .ref p0, .int (iI ((w : Nat) : Int))])), (t0, .inl (cI, 24, .inl (fun j => iI ((tb a0 a1 j : Nat) : Int)))), (k0, .inl (cI, 12, .inl (fun j => iI ((K j : Nat) : Int)))), (p0, .inl (cI, 12, .inl (fun j => iI ((q j : Nat) : Int))))]) (w' := [(m0, .inr (1, [.int th, .ref t0, .ref k0, .ref p0, .int (iI ((w : Nat) : Int))])), (t0, .inl (cI, 24, .inl (fun j => iI ((tb a0 a1 j : Nat) : Int)))), (k0, .inl (cI, 12, .inl (fun j => iI ((K j : Nat) : Int)))), (p0, .inl (cI, 12, .inl (fun j => iI ((q j : Nat) : Int))))]) rfl h) (fun H locs hP hz hk hS => ?_)
        have hD : va_D (inW [(m0, .inr (1, [.int th, .ref t0, .ref k0, .ref p0, .int (iI ((w : Nat) : Int))])), (t0, .inl (cI, 24, .inl (fun j => iI ((tb a0 a1 j : Nat) : Int)))), (k0, .inl (cI, 12, .inl (fun j => iI ((K j : Nat) : Int)))), (p0, .inl (cI, 12, .inl (fun j => iI ((q j : Nat) : Int))))]) [(m0, .inr (1, [.int (iI 1), .ref t0, .ref k0, .ref p0, .int (iI ((w : Nat) : Int))])), (t0, .inl (cI, 24, .inl (fun j => iI ((tb a0 a1 j : Nat) : Int)))), (k0, .inl (cI, 12, .inl (fun j => iI ((K j : Nat) : Int)))), (p0, .inl (cI, 12, .inl (fun j => iI ((q j : Nat) : Int))))] := va_D_same (w := [(m0, .inr (1, [.int th, .ref t0, .ref k0, .ref p0, .int (iI ((w : Nat) : Int))])), (t0, .inl (cI, 24, .inl (fun j => iI ((tb a0 a1 j : Nat) : Int)))), (k0, .inl (cI, 12, .inl (fun j => iI ((K j : Nat) : Int)))), (p0, .inl (cI, 12, .inl (fun j => iI ((q j : Nat) : Int))))]) rfl hD
        refine st_i (y := iI 0) (congrArg iI (bI_f (by decide))) ?_
        refine ib_if_eq (tgt := 69) hx hb dX1_keptSets_51 (by decide) ⟨by omega, by omega⟩ (fun c_51 => ?_) (fun c_51 => absurd c_51 (by decide))
        refine ib_const hx hb dX1_keptSets_69 ?_
        exact W.iret hx hb hr (fun t ht _ => ⟨rfl, by rw [ht]; exact hP, hS.F ht⟩) hS.2.2 dX1_keptSets_70
    · skip
      refine ib_const hx hb dX1_keptSets_19 ?_
      refine lv_goto (tgt := 24) hx hb dX1_keptSets_20 (by decide) ?_
      refine lv_istore (lv' := [(5, .int (iI 1)), (0, .ref m0), (1, .int (iI z0)), (2, .int (iI z1)), (3, .int (iI z2)), (4, .int (iI z3))]) hx hb dX1_keptSets_24 hl (by decide) rfl (fun ls hl => ?_)
      refine lv_aload_n hx hb dX1_keptSets_26 rfl (lv_at hl 1 rfl) ?_
      refine lv_iload_n hx hb dX1_keptSets_27 rfl (lv_at hl 2 rfl) ?_
      refine rd_call (va_runS (As := [.int (iI z0)]) (rest := [.ref m0]) ⟨hx, hb, hml, hown, hts⟩ (mX1_isRow l z0 ⟨by omega, by omega⟩) (va_cwS 1 hts gX1_keptSets_X1_isRow rfl rfl rfl hdX1_isRow ⟨Nat.le_of_ble_eq_true rfl, Nat.le_of_ble_eq_true rfl⟩) tt_pre rfl rfl hl.1 rfl (lv_room (Nat.le_of_ble_eq_true rfl)) dX1_keptSets_28 ⟨Nat.le_of_ble_eq_true rfl, Nat.le_of_ble_eq_true rfl⟩) ?_
      refine bb_ne (tgt := 38) hx hb dX1_keptSets_31 (by decide) (fun c_31 => ?_) (fun c_31 => ?_)
      · skip
        refine lv_iload hx hb dX1_keptSets_38 (lv_at hl 0 rfl) ?_
        refine ib_if_eq (tgt := 47) hx hb dX1_keptSets_40 (by decide) ⟨by omega, by omega⟩ (fun c_40 => absurd c_40 (by decide)) (fun c_40 => ?_)
        refine ib_const hx hb dX1_keptSets_43 ?_
        refine lv_goto (tgt := 48) hx hb dX1_keptSets_44 (by decide) ?_
        exfalso; omega
      · skip
        refine ib_const hx hb dX1_keptSets_34 ?_
        refine lv_goto (tgt := 48) hx hb dX1_keptSets_35 (by decide) ?_
        refine wr_call (va_runV (As := [.int (iI 1)]) (rest := []) ⟨hx, hb, hml, hown, hts⟩ (mX1_goesWell l dC dI cI m0 t0 k0 p0 a0 a1 K q th w h0 h1 hw hq 1 ⟨by omega, by omega⟩) (cwV 1 hts gX1_keptSets_X1_goesWell rfl rfl rfl hvX1_goesWell ⟨Nat.le_of_ble_eq_true rfl, Nat.le_of_ble_eq_true rfl⟩) (bD_pre (ci := 1) (q0 := 0) hK hP hD rfl rfl rfl) rfl rfl hl.1 rfl (lv_room (Nat.le_of_ble_eq_true rfl)) dX1_keptSets_48 ⟨Nat.le_of_ble_eq_true rfl, Nat.le_of_ble_eq_true rfl⟩) hS (fun q9 h => inW_same (w := [(m0, .inr (1, [.int th, .ref t0, .ref k0, .ref p0, .int (iI ((w : Nat) : Int))])), (t0, .inl (cI, 24, .inl (fun j => iI ((tb a0 a1 j : Nat) : Int)))), (k0, .inl (cI, 12, .inl (fun j => iI ((K j : Nat) : Int)))), (p0, .inl (cI, 12, .inl (fun j => iI ((q j : Nat) : Int))))]) (w' := [(m0, .inr (1, [.int th, .ref t0, .ref k0, .ref p0, .int (iI ((w : Nat) : Int))])), (t0, .inl (cI, 24, .inl (fun j => iI ((tb a0 a1 j : Nat) : Int)))), (k0, .inl (cI, 12, .inl (fun j => iI ((K j : Nat) : Int)))), (p0, .inl (cI, 12, .inl (fun j => iI ((q j : Nat) : Int))))]) rfl h) (fun H locs hP hz hk hS => ?_)
        have hD : va_D (inW [(m0, .inr (1, [.int th, .ref t0, .ref k0, .ref p0, .int (iI ((w : Nat) : Int))])), (t0, .inl (cI, 24, .inl (fun j => iI ((tb a0 a1 j : Nat) : Int)))), (k0, .inl (cI, 12, .inl (fun j => iI ((K j : Nat) : Int)))), (p0, .inl (cI, 12, .inl (fun j => iI ((q j : Nat) : Int))))]) [(m0, .inr (1, [.int (iI 1), .ref t0, .ref k0, .ref p0, .int (iI ((w : Nat) : Int))])), (t0, .inl (cI, 24, .inl (fun j => iI ((tb a0 a1 j : Nat) : Int)))), (k0, .inl (cI, 12, .inl (fun j => iI ((K j : Nat) : Int)))), (p0, .inl (cI, 12, .inl (fun j => iI ((q j : Nat) : Int))))] := va_D_same (w := [(m0, .inr (1, [.int th, .ref t0, .ref k0, .ref p0, .int (iI ((w : Nat) : Int))])), (t0, .inl (cI, 24, .inl (fun j => iI ((tb a0 a1 j : Nat) : Int)))), (k0, .inl (cI, 12, .inl (fun j => iI ((K j : Nat) : Int)))), (p0, .inl (cI, 12, .inl (fun j => iI ((q j : Nat) : Int))))]) rfl hD
        refine st_i (y := iI 0) (congrArg iI (bI_f (by decide))) ?_
        refine ib_if_eq (tgt := 69) hx hb dX1_keptSets_51 (by decide) ⟨by omega, by omega⟩ (fun c_51 => ?_) (fun c_51 => absurd c_51 (by decide))
        refine ib_const hx hb dX1_keptSets_69 ?_
        exact W.iret hx hb hr (fun t ht _ => ⟨rfl, by rw [ht]; exact hP, hS.F ht⟩) hS.2.2 dX1_keptSets_70

set_option maxHeartbeats 4000000 in
set_option maxRecDepth 100000 in
theorem mX1_keptSets_x2 (l : Launch) (dC : Nat → ClassId) (dI : Nat → Nat → Nat) (cI : ClassId) (m0 t0 k0 p0 : Nat) (a0 a1 K q : Nat → Nat) (th : Int32) (w : Nat) (h0 : lt12 a0) (h1 : lt12 a1) (hw : w ≤ 12) (hq : ∀ i, i < w → q i < 12) (z0 z1 z2 z3 : Int) (hz0 : inI z0) (hz1 : inI z1) (hz2 : inI z2) (hz3 : inI z3) (hbad : (z0 = 0 ∨ z0 = 1) ∧ ¬ ((0 ≤ z1 ∧ z1 ≤ 3 ∧ 0 ≤ z2 ∧ z2 ≤ 11) ∧ (1 ≤ z3 ∧ z3 ≤ 12))) : wr l yX1_keptSets wsX1_keptSets { frames := 3, cells := 0, slots := 0, locals := 63 } [.ref m0, .int (iI z0), .int (iI z1), .int (iI z2), .int (iI z3)] (dC, dI) [(m0, .inr (1, [.int th, .ref t0, .ref k0, .ref p0, .int (iI ((w : Nat) : Int))])), (t0, .inl (cI, 24, .inl (fun j => iI ((tb a0 a1 j : Nat) : Int)))), (k0, .inl (cI, 12, .inl (fun j => iI ((K j : Nat) : Int)))), (p0, .inl (cI, 12, .inl (fun j => iI ((q j : Nat) : Int))))] [(cI, .int)] [(m0, .inr (1, [.int (iI 2), .ref t0, .ref k0, .ref p0, .int (iI ((w : Nat) : Int))])), (t0, .inl (cI, 24, .inl (fun j => iI ((tb a0 a1 j : Nat) : Int)))), (k0, .inl (cI, 12, .inl (fun j => iI ((K j : Nat) : Int)))), (p0, .inl (cI, 12, .inl (fun j => iI ((q j : Nat) : Int))))] (some (.int (iI 0))) := by
  refine Met.ofW (cc := cX1_keptSets) (maxL := 6) (ret := (some .int)) (by decide) rfl ?_
  intro P0 e s m args below meth c s₁ B hml hv
  obtain ⟨rfl, hP, hK, hD0⟩ := hv
  have hx := B.exec
  have hb := B.bytes
  have hr := B.returns
  have hts := atoms_spec (ws := wsX1_keptSets) B.pre
  have hown : s.vm.findClass RX1 = some m.cls := findClass_of_methodNamed B.named
  have hlocks := B.notSynchronized
  have hinX : ∀ w ∈ u_ws RX1 TX1 5, w ∈ wsX1_keptSets := by decide +kernel
  have hD : va_D (inW [(m0, .inr (1, [.int th, .ref t0, .ref k0, .ref p0, .int (iI ((w : Nat) : Int))])), (t0, .inl (cI, 24, .inl (fun j => iI ((tb a0 a1 j : Nat) : Int)))), (k0, .inl (cI, 12, .inl (fun j => iI ((K j : Nat) : Int)))), (p0, .inl (cI, 12, .inl (fun j => iI ((q j : Nat) : Int))))]) [(m0, .inr (1, [.int th, .ref t0, .ref k0, .ref p0, .int (iI ((w : Nat) : Int))])), (t0, .inl (cI, 24, .inl (fun j => iI ((tb a0 a1 j : Nat) : Int)))), (k0, .inl (cI, 12, .inl (fun j => iI ((K j : Nat) : Int)))), (p0, .inl (cI, 12, .inl (fun j => iI ((q j : Nat) : Int))))] := va_D_in hD0
  have hS : va_S (inW [(m0, .inr (1, [.int th, .ref t0, .ref k0, .ref p0, .int (iI ((w : Nat) : Int))])), (t0, .inl (cI, 24, .inl (fun j => iI ((tb a0 a1 j : Nat) : Int)))), (k0, .inl (cI, 12, .inl (fun j => iI ((K j : Nat) : Int)))), (p0, .inl (cI, 12, .inl (fun j => iI ((q j : Nat) : Int))))]) s.heap s.heap [] := va_S.rf
  have hl := lv_entry ([.ref m0, .int (iI z0), .int (iI z1), .int (iI z2), .int (iI z3)]) (n := 6) (Nat.le_of_ble_eq_true rfl)
  rw [lg_entry_eq]
  generalize (lg_sl ([.ref m0, .int (iI z0), .int (iI z1), .int (iI z2), .int (iI z3)]) ++ List.replicate (6 - (lg_sl ([.ref m0, .int (iI z0), .int (iI z1), .int (iI z2), .int (iI z3)])).length) Slot.unset).toArray = ls at hl ⊢
  have hl : lv_has ls 6 [(0, .ref m0), (1, .int (iI z0)), (2, .int (iI z1)), (3, .int (iI z2)), (4, .int (iI z3))] := hl
  have hza0 := hz0.1
  have hza1 := hz1.1
  have hza2 := hz2.1
  have hza3 := hz3.1
  have hzb0 := hz0.2
  have hzb1 := hz1.2
  have hzb2 := hz2.2
  have hzb3 := hz3.2
  refine lv_iload_n hx hb dX1_keptSets_0 rfl (lv_at hl 2 rfl) ?_
  refine lv_iload_n hx hb dX1_keptSets_1 rfl (lv_at hl 3 rfl) ?_
  refine rd_call (va_runS (As := [.int (iI z1), .int (iI z2)]) (rest := []) ⟨hx, hb, hml, hown, hts⟩ (mX1_isForm l z1 z2 ⟨by omega, by omega⟩ ⟨by omega, by omega⟩) (va_cwS 2 hts gX1_keptSets_X1_isForm rfl rfl rfl hdX1_isForm ⟨Nat.le_of_ble_eq_true rfl, Nat.le_of_ble_eq_true rfl⟩) tt_pre rfl rfl hl.1 rfl (lv_room (Nat.le_of_ble_eq_true rfl)) dX1_keptSets_2 ⟨Nat.le_of_ble_eq_true rfl, Nat.le_of_ble_eq_true rfl⟩) ?_
  refine bb_eq (tgt := 23) hx hb dX1_keptSets_5 (by decide) (fun c_5 => ?_) (fun c_5 => ?_)
  · skip
    refine ib_const hx hb dX1_keptSets_23 ?_
    refine lv_istore (lv' := [(5, .int (iI 0)), (0, .ref m0), (1, .int (iI z0)), (2, .int (iI z1)), (3, .int (iI z2)), (4, .int (iI z3))]) hx hb dX1_keptSets_24 hl (by decide) rfl (fun ls hl => ?_)
    refine lv_aload_n hx hb dX1_keptSets_26 rfl (lv_at hl 1 rfl) ?_
    refine lv_iload_n hx hb dX1_keptSets_27 rfl (lv_at hl 2 rfl) ?_
    refine rd_call (va_runS (As := [.int (iI z0)]) (rest := [.ref m0]) ⟨hx, hb, hml, hown, hts⟩ (mX1_isRow l z0 ⟨by omega, by omega⟩) (va_cwS 1 hts gX1_keptSets_X1_isRow rfl rfl rfl hdX1_isRow ⟨Nat.le_of_ble_eq_true rfl, Nat.le_of_ble_eq_true rfl⟩) tt_pre rfl rfl hl.1 rfl (lv_room (Nat.le_of_ble_eq_true rfl)) dX1_keptSets_28 ⟨Nat.le_of_ble_eq_true rfl, Nat.le_of_ble_eq_true rfl⟩) ?_
    refine bb_ne (tgt := 38) hx hb dX1_keptSets_31 (by decide) (fun c_31 => ?_) (fun c_31 => ?_)
    · skip
      refine lv_iload hx hb dX1_keptSets_38 (lv_at hl 0 rfl) ?_
      refine ib_if_eq (tgt := 47) hx hb dX1_keptSets_40 (by decide) ⟨by omega, by omega⟩ (fun c_40 => ?_) (fun c_40 => absurd c_40 (by decide))
      refine ib_const hx hb dX1_keptSets_47 ?_
      refine wr_call (va_runV (As := [.int (iI 2)]) (rest := []) ⟨hx, hb, hml, hown, hts⟩ (mX1_goesWell l dC dI cI m0 t0 k0 p0 a0 a1 K q th w h0 h1 hw hq 2 ⟨by omega, by omega⟩) (cwV 1 hts gX1_keptSets_X1_goesWell rfl rfl rfl hvX1_goesWell ⟨Nat.le_of_ble_eq_true rfl, Nat.le_of_ble_eq_true rfl⟩) (bD_pre (ci := 1) (q0 := 0) hK hP hD rfl rfl rfl) rfl rfl hl.1 rfl (lv_room (Nat.le_of_ble_eq_true rfl)) dX1_keptSets_48 ⟨Nat.le_of_ble_eq_true rfl, Nat.le_of_ble_eq_true rfl⟩) hS (fun q9 h => inW_same (w := [(m0, .inr (1, [.int th, .ref t0, .ref k0, .ref p0, .int (iI ((w : Nat) : Int))])), (t0, .inl (cI, 24, .inl (fun j => iI ((tb a0 a1 j : Nat) : Int)))), (k0, .inl (cI, 12, .inl (fun j => iI ((K j : Nat) : Int)))), (p0, .inl (cI, 12, .inl (fun j => iI ((q j : Nat) : Int))))]) (w' := [(m0, .inr (1, [.int th, .ref t0, .ref k0, .ref p0, .int (iI ((w : Nat) : Int))])), (t0, .inl (cI, 24, .inl (fun j => iI ((tb a0 a1 j : Nat) : Int)))), (k0, .inl (cI, 12, .inl (fun j => iI ((K j : Nat) : Int)))), (p0, .inl (cI, 12, .inl (fun j => iI ((q j : Nat) : Int))))]) rfl h) (fun H locs hP hz hk hS => ?_)
      have hD : va_D (inW [(m0, .inr (1, [.int th, .ref t0, .ref k0, .ref p0, .int (iI ((w : Nat) : Int))])), (t0, .inl (cI, 24, .inl (fun j => iI ((tb a0 a1 j : Nat) : Int)))), (k0, .inl (cI, 12, .inl (fun j => iI ((K j : Nat) : Int)))), (p0, .inl (cI, 12, .inl (fun j => iI ((q j : Nat) : Int))))]) [(m0, .inr (1, [.int (iI 2), .ref t0, .ref k0, .ref p0, .int (iI ((w : Nat) : Int))])), (t0, .inl (cI, 24, .inl (fun j => iI ((tb a0 a1 j : Nat) : Int)))), (k0, .inl (cI, 12, .inl (fun j => iI ((K j : Nat) : Int)))), (p0, .inl (cI, 12, .inl (fun j => iI ((q j : Nat) : Int))))] := va_D_same (w := [(m0, .inr (1, [.int th, .ref t0, .ref k0, .ref p0, .int (iI ((w : Nat) : Int))])), (t0, .inl (cI, 24, .inl (fun j => iI ((tb a0 a1 j : Nat) : Int)))), (k0, .inl (cI, 12, .inl (fun j => iI ((K j : Nat) : Int)))), (p0, .inl (cI, 12, .inl (fun j => iI ((q j : Nat) : Int))))]) rfl hD
      refine st_i (y := iI 0) (congrArg iI (bI_f (by decide))) ?_
      refine ib_if_eq (tgt := 69) hx hb dX1_keptSets_51 (by decide) ⟨by omega, by omega⟩ (fun c_51 => ?_) (fun c_51 => absurd c_51 (by decide))
      refine ib_const hx hb dX1_keptSets_69 ?_
      exact W.iret hx hb hr (fun t ht _ => ⟨rfl, by rw [ht]; exact hP, hS.F ht⟩) hS.2.2 dX1_keptSets_70
    · skip
      refine ib_const hx hb dX1_keptSets_34 ?_
      refine lv_goto (tgt := 48) hx hb dX1_keptSets_35 (by decide) ?_
      exfalso; omega
  · skip
    refine lv_iload hx hb dX1_keptSets_8 (lv_at hl 4 rfl) ?_
    refine ib_const hx hb dX1_keptSets_10 ?_
    refine ib_bi hx hb dX1_keptSets_11 (by decide) ?_
    refine rd_call (va_runS (As := [.int (iI z3), .int (iI 1), .int (iI 12)]) (rest := []) ⟨hx, hb, hml, hown, hts⟩ (mX1_in l z3 1 12 ⟨by omega, by omega⟩ ⟨by omega, by omega⟩ ⟨by omega, by omega⟩) (va_cwS 3 hts gX1_keptSets_X1_in rfl rfl rfl hdX1_in ⟨Nat.le_of_ble_eq_true rfl, Nat.le_of_ble_eq_true rfl⟩) tt_pre rfl rfl hl.1 rfl (lv_room (Nat.le_of_ble_eq_true rfl)) dX1_keptSets_13 ⟨Nat.le_of_ble_eq_true rfl, Nat.le_of_ble_eq_true rfl⟩) ?_
    refine bb_eq (tgt := 23) hx hb dX1_keptSets_16 (by decide) (fun c_16 => ?_) (fun c_16 => ?_)
    · skip
      refine ib_const hx hb dX1_keptSets_23 ?_
      refine lv_istore (lv' := [(5, .int (iI 0)), (0, .ref m0), (1, .int (iI z0)), (2, .int (iI z1)), (3, .int (iI z2)), (4, .int (iI z3))]) hx hb dX1_keptSets_24 hl (by decide) rfl (fun ls hl => ?_)
      refine lv_aload_n hx hb dX1_keptSets_26 rfl (lv_at hl 1 rfl) ?_
      refine lv_iload_n hx hb dX1_keptSets_27 rfl (lv_at hl 2 rfl) ?_
      refine rd_call (va_runS (As := [.int (iI z0)]) (rest := [.ref m0]) ⟨hx, hb, hml, hown, hts⟩ (mX1_isRow l z0 ⟨by omega, by omega⟩) (va_cwS 1 hts gX1_keptSets_X1_isRow rfl rfl rfl hdX1_isRow ⟨Nat.le_of_ble_eq_true rfl, Nat.le_of_ble_eq_true rfl⟩) tt_pre rfl rfl hl.1 rfl (lv_room (Nat.le_of_ble_eq_true rfl)) dX1_keptSets_28 ⟨Nat.le_of_ble_eq_true rfl, Nat.le_of_ble_eq_true rfl⟩) ?_
      refine bb_ne (tgt := 38) hx hb dX1_keptSets_31 (by decide) (fun c_31 => ?_) (fun c_31 => ?_)
      · skip
        refine lv_iload hx hb dX1_keptSets_38 (lv_at hl 0 rfl) ?_
        refine ib_if_eq (tgt := 47) hx hb dX1_keptSets_40 (by decide) ⟨by omega, by omega⟩ (fun c_40 => ?_) (fun c_40 => absurd c_40 (by decide))
        refine ib_const hx hb dX1_keptSets_47 ?_
        refine wr_call (va_runV (As := [.int (iI 2)]) (rest := []) ⟨hx, hb, hml, hown, hts⟩ (mX1_goesWell l dC dI cI m0 t0 k0 p0 a0 a1 K q th w h0 h1 hw hq 2 ⟨by omega, by omega⟩) (cwV 1 hts gX1_keptSets_X1_goesWell rfl rfl rfl hvX1_goesWell ⟨Nat.le_of_ble_eq_true rfl, Nat.le_of_ble_eq_true rfl⟩) (bD_pre (ci := 1) (q0 := 0) hK hP hD rfl rfl rfl) rfl rfl hl.1 rfl (lv_room (Nat.le_of_ble_eq_true rfl)) dX1_keptSets_48 ⟨Nat.le_of_ble_eq_true rfl, Nat.le_of_ble_eq_true rfl⟩) hS (fun q9 h => inW_same (w := [(m0, .inr (1, [.int th, .ref t0, .ref k0, .ref p0, .int (iI ((w : Nat) : Int))])), (t0, .inl (cI, 24, .inl (fun j => iI ((tb a0 a1 j : Nat) : Int)))), (k0, .inl (cI, 12, .inl (fun j => iI ((K j : Nat) : Int)))), (p0, .inl (cI, 12, .inl (fun j => iI ((q j : Nat) : Int))))]) (w' := [(m0, .inr (1, [.int th, .ref t0, .ref k0, .ref p0, .int (iI ((w : Nat) : Int))])), (t0, .inl (cI, 24, .inl (fun j => iI ((tb a0 a1 j : Nat) : Int)))), (k0, .inl (cI, 12, .inl (fun j => iI ((K j : Nat) : Int)))), (p0, .inl (cI, 12, .inl (fun j => iI ((q j : Nat) : Int))))]) rfl h) (fun H locs hP hz hk hS => ?_)
        have hD : va_D (inW [(m0, .inr (1, [.int th, .ref t0, .ref k0, .ref p0, .int (iI ((w : Nat) : Int))])), (t0, .inl (cI, 24, .inl (fun j => iI ((tb a0 a1 j : Nat) : Int)))), (k0, .inl (cI, 12, .inl (fun j => iI ((K j : Nat) : Int)))), (p0, .inl (cI, 12, .inl (fun j => iI ((q j : Nat) : Int))))]) [(m0, .inr (1, [.int (iI 2), .ref t0, .ref k0, .ref p0, .int (iI ((w : Nat) : Int))])), (t0, .inl (cI, 24, .inl (fun j => iI ((tb a0 a1 j : Nat) : Int)))), (k0, .inl (cI, 12, .inl (fun j => iI ((K j : Nat) : Int)))), (p0, .inl (cI, 12, .inl (fun j => iI ((q j : Nat) : Int))))] := va_D_same (w := [(m0, .inr (1, [.int th, .ref t0, .ref k0, .ref p0, .int (iI ((w : Nat) : Int))])), (t0, .inl (cI, 24, .inl (fun j => iI ((tb a0 a1 j : Nat) : Int)))), (k0, .inl (cI, 12, .inl (fun j => iI ((K j : Nat) : Int)))), (p0, .inl (cI, 12, .inl (fun j => iI ((q j : Nat) : Int))))]) rfl hD
        refine st_i (y := iI 0) (congrArg iI (bI_f (by decide))) ?_
        refine ib_if_eq (tgt := 69) hx hb dX1_keptSets_51 (by decide) ⟨by omega, by omega⟩ (fun c_51 => ?_) (fun c_51 => absurd c_51 (by decide))
        refine ib_const hx hb dX1_keptSets_69 ?_
        exact W.iret hx hb hr (fun t ht _ => ⟨rfl, by rw [ht]; exact hP, hS.F ht⟩) hS.2.2 dX1_keptSets_70
      · skip
        refine ib_const hx hb dX1_keptSets_34 ?_
        refine lv_goto (tgt := 48) hx hb dX1_keptSets_35 (by decide) ?_
        exfalso; omega
    · skip
      refine ib_const hx hb dX1_keptSets_19 ?_
      refine lv_goto (tgt := 24) hx hb dX1_keptSets_20 (by decide) ?_
      refine lv_istore (lv' := [(5, .int (iI 1)), (0, .ref m0), (1, .int (iI z0)), (2, .int (iI z1)), (3, .int (iI z2)), (4, .int (iI z3))]) hx hb dX1_keptSets_24 hl (by decide) rfl (fun ls hl => ?_)
      refine lv_aload_n hx hb dX1_keptSets_26 rfl (lv_at hl 1 rfl) ?_
      refine lv_iload_n hx hb dX1_keptSets_27 rfl (lv_at hl 2 rfl) ?_
      refine rd_call (va_runS (As := [.int (iI z0)]) (rest := [.ref m0]) ⟨hx, hb, hml, hown, hts⟩ (mX1_isRow l z0 ⟨by omega, by omega⟩) (va_cwS 1 hts gX1_keptSets_X1_isRow rfl rfl rfl hdX1_isRow ⟨Nat.le_of_ble_eq_true rfl, Nat.le_of_ble_eq_true rfl⟩) tt_pre rfl rfl hl.1 rfl (lv_room (Nat.le_of_ble_eq_true rfl)) dX1_keptSets_28 ⟨Nat.le_of_ble_eq_true rfl, Nat.le_of_ble_eq_true rfl⟩) ?_
      refine bb_ne (tgt := 38) hx hb dX1_keptSets_31 (by decide) (fun c_31 => ?_) (fun c_31 => ?_)
      · skip
        refine lv_iload hx hb dX1_keptSets_38 (lv_at hl 0 rfl) ?_
        refine ib_if_eq (tgt := 47) hx hb dX1_keptSets_40 (by decide) ⟨by omega, by omega⟩ (fun c_40 => absurd c_40 (by decide)) (fun c_40 => ?_)
        refine ib_const hx hb dX1_keptSets_43 ?_
        refine lv_goto (tgt := 48) hx hb dX1_keptSets_44 (by decide) ?_
        exfalso; omega
      · skip
        refine ib_const hx hb dX1_keptSets_34 ?_
        refine lv_goto (tgt := 48) hx hb dX1_keptSets_35 (by decide) ?_
        exfalso; omega

set_option maxHeartbeats 4000000 in
set_option maxRecDepth 100000 in
theorem mX1_longestKept_ok (l : Launch) (dC : Nat → ClassId) (dI : Nat → Nat → Nat) (cI : ClassId) (m0 t0 k0 p0 : Nat) (a0 a1 K q : Nat → Nat) (th : Int32) (w : Nat) (h0 : lt12 a0) (h1 : lt12 a1) (hw : w ≤ 12) (hq : ∀ i, i < w → q i < 12) (r k i : Nat) (hr9 : r < 2) (hk : k < 4) (hi : i < 12) : wr l yX1_longestKept wsX1_longestKept { frames := 3, cells := 0, slots := 0, locals := 73 } [.ref m0, .int (iI ((r : Nat) : Int)), .int (iI ((k : Nat) : Int)), .int (iI ((i : Nat) : Int))] (dC, dI) [(m0, .inr (1, [.int th, .ref t0, .ref k0, .ref p0, .int (iI ((w : Nat) : Int))])), (t0, .inl (cI, 24, .inl (fun j => iI ((tb a0 a1 j : Nat) : Int)))), (k0, .inl (cI, 12, .inl (fun j => iI ((K j : Nat) : Int)))), (p0, .inl (cI, 12, .inl (fun j => iI ((q j : Nat) : Int))))] [(cI, .int)] [(m0, .inr (1, [.int (iI 0), .ref t0, .ref k0, .ref p0, .int (iI ((w : Nat) : Int))])), (t0, .inl (cI, 24, .inl (fun j => iI ((tb a0 a1 j : Nat) : Int)))), (k0, .inl (cI, 12, .inl (fun j => iI ((K j : Nat) : Int)))), (p0, .inl (cI, 12, .inl (fun j => iI ((q j : Nat) : Int))))] (some (.int (iI ((lkO (rw_ r a0 a1) (fm (rw_ r a0 a1) (12 * k + i)) 12 : Nat) : Int)))) := by
  refine Met.ofW (cc := cX1_longestKept) (maxL := 8) (ret := (some .int)) (by decide) rfl ?_
  intro P0 e s m args below meth c s₁ B hml hv
  obtain ⟨rfl, hP, hK, hD0⟩ := hv
  have hx := B.exec
  have hb := B.bytes
  have hr := B.returns
  have hts := atoms_spec (ws := wsX1_longestKept) B.pre
  have hown : s.vm.findClass RX1 = some m.cls := findClass_of_methodNamed B.named
  have hlocks := B.notSynchronized
  have hinX : ∀ w ∈ u_ws RX1 TX1 5, w ∈ wsX1_longestKept := by decide +kernel
  have hD : va_D (inW [(m0, .inr (1, [.int th, .ref t0, .ref k0, .ref p0, .int (iI ((w : Nat) : Int))])), (t0, .inl (cI, 24, .inl (fun j => iI ((tb a0 a1 j : Nat) : Int)))), (k0, .inl (cI, 12, .inl (fun j => iI ((K j : Nat) : Int)))), (p0, .inl (cI, 12, .inl (fun j => iI ((q j : Nat) : Int))))]) [(m0, .inr (1, [.int th, .ref t0, .ref k0, .ref p0, .int (iI ((w : Nat) : Int))])), (t0, .inl (cI, 24, .inl (fun j => iI ((tb a0 a1 j : Nat) : Int)))), (k0, .inl (cI, 12, .inl (fun j => iI ((K j : Nat) : Int)))), (p0, .inl (cI, 12, .inl (fun j => iI ((q j : Nat) : Int))))] := va_D_in hD0
  have hS : va_S (inW [(m0, .inr (1, [.int th, .ref t0, .ref k0, .ref p0, .int (iI ((w : Nat) : Int))])), (t0, .inl (cI, 24, .inl (fun j => iI ((tb a0 a1 j : Nat) : Int)))), (k0, .inl (cI, 12, .inl (fun j => iI ((K j : Nat) : Int)))), (p0, .inl (cI, 12, .inl (fun j => iI ((q j : Nat) : Int))))]) s.heap s.heap [] := va_S.rf
  have hl := lv_entry ([.ref m0, .int (iI ((r : Nat) : Int)), .int (iI ((k : Nat) : Int)), .int (iI ((i : Nat) : Int))]) (n := 8) (Nat.le_of_ble_eq_true rfl)
  rw [lg_entry_eq]
  generalize (lg_sl ([.ref m0, .int (iI ((r : Nat) : Int)), .int (iI ((k : Nat) : Int)), .int (iI ((i : Nat) : Int))]) ++ List.replicate (8 - (lg_sl ([.ref m0, .int (iI ((r : Nat) : Int)), .int (iI ((k : Nat) : Int)), .int (iI ((i : Nat) : Int))])).length) Slot.unset).toArray = ls at hl ⊢
  have hl : lv_has ls 8 [(0, .ref m0), (1, .int (iI ((r : Nat) : Int))), (2, .int (iI ((k : Nat) : Int))), (3, .int (iI ((i : Nat) : Int)))] := hl
  refine lv_aload_n hx hb dX1_longestKept_0 rfl (lv_at hl 0 rfl) ?_
  refine lv_iload_n hx hb dX1_longestKept_1 rfl (lv_at hl 1 rfl) ?_
  refine rd_call (va_runS (As := [.int (iI ((r : Nat) : Int))]) (rest := [.ref m0]) ⟨hx, hb, hml, hown, hts⟩ (mX1_isRow l ((r : Nat) : Int) ⟨by omega, by omega⟩) (va_cwS 1 hts gX1_longestKept_X1_isRow rfl rfl rfl hdX1_isRow ⟨Nat.le_of_ble_eq_true rfl, Nat.le_of_ble_eq_true rfl⟩) tt_pre rfl rfl hl.1 rfl (lv_room (Nat.le_of_ble_eq_true rfl)) dX1_longestKept_2 ⟨Nat.le_of_ble_eq_true rfl, Nat.le_of_ble_eq_true rfl⟩) ?_
  refine bb_ne (tgt := 12) hx hb dX1_longestKept_5 (by decide) (fun c_5 => ?_) (fun c_5 => absurd c_5 (by omega))
  refine lv_iload_n hx hb dX1_longestKept_12 rfl (lv_at hl 2 rfl) ?_
  refine lv_iload_n hx hb dX1_longestKept_13 rfl (lv_at hl 3 rfl) ?_
  refine rd_call (va_runS (As := [.int (iI ((k : Nat) : Int)), .int (iI ((i : Nat) : Int))]) (rest := [.ref m0]) ⟨hx, hb, hml, hown, hts⟩ (mX1_isForm l ((k : Nat) : Int) ((i : Nat) : Int) ⟨by omega, by omega⟩ ⟨by omega, by omega⟩) (va_cwS 2 hts gX1_longestKept_X1_isForm rfl rfl rfl hdX1_isForm ⟨Nat.le_of_ble_eq_true rfl, Nat.le_of_ble_eq_true rfl⟩) tt_pre rfl rfl hl.1 rfl (lv_room (Nat.le_of_ble_eq_true rfl)) dX1_longestKept_14 ⟨Nat.le_of_ble_eq_true rfl, Nat.le_of_ble_eq_true rfl⟩) ?_
  refine bb_eq (tgt := 24) hx hb dX1_longestKept_17 (by decide) (fun c_17 => absurd c_17 (by omega)) (fun c_17 => ?_)
  refine ib_const hx hb dX1_longestKept_20 ?_
  refine lv_goto (tgt := 25) hx hb dX1_longestKept_21 (by decide) ?_
  refine wr_call (va_runV (As := [.int (iI 0)]) (rest := []) ⟨hx, hb, hml, hown, hts⟩ (mX1_goesWell l dC dI cI m0 t0 k0 p0 a0 a1 K q th w h0 h1 hw hq 0 ⟨by omega, by omega⟩) (cwV 1 hts gX1_longestKept_X1_goesWell rfl rfl rfl hvX1_goesWell ⟨Nat.le_of_ble_eq_true rfl, Nat.le_of_ble_eq_true rfl⟩) (bD_pre (ci := 1) (q0 := 0) hK hP hD rfl rfl rfl) rfl rfl hl.1 rfl (lv_room (Nat.le_of_ble_eq_true rfl)) dX1_longestKept_25 ⟨Nat.le_of_ble_eq_true rfl, Nat.le_of_ble_eq_true rfl⟩) hS (fun q9 h => inW_same (w := [(m0, .inr (1, [.int th, .ref t0, .ref k0, .ref p0, .int (iI ((w : Nat) : Int))])), (t0, .inl (cI, 24, .inl (fun j => iI ((tb a0 a1 j : Nat) : Int)))), (k0, .inl (cI, 12, .inl (fun j => iI ((K j : Nat) : Int)))), (p0, .inl (cI, 12, .inl (fun j => iI ((q j : Nat) : Int))))]) (w' := [(m0, .inr (1, [.int th, .ref t0, .ref k0, .ref p0, .int (iI ((w : Nat) : Int))])), (t0, .inl (cI, 24, .inl (fun j => iI ((tb a0 a1 j : Nat) : Int)))), (k0, .inl (cI, 12, .inl (fun j => iI ((K j : Nat) : Int)))), (p0, .inl (cI, 12, .inl (fun j => iI ((q j : Nat) : Int))))]) rfl h) (fun H locs hP hz hk hS => ?_)
  have hD : va_D (inW [(m0, .inr (1, [.int th, .ref t0, .ref k0, .ref p0, .int (iI ((w : Nat) : Int))])), (t0, .inl (cI, 24, .inl (fun j => iI ((tb a0 a1 j : Nat) : Int)))), (k0, .inl (cI, 12, .inl (fun j => iI ((K j : Nat) : Int)))), (p0, .inl (cI, 12, .inl (fun j => iI ((q j : Nat) : Int))))]) [(m0, .inr (1, [.int (iI 0), .ref t0, .ref k0, .ref p0, .int (iI ((w : Nat) : Int))])), (t0, .inl (cI, 24, .inl (fun j => iI ((tb a0 a1 j : Nat) : Int)))), (k0, .inl (cI, 12, .inl (fun j => iI ((K j : Nat) : Int)))), (p0, .inl (cI, 12, .inl (fun j => iI ((q j : Nat) : Int))))] := va_D_same (w := [(m0, .inr (1, [.int th, .ref t0, .ref k0, .ref p0, .int (iI ((w : Nat) : Int))])), (t0, .inl (cI, 24, .inl (fun j => iI ((tb a0 a1 j : Nat) : Int)))), (k0, .inl (cI, 12, .inl (fun j => iI ((K j : Nat) : Int)))), (p0, .inl (cI, 12, .inl (fun j => iI ((q j : Nat) : Int))))]) rfl hD
  refine st_i (y := iI 1) (congrArg iI (bI_t (by decide))) ?_
  refine ib_if_ne (tgt := 33) hx hb dX1_longestKept_28 (by decide) ⟨by omega, by omega⟩ (fun c_28 => ?_) (fun c_28 => absurd c_28 (by decide))
  refine ib_const hx hb dX1_longestKept_33 ?_
  refine lv_istore (lv' := [(4, .int (iI 0)), (0, .ref m0), (1, .int (iI ((r : Nat) : Int))), (2, .int (iI ((k : Nat) : Int))), (3, .int (iI ((i : Nat) : Int)))]) hx hb dX1_longestKept_34 hl (by decide) rfl (fun ls hl => ?_)
  refine ib_const hx hb dX1_longestKept_36 ?_
  refine lv_istore (lv' := [(5, .int (iI 0)), (4, .int (iI 0)), (0, .ref m0), (1, .int (iI ((r : Nat) : Int))), (2, .int (iI ((k : Nat) : Int))), (3, .int (iI ((i : Nat) : Int)))]) hx hb dX1_longestKept_37 hl (by decide) rfl (fun ls hl => ?_)
  have lp_39_1 : ∀ (j n : Nat), n + j = 12 → ∀ ls : Array Slot, lv_has ls 8 [(0, .ref m0), (1, .int (iI ((r : Nat) : Int))), (2, .int (iI ((k : Nat) : Int))), (3, .int (iI ((i : Nat) : Int))), (4, .int (iI ((lkO (rw_ r a0 a1) (fm (rw_ r a0 a1) (12 * k + i)) n : Nat) : Int))), (5, .int (iI ((n : Nat) : Int)))] → W P0 l e (headSpec wsX1_longestKept { frames := 3, cells := 0, slots := 0, locals := 73 }).room s m ([.ref m0, .int (iI ((r : Nat) : Int)), .int (iI ((k : Nat) : Int)), .int (iI ((i : Nat) : Int))] : List Value).toArray below meth c H locs 0 0 (MQ below (wrQ (dC, dI) (inW [(m0, .inr (1, [.int th, .ref t0, .ref k0, .ref p0, .int (iI ((w : Nat) : Int))])), (t0, .inl (cI, 24, .inl (fun j => iI ((tb a0 a1 j : Nat) : Int)))), (k0, .inl (cI, 12, .inl (fun j => iI ((K j : Nat) : Int)))), (p0, .inl (cI, 12, .inl (fun j => iI ((q j : Nat) : Int))))]) [(m0, .inr (1, [.int (iI 0), .ref t0, .ref k0, .ref p0, .int (iI ((w : Nat) : Int))])), (t0, .inl (cI, 24, .inl (fun j => iI ((tb a0 a1 j : Nat) : Int)))), (k0, .inl (cI, 12, .inl (fun j => iI ((K j : Nat) : Int)))), (p0, .inl (cI, 12, .inl (fun j => iI ((q j : Nat) : Int))))] (some (.int (iI ((lkO (rw_ r a0 a1) (fm (rw_ r a0 a1) (12 * k + i)) 12 : Nat) : Int))))) ([.ref m0, .int (iI ((r : Nat) : Int)), .int (iI ((k : Nat) : Int)), .int (iI ((i : Nat) : Int))] : List Value).toArray s 0 0 (inW [(m0, .inr (1, [.int th, .ref t0, .ref k0, .ref p0, .int (iI ((w : Nat) : Int))])), (t0, .inl (cI, 24, .inl (fun j => iI ((tb a0 a1 j : Nat) : Int)))), (k0, .inl (cI, 12, .inl (fun j => iI ((K j : Nat) : Int)))), (p0, .inl (cI, 12, .inl (fun j => iI ((q j : Nat) : Int))))])) (F0 m 39 ls []) := by
    intro j
    induction j with
    | zero =>
      intro n hn_39  ls hl
      have hlk := lkO_le (rw_ r a0 a1) (fm (rw_ r a0 a1) (12 * k + i)) n
      refine lv_iload hx hb dX1_longestKept_39 (lv_at hl 5 rfl) ?_
      refine ib_bi hx hb dX1_longestKept_41 (by decide) ?_
      refine ib_icmp_ge (tgt := 100) hx hb dX1_longestKept_43 (by decide) ⟨by omega, by omega⟩ ⟨by omega, by omega⟩ (fun c_43 => ?_) (fun c_43 => absurd c_43 (by omega))
      refine lv_iload hx hb dX1_longestKept_100 (lv_at hl 4 rfl) ?_
      refine st_i (y := iI ((lkO (rw_ r a0 a1) (fm (rw_ r a0 a1) (12 * k + i)) 12 : Nat) : Int)) (congrArg (fun z : Nat => iI ((z : Nat) : Int)) (show lkO (rw_ r a0 a1) (fm (rw_ r a0 a1) (12 * k + i)) n = lkO (rw_ r a0 a1) (fm (rw_ r a0 a1) (12 * k + i)) 12 by rw [show n = 12 by omega])) ?_
      exact W.iret hx hb hr (fun t ht _ => ⟨rfl, by rw [ht]; exact hP, hS.F ht⟩) hS.2.2 dX1_longestKept_102
    | succ j ih_39_1 =>
      intro n hn_39  ls hl
      have hlk := lkO_le (rw_ r a0 a1) (fm (rw_ r a0 a1) (12 * k + i)) n
      refine lv_iload hx hb dX1_longestKept_39 (lv_at hl 5 rfl) ?_
      refine ib_bi hx hb dX1_longestKept_41 (by decide) ?_
      refine ib_icmp_ge (tgt := 100) hx hb dX1_longestKept_43 (by decide) ⟨by omega, by omega⟩ ⟨by omega, by omega⟩ (fun c_43 => absurd c_43 (by omega)) (fun c_43 => ?_)
      refine ib_const hx hb dX1_longestKept_46 ?_
      refine lv_istore (lv' := [(6, .int (iI 0)), (0, .ref m0), (1, .int (iI ((r : Nat) : Int))), (2, .int (iI ((k : Nat) : Int))), (3, .int (iI ((i : Nat) : Int))), (4, .int (iI ((lkO (rw_ r a0 a1) (fm (rw_ r a0 a1) (12 * k + i)) n : Nat) : Int))), (5, .int (iI ((n : Nat) : Int)))]) hx hb dX1_longestKept_47 hl (by decide) rfl (fun ls hl => ?_)
      have lp_49_2 : ∀ (j o : Nat), o + j = 12 → ∀ ls : Array Slot, lv_has ls 8 [(0, .ref m0), (1, .int (iI ((r : Nat) : Int))), (2, .int (iI ((k : Nat) : Int))), (3, .int (iI ((i : Nat) : Int))), (4, .int (iI ((lkI (rw_ r a0 a1) (fm (rw_ r a0 a1) (12 * k + i)) n (lkO (rw_ r a0 a1) (fm (rw_ r a0 a1) (12 * k + i)) n) o : Nat) : Int))), (5, .int (iI ((n : Nat) : Int))), (6, .int (iI ((o : Nat) : Int)))] → W P0 l e (headSpec wsX1_longestKept { frames := 3, cells := 0, slots := 0, locals := 73 }).room s m ([.ref m0, .int (iI ((r : Nat) : Int)), .int (iI ((k : Nat) : Int)), .int (iI ((i : Nat) : Int))] : List Value).toArray below meth c H locs 0 0 (MQ below (wrQ (dC, dI) (inW [(m0, .inr (1, [.int th, .ref t0, .ref k0, .ref p0, .int (iI ((w : Nat) : Int))])), (t0, .inl (cI, 24, .inl (fun j => iI ((tb a0 a1 j : Nat) : Int)))), (k0, .inl (cI, 12, .inl (fun j => iI ((K j : Nat) : Int)))), (p0, .inl (cI, 12, .inl (fun j => iI ((q j : Nat) : Int))))]) [(m0, .inr (1, [.int (iI 0), .ref t0, .ref k0, .ref p0, .int (iI ((w : Nat) : Int))])), (t0, .inl (cI, 24, .inl (fun j => iI ((tb a0 a1 j : Nat) : Int)))), (k0, .inl (cI, 12, .inl (fun j => iI ((K j : Nat) : Int)))), (p0, .inl (cI, 12, .inl (fun j => iI ((q j : Nat) : Int))))] (some (.int (iI ((lkO (rw_ r a0 a1) (fm (rw_ r a0 a1) (12 * k + i)) 12 : Nat) : Int))))) ([.ref m0, .int (iI ((r : Nat) : Int)), .int (iI ((k : Nat) : Int)), .int (iI ((i : Nat) : Int))] : List Value).toArray s 0 0 (inW [(m0, .inr (1, [.int th, .ref t0, .ref k0, .ref p0, .int (iI ((w : Nat) : Int))])), (t0, .inl (cI, 24, .inl (fun j => iI ((tb a0 a1 j : Nat) : Int)))), (k0, .inl (cI, 12, .inl (fun j => iI ((K j : Nat) : Int)))), (p0, .inl (cI, 12, .inl (fun j => iI ((q j : Nat) : Int))))])) (F0 m 49 ls []) := by
        intro j
        induction j with
        | zero =>
          intro o hn_49  ls hl
          have hli := lkI_le (a := (rw_ r a0 a1)) (f := fm (rw_ r a0 a1) (12 * k + i)) (p := n) hlk o
          refine lv_iload hx hb dX1_longestKept_49 (lv_at hl 6 rfl) ?_
          refine ib_bi hx hb dX1_longestKept_51 (by decide) ?_
          refine ib_icmp_ge (tgt := 94) hx hb dX1_longestKept_53 (by decide) ⟨by omega, by omega⟩ ⟨by omega, by omega⟩ (fun c_53 => ?_) (fun c_53 => absurd c_53 (by omega))
          refine lv_iinc (v := iI ((n + 1 : Nat) : Int)) (lv' := [(5, .int (iI ((n + 1 : Nat) : Int))), (0, .ref m0), (1, .int (iI ((r : Nat) : Int))), (2, .int (iI ((k : Nat) : Int))), (3, .int (iI ((i : Nat) : Int))), (4, .int (iI ((lkI (rw_ r a0 a1) (fm (rw_ r a0 a1) (12 * k + i)) n (lkO (rw_ r a0 a1) (fm (rw_ r a0 a1) (12 * k + i)) n) o : Nat) : Int))), (6, .int (iI ((o : Nat) : Int)))]) hx hb dX1_longestKept_94 hl (k := 5) rfl (iI_inc (by omega)) (by decide) rfl (fun ls hl => ?_)
          refine lv_goto (tgt := 39) hx hb dX1_longestKept_97 (by decide) ?_
          have hl : lv_has ls 8 [(5, .int (iI ((n + 1 : Nat) : Int))), (0, .ref m0), (1, .int (iI ((r : Nat) : Int))), (2, .int (iI ((k : Nat) : Int))), (3, .int (iI ((i : Nat) : Int))), (4, .int (iI ((lkO (rw_ r a0 a1) (fm (rw_ r a0 a1) (12 * k + i)) (n + 1) : Nat) : Int))), (6, .int (iI ((o : Nat) : Int)))] := by
            have e9 : iI ((lkI (rw_ r a0 a1) (fm (rw_ r a0 a1) (12 * k + i)) n (lkO (rw_ r a0 a1) (fm (rw_ r a0 a1) (12 * k + i)) n) o : Nat) : Int) = iI ((lkO (rw_ r a0 a1) (fm (rw_ r a0 a1) (12 * k + i)) (n + 1) : Nat) : Int) := congrArg (fun z : Nat => iI ((z : Nat) : Int)) (show lkI (rw_ r a0 a1) (fm (rw_ r a0 a1) (12 * k + i)) n (lkO (rw_ r a0 a1) (fm (rw_ r a0 a1) (12 * k + i)) n) o = lkI (rw_ r a0 a1) (fm (rw_ r a0 a1) (12 * k + i)) n (lkO (rw_ r a0 a1) (fm (rw_ r a0 a1) (12 * k + i)) n) 12 by rw [show o = 12 by omega])
            rw [← e9]; exact hl
          exact ih_39_1 (n + 1) (by omega)  _ (lv_sub hl [1, 2, 3, 4, 5, 0] rfl)
        | succ j ih_49_2 =>
          intro o hn_49  ls hl
          have hli := lkI_le (a := (rw_ r a0 a1)) (f := fm (rw_ r a0 a1) (12 * k + i)) (p := n) hlk o
          refine lv_iload hx hb dX1_longestKept_49 (lv_at hl 6 rfl) ?_
          refine ib_bi hx hb dX1_longestKept_51 (by decide) ?_
          refine ib_icmp_ge (tgt := 94) hx hb dX1_longestKept_53 (by decide) ⟨by omega, by omega⟩ ⟨by omega, by omega⟩ (fun c_53 => absurd c_53 (by omega)) (fun c_53 => ?_)
          refine lv_aload_n hx hb dX1_longestKept_56 rfl (lv_at hl 0 rfl) ?_
          refine lv_iload_n hx hb dX1_longestKept_57 rfl (lv_at hl 1 rfl) ?_
          refine lv_iload hx hb dX1_longestKept_58 (lv_at hl 5 rfl) ?_
          refine lv_iload_n hx hb dX1_longestKept_60 rfl (lv_at hl 2 rfl) ?_
          refine lv_iload_n hx hb dX1_longestKept_61 rfl (lv_at hl 3 rfl) ?_
          refine rd_call (va_runS (As := [.int (iI ((k : Nat) : Int)), .int (iI ((i : Nat) : Int))]) (rest := [.int (iI ((n : Nat) : Int)), .int (iI ((r : Nat) : Int)), .ref m0]) ⟨hx, hb, hml, hown, hts⟩ (mX1_codeOf l k i) (va_cwS 2 hts gX1_longestKept_X1_codeOf rfl rfl rfl hdX1_codeOf ⟨Nat.le_of_ble_eq_true rfl, Nat.le_of_ble_eq_true rfl⟩) tt_pre rfl rfl hl.1 rfl (lv_room (Nat.le_of_ble_eq_true rfl)) dX1_longestKept_62 ⟨Nat.le_of_ble_eq_true rfl, Nat.le_of_ble_eq_true rfl⟩) ?_
          refine lv_iload hx hb dX1_longestKept_65 (lv_at hl 6 rfl) ?_
          refine rd_call (va_runV (As := [.int (iI ((r : Nat) : Int)), .int (iI ((n : Nat) : Int)), .int (iI ((12 * k + i : Nat) : Int)), .int (iI ((o : Nat) : Int))]) (rest := []) ⟨hx, hb, hml, hown, hts⟩ (mX1_same l dC dI cI m0 t0 k0 p0 a0 a1 K q (iI 0) w h0 h1 hw hq r n (12 * k + i) o (by omega) (by omega) (by omega) (by omega)) (cwV 4 hts gX1_longestKept_X1_same rfl rfl rfl hvX1_same ⟨Nat.le_of_ble_eq_true rfl, Nat.le_of_ble_eq_true rfl⟩) (bW_pre (ci := 1) (q0 := 0) hK hP rfl rfl rfl) rfl rfl hl.1 rfl (lv_room (Nat.le_of_ble_eq_true rfl)) dX1_longestKept_67 ⟨Nat.le_of_ble_eq_true rfl, Nat.le_of_ble_eq_true rfl⟩) ?_
          have hsm_67 := smN_le (rw_ r a0 a1) (fm (rw_ r a0 a1) (12 * k + i)) n o 12 0
          refine lv_istore (lv' := [(7, .int (iI ((smN (rw_ r a0 a1) (fm (rw_ r a0 a1) (12 * k + i)) n o 12 0 : Nat) : Int))), (0, .ref m0), (1, .int (iI ((r : Nat) : Int))), (2, .int (iI ((k : Nat) : Int))), (3, .int (iI ((i : Nat) : Int))), (4, .int (iI ((lkI (rw_ r a0 a1) (fm (rw_ r a0 a1) (12 * k + i)) n (lkO (rw_ r a0 a1) (fm (rw_ r a0 a1) (12 * k + i)) n) o : Nat) : Int))), (5, .int (iI ((n : Nat) : Int))), (6, .int (iI ((o : Nat) : Int)))]) hx hb dX1_longestKept_70 hl (by decide) rfl (fun ls hl => ?_)
          refine lv_iload hx hb dX1_longestKept_72 (lv_at hl 0 rfl) ?_
          refine lv_iload hx hb dX1_longestKept_74 (lv_at hl 5 rfl) ?_
          refine ib_icmp_le (tgt := 84) hx hb dX1_longestKept_76 (by decide) ⟨by omega, by omega⟩ ⟨by omega, by omega⟩ (fun c_76 => ?_) (fun c_76 => ?_)
          · skip
            refine lv_iload hx hb dX1_longestKept_84 (lv_at hl 5 rfl) ?_
            refine lv_istore (lv' := [(4, .int (iI ((lkI (rw_ r a0 a1) (fm (rw_ r a0 a1) (12 * k + i)) n (lkO (rw_ r a0 a1) (fm (rw_ r a0 a1) (12 * k + i)) n) o : Nat) : Int))), (7, .int (iI ((smN (rw_ r a0 a1) (fm (rw_ r a0 a1) (12 * k + i)) n o 12 0 : Nat) : Int))), (0, .ref m0), (1, .int (iI ((r : Nat) : Int))), (2, .int (iI ((k : Nat) : Int))), (3, .int (iI ((i : Nat) : Int))), (5, .int (iI ((n : Nat) : Int))), (6, .int (iI ((o : Nat) : Int)))]) hx hb dX1_longestKept_86 hl (by decide) rfl (fun ls hl => ?_)
            refine lv_iinc (v := iI ((o + 1 : Nat) : Int)) (lv' := [(6, .int (iI ((o + 1 : Nat) : Int))), (4, .int (iI ((lkI (rw_ r a0 a1) (fm (rw_ r a0 a1) (12 * k + i)) n (lkO (rw_ r a0 a1) (fm (rw_ r a0 a1) (12 * k + i)) n) o : Nat) : Int))), (7, .int (iI ((smN (rw_ r a0 a1) (fm (rw_ r a0 a1) (12 * k + i)) n o 12 0 : Nat) : Int))), (0, .ref m0), (1, .int (iI ((r : Nat) : Int))), (2, .int (iI ((k : Nat) : Int))), (3, .int (iI ((i : Nat) : Int))), (5, .int (iI ((n : Nat) : Int)))]) hx hb dX1_longestKept_88 hl (k := 7) rfl (iI_inc (by omega)) (by decide) rfl (fun ls hl => ?_)
            refine lv_goto (tgt := 49) hx hb dX1_longestKept_91 (by decide) ?_
            have hl : lv_has ls 8 [(6, .int (iI ((o + 1 : Nat) : Int))), (4, .int (iI ((lkI (rw_ r a0 a1) (fm (rw_ r a0 a1) (12 * k + i)) n (lkO (rw_ r a0 a1) (fm (rw_ r a0 a1) (12 * k + i)) n) (o + 1) : Nat) : Int))), (7, .int (iI ((smN (rw_ r a0 a1) (fm (rw_ r a0 a1) (12 * k + i)) n o 12 0 : Nat) : Int))), (0, .ref m0), (1, .int (iI ((r : Nat) : Int))), (2, .int (iI ((k : Nat) : Int))), (3, .int (iI ((i : Nat) : Int))), (5, .int (iI ((n : Nat) : Int)))] := by
              have e9 : iI ((lkI (rw_ r a0 a1) (fm (rw_ r a0 a1) (12 * k + i)) n (lkO (rw_ r a0 a1) (fm (rw_ r a0 a1) (12 * k + i)) n) o : Nat) : Int) = iI ((lkI (rw_ r a0 a1) (fm (rw_ r a0 a1) (12 * k + i)) n (lkO (rw_ r a0 a1) (fm (rw_ r a0 a1) (12 * k + i)) n) (o + 1) : Nat) : Int) := congrArg (fun z : Nat => iI ((z : Nat) : Int)) (if_neg (by omega)).symm
              rw [← e9]; exact hl
            exact ih_49_2 (o + 1) (by omega)  _ (lv_sub hl [3, 4, 5, 6, 1, 7, 0] rfl)
          · skip
            refine lv_iload hx hb dX1_longestKept_79 (lv_at hl 0 rfl) ?_
            refine lv_goto (tgt := 86) hx hb dX1_longestKept_81 (by decide) ?_
            refine lv_istore (lv' := [(4, .int (iI ((smN (rw_ r a0 a1) (fm (rw_ r a0 a1) (12 * k + i)) n o 12 0 : Nat) : Int))), (7, .int (iI ((smN (rw_ r a0 a1) (fm (rw_ r a0 a1) (12 * k + i)) n o 12 0 : Nat) : Int))), (0, .ref m0), (1, .int (iI ((r : Nat) : Int))), (2, .int (iI ((k : Nat) : Int))), (3, .int (iI ((i : Nat) : Int))), (5, .int (iI ((n : Nat) : Int))), (6, .int (iI ((o : Nat) : Int)))]) hx hb dX1_longestKept_86 hl (by decide) rfl (fun ls hl => ?_)
            refine lv_iinc (v := iI ((o + 1 : Nat) : Int)) (lv' := [(6, .int (iI ((o + 1 : Nat) : Int))), (4, .int (iI ((smN (rw_ r a0 a1) (fm (rw_ r a0 a1) (12 * k + i)) n o 12 0 : Nat) : Int))), (7, .int (iI ((smN (rw_ r a0 a1) (fm (rw_ r a0 a1) (12 * k + i)) n o 12 0 : Nat) : Int))), (0, .ref m0), (1, .int (iI ((r : Nat) : Int))), (2, .int (iI ((k : Nat) : Int))), (3, .int (iI ((i : Nat) : Int))), (5, .int (iI ((n : Nat) : Int)))]) hx hb dX1_longestKept_88 hl (k := 7) rfl (iI_inc (by omega)) (by decide) rfl (fun ls hl => ?_)
            refine lv_goto (tgt := 49) hx hb dX1_longestKept_91 (by decide) ?_
            have hl : lv_has ls 8 [(6, .int (iI ((o + 1 : Nat) : Int))), (4, .int (iI ((lkI (rw_ r a0 a1) (fm (rw_ r a0 a1) (12 * k + i)) n (lkO (rw_ r a0 a1) (fm (rw_ r a0 a1) (12 * k + i)) n) (o + 1) : Nat) : Int))), (7, .int (iI ((smN (rw_ r a0 a1) (fm (rw_ r a0 a1) (12 * k + i)) n o 12 0 : Nat) : Int))), (0, .ref m0), (1, .int (iI ((r : Nat) : Int))), (2, .int (iI ((k : Nat) : Int))), (3, .int (iI ((i : Nat) : Int))), (5, .int (iI ((n : Nat) : Int)))] := by
              have e9 : iI ((smN (rw_ r a0 a1) (fm (rw_ r a0 a1) (12 * k + i)) n o 12 0 : Nat) : Int) = iI ((lkI (rw_ r a0 a1) (fm (rw_ r a0 a1) (12 * k + i)) n (lkO (rw_ r a0 a1) (fm (rw_ r a0 a1) (12 * k + i)) n) (o + 1) : Nat) : Int) := congrArg (fun z : Nat => iI ((z : Nat) : Int)) (if_pos (by omega)).symm
              rw [← e9]; exact hl
            exact ih_49_2 (o + 1) (by omega)  _ (lv_sub hl [3, 4, 5, 6, 1, 7, 0] rfl)
      exact lp_49_2 12 0 (by omega)  _ (lv_sub hl [1, 2, 3, 4, 5, 6, 0] rfl)
  exact lp_39_1 12 0 (by omega)  _ (lv_sub hl [2, 3, 4, 5, 1, 0] rfl)

set_option maxHeartbeats 4000000 in
set_option maxRecDepth 100000 in
theorem mX1_longestKept_x1 (l : Launch) (dC : Nat → ClassId) (dI : Nat → Nat → Nat) (cI : ClassId) (m0 t0 k0 p0 : Nat) (a0 a1 K q : Nat → Nat) (th : Int32) (w : Nat) (h0 : lt12 a0) (h1 : lt12 a1) (hw : w ≤ 12) (hq : ∀ i, i < w → q i < 12) (z0 z1 z2 : Int) (hz0 : inI z0) (hz1 : inI z1) (hz2 : inI z2) (hbad : ¬ (z0 = 0 ∨ z0 = 1)) : wr l yX1_longestKept wsX1_longestKept { frames := 3, cells := 0, slots := 0, locals := 63 } [.ref m0, .int (iI z0), .int (iI z1), .int (iI z2)] (dC, dI) [(m0, .inr (1, [.int th, .ref t0, .ref k0, .ref p0, .int (iI ((w : Nat) : Int))])), (t0, .inl (cI, 24, .inl (fun j => iI ((tb a0 a1 j : Nat) : Int)))), (k0, .inl (cI, 12, .inl (fun j => iI ((K j : Nat) : Int)))), (p0, .inl (cI, 12, .inl (fun j => iI ((q j : Nat) : Int))))] [(cI, .int)] [(m0, .inr (1, [.int (iI 1), .ref t0, .ref k0, .ref p0, .int (iI ((w : Nat) : Int))])), (t0, .inl (cI, 24, .inl (fun j => iI ((tb a0 a1 j : Nat) : Int)))), (k0, .inl (cI, 12, .inl (fun j => iI ((K j : Nat) : Int)))), (p0, .inl (cI, 12, .inl (fun j => iI ((q j : Nat) : Int))))] (some (.int (iI 0))) := by
  refine Met.ofW (cc := cX1_longestKept) (maxL := 8) (ret := (some .int)) (by decide) rfl ?_
  intro P0 e s m args below meth c s₁ B hml hv
  obtain ⟨rfl, hP, hK, hD0⟩ := hv
  have hx := B.exec
  have hb := B.bytes
  have hr := B.returns
  have hts := atoms_spec (ws := wsX1_longestKept) B.pre
  have hown : s.vm.findClass RX1 = some m.cls := findClass_of_methodNamed B.named
  have hlocks := B.notSynchronized
  have hinX : ∀ w ∈ u_ws RX1 TX1 5, w ∈ wsX1_longestKept := by decide +kernel
  have hD : va_D (inW [(m0, .inr (1, [.int th, .ref t0, .ref k0, .ref p0, .int (iI ((w : Nat) : Int))])), (t0, .inl (cI, 24, .inl (fun j => iI ((tb a0 a1 j : Nat) : Int)))), (k0, .inl (cI, 12, .inl (fun j => iI ((K j : Nat) : Int)))), (p0, .inl (cI, 12, .inl (fun j => iI ((q j : Nat) : Int))))]) [(m0, .inr (1, [.int th, .ref t0, .ref k0, .ref p0, .int (iI ((w : Nat) : Int))])), (t0, .inl (cI, 24, .inl (fun j => iI ((tb a0 a1 j : Nat) : Int)))), (k0, .inl (cI, 12, .inl (fun j => iI ((K j : Nat) : Int)))), (p0, .inl (cI, 12, .inl (fun j => iI ((q j : Nat) : Int))))] := va_D_in hD0
  have hS : va_S (inW [(m0, .inr (1, [.int th, .ref t0, .ref k0, .ref p0, .int (iI ((w : Nat) : Int))])), (t0, .inl (cI, 24, .inl (fun j => iI ((tb a0 a1 j : Nat) : Int)))), (k0, .inl (cI, 12, .inl (fun j => iI ((K j : Nat) : Int)))), (p0, .inl (cI, 12, .inl (fun j => iI ((q j : Nat) : Int))))]) s.heap s.heap [] := va_S.rf
  have hl := lv_entry ([.ref m0, .int (iI z0), .int (iI z1), .int (iI z2)]) (n := 8) (Nat.le_of_ble_eq_true rfl)
  rw [lg_entry_eq]
  generalize (lg_sl ([.ref m0, .int (iI z0), .int (iI z1), .int (iI z2)]) ++ List.replicate (8 - (lg_sl ([.ref m0, .int (iI z0), .int (iI z1), .int (iI z2)])).length) Slot.unset).toArray = ls at hl ⊢
  have hl : lv_has ls 8 [(0, .ref m0), (1, .int (iI z0)), (2, .int (iI z1)), (3, .int (iI z2))] := hl
  have hza0 := hz0.1
  have hza1 := hz1.1
  have hza2 := hz2.1
  have hzb0 := hz0.2
  have hzb1 := hz1.2
  have hzb2 := hz2.2
  refine lv_aload_n hx hb dX1_longestKept_0 rfl (lv_at hl 0 rfl) ?_
  refine lv_iload_n hx hb dX1_longestKept_1 rfl (lv_at hl 1 rfl) ?_
  refine rd_call (va_runS (As := [.int (iI z0)]) (rest := [.ref m0]) ⟨hx, hb, hml, hown, hts⟩ (mX1_isRow l z0 ⟨by omega, by omega⟩) (va_cwS 1 hts gX1_longestKept_X1_isRow rfl rfl rfl hdX1_isRow ⟨Nat.le_of_ble_eq_true rfl, Nat.le_of_ble_eq_true rfl⟩) tt_pre rfl rfl hl.1 rfl (lv_room (Nat.le_of_ble_eq_true rfl)) dX1_longestKept_2 ⟨Nat.le_of_ble_eq_true rfl, Nat.le_of_ble_eq_true rfl⟩) ?_
  refine bb_ne (tgt := 12) hx hb dX1_longestKept_5 (by decide) (fun c_5 => ?_) (fun c_5 => ?_)
  · skip
    refine lv_iload_n hx hb dX1_longestKept_12 rfl (lv_at hl 2 rfl) ?_
    refine lv_iload_n hx hb dX1_longestKept_13 rfl (lv_at hl 3 rfl) ?_
    refine rd_call (va_runS (As := [.int (iI z1), .int (iI z2)]) (rest := [.ref m0]) ⟨hx, hb, hml, hown, hts⟩ (mX1_isForm l z1 z2 ⟨by omega, by omega⟩ ⟨by omega, by omega⟩) (va_cwS 2 hts gX1_longestKept_X1_isForm rfl rfl rfl hdX1_isForm ⟨Nat.le_of_ble_eq_true rfl, Nat.le_of_ble_eq_true rfl⟩) tt_pre rfl rfl hl.1 rfl (lv_room (Nat.le_of_ble_eq_true rfl)) dX1_longestKept_14 ⟨Nat.le_of_ble_eq_true rfl, Nat.le_of_ble_eq_true rfl⟩) ?_
    refine bb_eq (tgt := 24) hx hb dX1_longestKept_17 (by decide) (fun c_17 => ?_) (fun c_17 => ?_)
    · skip
      refine ib_const hx hb dX1_longestKept_24 ?_
      exfalso; omega
    · skip
      refine ib_const hx hb dX1_longestKept_20 ?_
      refine lv_goto (tgt := 25) hx hb dX1_longestKept_21 (by decide) ?_
      exfalso; omega
  · skip
    refine ib_const hx hb dX1_longestKept_8 ?_
    refine lv_goto (tgt := 25) hx hb dX1_longestKept_9 (by decide) ?_
    refine wr_call (va_runV (As := [.int (iI 1)]) (rest := []) ⟨hx, hb, hml, hown, hts⟩ (mX1_goesWell l dC dI cI m0 t0 k0 p0 a0 a1 K q th w h0 h1 hw hq 1 ⟨by omega, by omega⟩) (cwV 1 hts gX1_longestKept_X1_goesWell rfl rfl rfl hvX1_goesWell ⟨Nat.le_of_ble_eq_true rfl, Nat.le_of_ble_eq_true rfl⟩) (bD_pre (ci := 1) (q0 := 0) hK hP hD rfl rfl rfl) rfl rfl hl.1 rfl (lv_room (Nat.le_of_ble_eq_true rfl)) dX1_longestKept_25 ⟨Nat.le_of_ble_eq_true rfl, Nat.le_of_ble_eq_true rfl⟩) hS (fun q9 h => inW_same (w := [(m0, .inr (1, [.int th, .ref t0, .ref k0, .ref p0, .int (iI ((w : Nat) : Int))])), (t0, .inl (cI, 24, .inl (fun j => iI ((tb a0 a1 j : Nat) : Int)))), (k0, .inl (cI, 12, .inl (fun j => iI ((K j : Nat) : Int)))), (p0, .inl (cI, 12, .inl (fun j => iI ((q j : Nat) : Int))))]) (w' := [(m0, .inr (1, [.int th, .ref t0, .ref k0, .ref p0, .int (iI ((w : Nat) : Int))])), (t0, .inl (cI, 24, .inl (fun j => iI ((tb a0 a1 j : Nat) : Int)))), (k0, .inl (cI, 12, .inl (fun j => iI ((K j : Nat) : Int)))), (p0, .inl (cI, 12, .inl (fun j => iI ((q j : Nat) : Int))))]) rfl h) (fun H locs hP hz hk hS => ?_)
    have hD : va_D (inW [(m0, .inr (1, [.int th, .ref t0, .ref k0, .ref p0, .int (iI ((w : Nat) : Int))])), (t0, .inl (cI, 24, .inl (fun j => iI ((tb a0 a1 j : Nat) : Int)))), (k0, .inl (cI, 12, .inl (fun j => iI ((K j : Nat) : Int)))), (p0, .inl (cI, 12, .inl (fun j => iI ((q j : Nat) : Int))))]) [(m0, .inr (1, [.int (iI 1), .ref t0, .ref k0, .ref p0, .int (iI ((w : Nat) : Int))])), (t0, .inl (cI, 24, .inl (fun j => iI ((tb a0 a1 j : Nat) : Int)))), (k0, .inl (cI, 12, .inl (fun j => iI ((K j : Nat) : Int)))), (p0, .inl (cI, 12, .inl (fun j => iI ((q j : Nat) : Int))))] := va_D_same (w := [(m0, .inr (1, [.int th, .ref t0, .ref k0, .ref p0, .int (iI ((w : Nat) : Int))])), (t0, .inl (cI, 24, .inl (fun j => iI ((tb a0 a1 j : Nat) : Int)))), (k0, .inl (cI, 12, .inl (fun j => iI ((K j : Nat) : Int)))), (p0, .inl (cI, 12, .inl (fun j => iI ((q j : Nat) : Int))))]) rfl hD
    refine st_i (y := iI 0) (congrArg iI (bI_f (by decide))) ?_
    refine ib_if_ne (tgt := 33) hx hb dX1_longestKept_28 (by decide) ⟨by omega, by omega⟩ (fun c_28 => absurd c_28 (by decide)) (fun c_28 => ?_)
    refine ib_const hx hb dX1_longestKept_31 ?_
    exact W.iret hx hb hr (fun t ht _ => ⟨rfl, by rw [ht]; exact hP, hS.F ht⟩) hS.2.2 dX1_longestKept_32
