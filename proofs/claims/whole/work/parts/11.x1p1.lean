theorem hdX1_isCode : yX1_isCode.cls ≠ "java/lang/invoke/MethodHandle" ∧ yX1_isCode.cls ≠ "java/lang/invoke/VarHandle" ∧ (parseMethodDescriptor yX1_isCode.desc).map (fun d => d.parameters.length) = some 1 := by decide +kernel
theorem hdX1_isForm : yX1_isForm.cls ≠ "java/lang/invoke/MethodHandle" ∧ yX1_isForm.cls ≠ "java/lang/invoke/VarHandle" ∧ (parseMethodDescriptor yX1_isForm.desc).map (fun d => d.parameters.length) = some 2 := by decide +kernel
theorem hdX1_isRow : yX1_isRow.cls ≠ "java/lang/invoke/MethodHandle" ∧ yX1_isRow.cls ≠ "java/lang/invoke/VarHandle" ∧ (parseMethodDescriptor yX1_isRow.desc).map (fun d => d.parameters.length) = some 1 := by decide +kernel
theorem hdX1_least : yX1_least.cls ≠ "java/lang/invoke/MethodHandle" ∧ yX1_least.cls ≠ "java/lang/invoke/VarHandle" ∧ (parseMethodDescriptor yX1_least.desc).map (fun d => d.parameters.length) = some 1 := by decide +kernel
theorem hvX1_areSame : yX1_areSame.cls = RX1 ∧ yX1_areSame.cls ≠ "java/lang/invoke/MethodHandle" ∧ yX1_areSame.cls ≠ "java/lang/invoke/VarHandle" ∧ (parseMethodDescriptor yX1_areSame.desc).map (fun d => d.parameters.length) = some 3 := by decide +kernel
theorem hvX1_goesWell : yX1_goesWell.cls = RX1 ∧ yX1_goesWell.cls ≠ "java/lang/invoke/MethodHandle" ∧ yX1_goesWell.cls ≠ "java/lang/invoke/VarHandle" ∧ (parseMethodDescriptor yX1_goesWell.desc).map (fun d => d.parameters.length) = some 1 := by decide +kernel
theorem hvX1_isWritten : yX1_isWritten.cls = RX1 ∧ yX1_isWritten.cls ≠ "java/lang/invoke/MethodHandle" ∧ yX1_isWritten.cls ≠ "java/lang/invoke/VarHandle" ∧ (parseMethodDescriptor yX1_isWritten.desc).map (fun d => d.parameters.length) = some 1 := by decide +kernel
theorem hvX1_lay : yX1_lay.cls = RX1 ∧ yX1_lay.cls ≠ "java/lang/invoke/MethodHandle" ∧ yX1_lay.cls ≠ "java/lang/invoke/VarHandle" ∧ (parseMethodDescriptor yX1_lay.desc).map (fun d => d.parameters.length) = some 1 := by decide +kernel
theorem hvX1_placeIn : yX1_placeIn.cls = RX1 ∧ yX1_placeIn.cls ≠ "java/lang/invoke/MethodHandle" ∧ yX1_placeIn.cls ≠ "java/lang/invoke/VarHandle" ∧ (parseMethodDescriptor yX1_placeIn.desc).map (fun d => d.parameters.length) = some 2 := by decide +kernel
theorem hvX1_same : yX1_same.cls = RX1 ∧ yX1_same.cls ≠ "java/lang/invoke/MethodHandle" ∧ yX1_same.cls ≠ "java/lang/invoke/VarHandle" ∧ (parseMethodDescriptor yX1_same.desc).map (fun d => d.parameters.length) = some 4 := by decide +kernel
theorem hvX1_setsKept : yX1_setsKept.cls = RX1 ∧ yX1_setsKept.cls ≠ "java/lang/invoke/MethodHandle" ∧ yX1_setsKept.cls ≠ "java/lang/invoke/VarHandle" ∧ (parseMethodDescriptor yX1_setsKept.desc).map (fun d => d.parameters.length) = some 3 := by decide +kernel
theorem hvX1_step : yX1_step.cls = RX1 ∧ yX1_step.cls ≠ "java/lang/invoke/MethodHandle" ∧ yX1_step.cls ≠ "java/lang/invoke/VarHandle" ∧ (parseMethodDescriptor yX1_step.desc).map (fun d => d.parameters.length) = some 2 := by decide +kernel
set_option maxHeartbeats 4000000 in
set_option maxRecDepth 100000 in
theorem mX1_thrown (l : Launch) (dC : Nat → ClassId) (dI : Nat → Nat → Nat) (cI : ClassId) (m0 t0 k0 p0 : Nat) (a0 a1 K q : Nat → Nat) (th : Int32) (w : Nat) (h0 : lt12 a0) (h1 : lt12 a1) (hw : w ≤ 12) (hq : ∀ i, i < w → q i < 12)  : rd l yX1_thrown wsX1_thrown { frames := 0, cells := 0, slots := 0, locals := 0 } [.ref m0] (bW (dC, dI) [(m0, .inr (1, [.int th, .ref t0, .ref k0, .ref p0, .int (iI ((w : Nat) : Int))])), (t0, .inl (cI, 24, .inl (fun j => iI ((tb a0 a1 j : Nat) : Int)))), (k0, .inl (cI, 12, .inl (fun j => iI ((K j : Nat) : Int)))), (p0, .inl (cI, 12, .inl (fun j => iI ((q j : Nat) : Int))))] [(cI, .int)]) (some (.int th)) := by
  refine Met.ofW (cc := cX1_thrown) (maxL := 1) (ret := (some .int)) (by decide) rfl ?_
  intro P0 e s m args below meth c s₁ B hml hv
  obtain ⟨rfl, hP, hK⟩ := hv
  have hx := B.exec
  have hb := B.bytes
  have hr := B.returns
  have hts := atoms_spec (ws := wsX1_thrown) B.pre
  have hown : s.vm.findClass RX1 = some m.cls := findClass_of_methodNamed B.named
  have hlocks := B.notSynchronized
  have hinX : ∀ w ∈ u_ws RX1 TX1 5, w ∈ wsX1_thrown := by decide +kernel
  have hl := lv_entry ([.ref m0]) (n := 1) (Nat.le_of_ble_eq_true rfl)
  rw [lg_entry_eq]
  generalize (lg_sl ([.ref m0]) ++ List.replicate (1 - (lg_sl ([.ref m0])).length) Slot.unset).toArray = ls at hl ⊢
  have hl : lv_has ls 1 [(0, .ref m0)] := hl
  refine lv_aload_n hx hb dX1_thrown_0 rfl (lv_at hl 0 rfl) ?_
  refine va_get (D := (dC, dI)) (ci := 1) (v := .int th) (C := RX1) (T := TX1) (N := 5) hx hb hts hinX hown hK hP 0 rfl rfl 0 (by decide) (hts (.fieldLink RX1 19 "ToneRowsModel" "thrown" "I") (by decide +kernel)) (fun _ h9 => h9) rfl dX1_thrown_1 ?_
  exact W.iret hx hb hr (fun t ht _ => ⟨rfl, ht⟩) (fun _ h => nomatch h) dX1_thrown_4

set_option maxHeartbeats 4000000 in
set_option maxRecDepth 100000 in
theorem mX1_goesWell (l : Launch) (dC : Nat → ClassId) (dI : Nat → Nat → Nat) (cI : ClassId) (m0 t0 k0 p0 : Nat) (a0 a1 K q : Nat → Nat) (th : Int32) (w : Nat) (h0 : lt12 a0) (h1 : lt12 a1) (hw : w ≤ 12) (hq : ∀ i, i < w → q i < 12) (z : Int) (hz : inI z) : wr l yX1_goesWell wsX1_goesWell { frames := 0, cells := 0, slots := 0, locals := 0 } [.ref m0, .int (iI z)] (dC, dI) [(m0, .inr (1, [.int th, .ref t0, .ref k0, .ref p0, .int (iI ((w : Nat) : Int))])), (t0, .inl (cI, 24, .inl (fun j => iI ((tb a0 a1 j : Nat) : Int)))), (k0, .inl (cI, 12, .inl (fun j => iI ((K j : Nat) : Int)))), (p0, .inl (cI, 12, .inl (fun j => iI ((q j : Nat) : Int))))] [(cI, .int)] [(m0, .inr (1, [.int (iI z), .ref t0, .ref k0, .ref p0, .int (iI ((w : Nat) : Int))])), (t0, .inl (cI, 24, .inl (fun j => iI ((tb a0 a1 j : Nat) : Int)))), (k0, .inl (cI, 12, .inl (fun j => iI ((K j : Nat) : Int)))), (p0, .inl (cI, 12, .inl (fun j => iI ((q j : Nat) : Int))))] (some (.int (iI (bI (z = 0))))) := by
  refine Met.ofW (cc := cX1_goesWell) (maxL := 2) (ret := (some .boolean)) (by decide) rfl ?_
  intro P0 e s m args below meth c s₁ B hml hv
  obtain ⟨rfl, hP, hK, hD0⟩ := hv
  have hx := B.exec
  have hb := B.bytes
  have hr := B.returns
  have hts := atoms_spec (ws := wsX1_goesWell) B.pre
  have hown : s.vm.findClass RX1 = some m.cls := findClass_of_methodNamed B.named
  have hlocks := B.notSynchronized
  have hinX : ∀ w ∈ u_ws RX1 TX1 5, w ∈ wsX1_goesWell := by decide +kernel
  have hD : va_D (inW [(m0, .inr (1, [.int th, .ref t0, .ref k0, .ref p0, .int (iI ((w : Nat) : Int))])), (t0, .inl (cI, 24, .inl (fun j => iI ((tb a0 a1 j : Nat) : Int)))), (k0, .inl (cI, 12, .inl (fun j => iI ((K j : Nat) : Int)))), (p0, .inl (cI, 12, .inl (fun j => iI ((q j : Nat) : Int))))]) [(m0, .inr (1, [.int th, .ref t0, .ref k0, .ref p0, .int (iI ((w : Nat) : Int))])), (t0, .inl (cI, 24, .inl (fun j => iI ((tb a0 a1 j : Nat) : Int)))), (k0, .inl (cI, 12, .inl (fun j => iI ((K j : Nat) : Int)))), (p0, .inl (cI, 12, .inl (fun j => iI ((q j : Nat) : Int))))] := va_D_in hD0
  have hS : va_S (inW [(m0, .inr (1, [.int th, .ref t0, .ref k0, .ref p0, .int (iI ((w : Nat) : Int))])), (t0, .inl (cI, 24, .inl (fun j => iI ((tb a0 a1 j : Nat) : Int)))), (k0, .inl (cI, 12, .inl (fun j => iI ((K j : Nat) : Int)))), (p0, .inl (cI, 12, .inl (fun j => iI ((q j : Nat) : Int))))]) s.heap s.heap [] := va_S.rf
  have hl := lv_entry ([.ref m0, .int (iI z)]) (n := 2) (Nat.le_of_ble_eq_true rfl)
  rw [lg_entry_eq]
  generalize (lg_sl ([.ref m0, .int (iI z)]) ++ List.replicate (2 - (lg_sl ([.ref m0, .int (iI z)])).length) Slot.unset).toArray = ls at hl ⊢
  have hl : lv_has ls 2 [(0, .ref m0), (1, .int (iI z))] := hl
  have hz1 := hz.1
  have hz2 := hz.2
  refine lv_aload_n hx hb dX1_goesWell_0 rfl (lv_at hl 0 rfl) ?_
  refine lv_iload_n hx hb dX1_goesWell_1 rfl (lv_at hl 1 rfl) ?_
  refine va_put (D := (dC, dI)) (ci := 1) (v := .int (iI z)) (ty := .int) (C := RX1) (T := TX1) (N := 5) hx hb hts hinX tyX1 tyX1_ok nmX1 hown hK hP hD hS 0 rfl rfl 0 (by decide) (hts (.fieldLink RX1 19 "ToneRowsModel" "thrown" "I") (by decide +kernel)) (fun _ h9 => h9) rfl (by decide +kernel) rfl rfl (Nat.le_of_ble_eq_true rfl) dX1_goesWell_2 (fun H locs hP hD hS => ?_)
  have hP : va_P (dC, dI) vwCl [(m0, .inr (1, [.int (iI z), .ref t0, .ref k0, .ref p0, .int (iI ((w : Nat) : Int))])), (t0, .inl (cI, 24, .inl (fun j => iI ((tb a0 a1 j : Nat) : Int)))), (k0, .inl (cI, 12, .inl (fun j => iI ((K j : Nat) : Int)))), (p0, .inl (cI, 12, .inl (fun j => iI ((q j : Nat) : Int))))] H := hP
  have hD : va_D (inW [(m0, .inr (1, [.int th, .ref t0, .ref k0, .ref p0, .int (iI ((w : Nat) : Int))])), (t0, .inl (cI, 24, .inl (fun j => iI ((tb a0 a1 j : Nat) : Int)))), (k0, .inl (cI, 12, .inl (fun j => iI ((K j : Nat) : Int)))), (p0, .inl (cI, 12, .inl (fun j => iI ((q j : Nat) : Int))))]) [(m0, .inr (1, [.int (iI z), .ref t0, .ref k0, .ref p0, .int (iI ((w : Nat) : Int))])), (t0, .inl (cI, 24, .inl (fun j => iI ((tb a0 a1 j : Nat) : Int)))), (k0, .inl (cI, 12, .inl (fun j => iI ((K j : Nat) : Int)))), (p0, .inl (cI, 12, .inl (fun j => iI ((q j : Nat) : Int))))] := hD
  refine lv_iload_n hx hb dX1_goesWell_5 rfl (lv_at hl 1 rfl) ?_
  refine ib_if_ne (tgt := 13) hx hb dX1_goesWell_6 (by decide) ⟨by omega, by omega⟩ (fun c_6 => ?_) (fun c_6 => ?_)
  · skip
    refine ib_const hx hb dX1_goesWell_13 ?_
    refine st_i (y := iI (bI (z = 0))) (congrArg iI (bI_f (by omega)).symm) ?_
    exact W.zret hx hb hr (bI_nar _) (fun t ht _ => ⟨rfl, by rw [ht]; exact hP, hS.F ht⟩) hS.2.2 dX1_goesWell_14
  · skip
    refine ib_const hx hb dX1_goesWell_9 ?_
    refine lv_goto (tgt := 14) hx hb dX1_goesWell_10 (by decide) ?_
    refine st_i (y := iI (bI (z = 0))) (congrArg iI (bI_t (by omega)).symm) ?_
    exact W.zret hx hb hr (bI_nar _) (fun t ht _ => ⟨rfl, by rw [ht]; exact hP, hS.F ht⟩) hS.2.2 dX1_goesWell_14

set_option maxHeartbeats 4000000 in
set_option maxRecDepth 100000 in
theorem mX1_lay (l : Launch) (dC : Nat → ClassId) (dI : Nat → Nat → Nat) (cI : ClassId) (m0 t0 k0 p0 : Nat) (a0 a1 K q : Nat → Nat) (th : Int32) (w : Nat) (h0 : lt12 a0) (h1 : lt12 a1) (hw : w ≤ 12) (hq : ∀ i, i < w → q i < 12) (r : Nat) (hr9 : r < 2) (hK12 : lt12 K) : wr l yX1_lay wsX1_lay { frames := 1, cells := 0, slots := 0, locals := 22 } [.ref m0, .int (iI ((r : Nat) : Int))] (dC, dI) [(m0, .inr (1, [.int th, .ref t0, .ref k0, .ref p0, .int (iI ((w : Nat) : Int))])), (t0, .inl (cI, 24, .inl (fun j => iI ((tb a0 a1 j : Nat) : Int)))), (k0, .inl (cI, 12, .inl (fun j => iI ((K j : Nat) : Int)))), (p0, .inl (cI, 12, .inl (fun j => iI ((q j : Nat) : Int))))] [(cI, .int)] [(m0, .inr (1, [.int th, .ref t0, .ref k0, .ref p0, .int (iI ((w : Nat) : Int))])), (t0, .inl (cI, 24, .inl (fun j => iI ((tb (sr0 r K a0) (sr1 r K a1) j : Nat) : Int)))), (k0, .inl (cI, 12, .inl (fun j => iI ((K j : Nat) : Int)))), (p0, .inl (cI, 12, .inl (fun j => iI ((q j : Nat) : Int))))] (some (.int (iI ((K 0 : Nat) : Int)))) := by
  refine Met.ofW (cc := cX1_lay) (maxL := 3) (ret := (some .int)) (by decide) rfl ?_
  intro P0 e s m args below meth c s₁ B hml hv
  obtain ⟨rfl, hP, hK, hD0⟩ := hv
  have hx := B.exec
  have hb := B.bytes
  have hr := B.returns
  have hts := atoms_spec (ws := wsX1_lay) B.pre
  have hown : s.vm.findClass RX1 = some m.cls := findClass_of_methodNamed B.named
  have hlocks := B.notSynchronized
  have hinX : ∀ w ∈ u_ws RX1 TX1 5, w ∈ wsX1_lay := by decide +kernel
  have hD : va_D (inW [(m0, .inr (1, [.int th, .ref t0, .ref k0, .ref p0, .int (iI ((w : Nat) : Int))])), (t0, .inl (cI, 24, .inl (fun j => iI ((tb a0 a1 j : Nat) : Int)))), (k0, .inl (cI, 12, .inl (fun j => iI ((K j : Nat) : Int)))), (p0, .inl (cI, 12, .inl (fun j => iI ((q j : Nat) : Int))))]) [(m0, .inr (1, [.int th, .ref t0, .ref k0, .ref p0, .int (iI ((w : Nat) : Int))])), (t0, .inl (cI, 24, .inl (fun j => iI ((tb a0 a1 j : Nat) : Int)))), (k0, .inl (cI, 12, .inl (fun j => iI ((K j : Nat) : Int)))), (p0, .inl (cI, 12, .inl (fun j => iI ((q j : Nat) : Int))))] := va_D_in hD0
  have hS : va_S (inW [(m0, .inr (1, [.int th, .ref t0, .ref k0, .ref p0, .int (iI ((w : Nat) : Int))])), (t0, .inl (cI, 24, .inl (fun j => iI ((tb a0 a1 j : Nat) : Int)))), (k0, .inl (cI, 12, .inl (fun j => iI ((K j : Nat) : Int)))), (p0, .inl (cI, 12, .inl (fun j => iI ((q j : Nat) : Int))))]) s.heap s.heap [] := va_S.rf
  have hl := lv_entry ([.ref m0, .int (iI ((r : Nat) : Int))]) (n := 3) (Nat.le_of_ble_eq_true rfl)
  rw [lg_entry_eq]
  generalize (lg_sl ([.ref m0, .int (iI ((r : Nat) : Int))]) ++ List.replicate (3 - (lg_sl ([.ref m0, .int (iI ((r : Nat) : Int))])).length) Slot.unset).toArray = ls at hl ⊢
  have hl : lv_has ls 3 [(0, .ref m0), (1, .int (iI ((r : Nat) : Int)))] := hl
  refine ib_const hx hb dX1_lay_0 ?_
  refine lv_istore_n (lv' := [(2, .int (iI 0)), (0, .ref m0), (1, .int (iI ((r : Nat) : Int)))]) hx hb dX1_lay_1 rfl hl (by decide) rfl (fun ls hl => ?_)
  have hP : va_P (dC, dI) vwCl [(m0, .inr (1, [.int th, .ref t0, .ref k0, .ref p0, .int (iI ((w : Nat) : Int))])), (t0, .inl (cI, 24, .inl (fun j => iI ((tb (sr0 r (mx K (rw_ r a0 a1) 0) a0) (sr1 r (mx K (rw_ r a0 a1) 0) a1) j : Nat) : Int)))), (k0, .inl (cI, 12, .inl (fun j => iI ((K j : Nat) : Int)))), (p0, .inl (cI, 12, .inl (fun j => iI ((q j : Nat) : Int))))] s.heap := va_P_arr (q0 := 1) (f := fun j => iI ((tb a0 a1 j : Nat) : Int)) (g := fun j => iI ((tb (sr0 r (mx K (rw_ r a0 a1) 0) a0) (sr1 r (mx K (rw_ r a0 a1) 0) a1) j : Nat) : Int)) (fun j hj => tb_in hj) rfl hP
  have hD : va_D (inW [(m0, .inr (1, [.int th, .ref t0, .ref k0, .ref p0, .int (iI ((w : Nat) : Int))])), (t0, .inl (cI, 24, .inl (fun j => iI ((tb a0 a1 j : Nat) : Int)))), (k0, .inl (cI, 12, .inl (fun j => iI ((K j : Nat) : Int)))), (p0, .inl (cI, 12, .inl (fun j => iI ((q j : Nat) : Int))))]) [(m0, .inr (1, [.int th, .ref t0, .ref k0, .ref p0, .int (iI ((w : Nat) : Int))])), (t0, .inl (cI, 24, .inl (fun j => iI ((tb (sr0 r (mx K (rw_ r a0 a1) 0) a0) (sr1 r (mx K (rw_ r a0 a1) 0) a1) j : Nat) : Int)))), (k0, .inl (cI, 12, .inl (fun j => iI ((K j : Nat) : Int)))), (p0, .inl (cI, 12, .inl (fun j => iI ((q j : Nat) : Int))))] := va_D_same (w := [(m0, .inr (1, [.int th, .ref t0, .ref k0, .ref p0, .int (iI ((w : Nat) : Int))])), (t0, .inl (cI, 24, .inl (fun j => iI ((tb a0 a1 j : Nat) : Int)))), (k0, .inl (cI, 12, .inl (fun j => iI ((K j : Nat) : Int)))), (p0, .inl (cI, 12, .inl (fun j => iI ((q j : Nat) : Int))))]) rfl hD
  have lp_2_1 : ∀ (j n : Nat), n + j = 12 → ∀ (H : Heap) (locs : List Loc), va_P (dC, dI) vwCl [(m0, .inr (1, [.int th, .ref t0, .ref k0, .ref p0, .int (iI ((w : Nat) : Int))])), (t0, .inl (cI, 24, .inl (fun j => iI ((tb (sr0 r (mx K (rw_ r a0 a1) n) a0) (sr1 r (mx K (rw_ r a0 a1) n) a1) j : Nat) : Int)))), (k0, .inl (cI, 12, .inl (fun j => iI ((K j : Nat) : Int)))), (p0, .inl (cI, 12, .inl (fun j => iI ((q j : Nat) : Int))))] H → va_D (inW [(m0, .inr (1, [.int th, .ref t0, .ref k0, .ref p0, .int (iI ((w : Nat) : Int))])), (t0, .inl (cI, 24, .inl (fun j => iI ((tb a0 a1 j : Nat) : Int)))), (k0, .inl (cI, 12, .inl (fun j => iI ((K j : Nat) : Int)))), (p0, .inl (cI, 12, .inl (fun j => iI ((q j : Nat) : Int))))]) [(m0, .inr (1, [.int th, .ref t0, .ref k0, .ref p0, .int (iI ((w : Nat) : Int))])), (t0, .inl (cI, 24, .inl (fun j => iI ((tb (sr0 r (mx K (rw_ r a0 a1) n) a0) (sr1 r (mx K (rw_ r a0 a1) n) a1) j : Nat) : Int)))), (k0, .inl (cI, 12, .inl (fun j => iI ((K j : Nat) : Int)))), (p0, .inl (cI, 12, .inl (fun j => iI ((q j : Nat) : Int))))] → va_S (inW [(m0, .inr (1, [.int th, .ref t0, .ref k0, .ref p0, .int (iI ((w : Nat) : Int))])), (t0, .inl (cI, 24, .inl (fun j => iI ((tb a0 a1 j : Nat) : Int)))), (k0, .inl (cI, 12, .inl (fun j => iI ((K j : Nat) : Int)))), (p0, .inl (cI, 12, .inl (fun j => iI ((q j : Nat) : Int))))]) s.heap H locs → ∀ ls : Array Slot, lv_has ls 3 [(0, .ref m0), (1, .int (iI ((r : Nat) : Int))), (2, .int (iI ((n : Nat) : Int)))] → W P0 l e (headSpec wsX1_lay { frames := 1, cells := 0, slots := 0, locals := 22 }).room s m ([.ref m0, .int (iI ((r : Nat) : Int))] : List Value).toArray below meth c H locs 0 0 (MQ below (wrQ (dC, dI) (inW [(m0, .inr (1, [.int th, .ref t0, .ref k0, .ref p0, .int (iI ((w : Nat) : Int))])), (t0, .inl (cI, 24, .inl (fun j => iI ((tb a0 a1 j : Nat) : Int)))), (k0, .inl (cI, 12, .inl (fun j => iI ((K j : Nat) : Int)))), (p0, .inl (cI, 12, .inl (fun j => iI ((q j : Nat) : Int))))]) [(m0, .inr (1, [.int th, .ref t0, .ref k0, .ref p0, .int (iI ((w : Nat) : Int))])), (t0, .inl (cI, 24, .inl (fun j => iI ((tb (sr0 r K a0) (sr1 r K a1) j : Nat) : Int)))), (k0, .inl (cI, 12, .inl (fun j => iI ((K j : Nat) : Int)))), (p0, .inl (cI, 12, .inl (fun j => iI ((q j : Nat) : Int))))] (some (.int (iI ((K 0 : Nat) : Int))))) ([.ref m0, .int (iI ((r : Nat) : Int))] : List Value).toArray s 0 0 (inW [(m0, .inr (1, [.int th, .ref t0, .ref k0, .ref p0, .int (iI ((w : Nat) : Int))])), (t0, .inl (cI, 24, .inl (fun j => iI ((tb a0 a1 j : Nat) : Int)))), (k0, .inl (cI, 12, .inl (fun j => iI ((K j : Nat) : Int)))), (p0, .inl (cI, 12, .inl (fun j => iI ((q j : Nat) : Int))))])) (F0 m 2 ls []) := by
    intro j
    induction j with
    | zero =>
      intro n hn_2  H locs hP hD hS ls hl
      have hl0 : lt12 (sr0 r (mx K (rw_ r a0 a1) n) a0) := sr0_lt r (mx_lt n hK12 (rw_lt12 h0 h1 r)) h0
      have hl1 : lt12 (sr1 r (mx K (rw_ r a0 a1) n) a1) := sr1_lt r (mx_lt n hK12 (rw_lt12 h0 h1 r)) h1
      refine lv_iload_n hx hb dX1_lay_2 rfl (lv_at hl 2 rfl) ?_
      refine ib_bi hx hb dX1_lay_3 (by decide) ?_
      refine ib_icmp_ge (tgt := 31) hx hb dX1_lay_5 (by decide) ⟨by omega, by omega⟩ ⟨by omega, by omega⟩ (fun c_5 => ?_) (fun c_5 => absurd c_5 (by omega))
      refine lv_aload_n hx hb dX1_lay_31 rfl (lv_at hl 0 rfl) ?_
      refine lv_iload_n hx hb dX1_lay_32 rfl (lv_at hl 1 rfl) ?_
      refine ib_const hx hb dX1_lay_33 ?_
      refine rd_call (va_runV (As := [.int (iI ((r : Nat) : Int)), .int (iI 0)]) (rest := []) ⟨hx, hb, hml, hown, hts⟩ (mX1_at l dC dI cI m0 t0 k0 p0 (sr0 r (mx K (rw_ r a0 a1) n) a0) (sr1 r (mx K (rw_ r a0 a1) n) a1) K q th w hl0 hl1 hw hq r 0 (by omega) (by omega)) (cwV 2 hts gX1_lay_X1_at rfl rfl rfl hvX1_at ⟨Nat.le_of_ble_eq_true rfl, Nat.le_of_ble_eq_true rfl⟩) (bW_pre (ci := 1) (q0 := 0) hK hP rfl rfl rfl) rfl rfl hl.1 rfl (lv_room (Nat.le_of_ble_eq_true rfl)) dX1_lay_34 ⟨Nat.le_of_ble_eq_true rfl, Nat.le_of_ble_eq_true rfl⟩) ?_
      have hr_34 := rw_lt hl0 hl1 r (i := 0) (by omega)
      refine st_i (y := iI ((K 0 : Nat) : Int)) (congrArg (fun z : Nat => iI ((z : Nat) : Int)) (by rw [rw_sr]; exact mx_in (by omega))) ?_
      have hP : va_P (dC, dI) vwCl [(m0, .inr (1, [.int th, .ref t0, .ref k0, .ref p0, .int (iI ((w : Nat) : Int))])), (t0, .inl (cI, 24, .inl (fun j => iI ((tb (sr0 r K a0) (sr1 r K a1) j : Nat) : Int)))), (k0, .inl (cI, 12, .inl (fun j => iI ((K j : Nat) : Int)))), (p0, .inl (cI, 12, .inl (fun j => iI ((q j : Nat) : Int))))] H := va_P_arr (q0 := 1) (f := fun j => iI ((tb (sr0 r (mx K (rw_ r a0 a1) n) a0) (sr1 r (mx K (rw_ r a0 a1) n) a1) j : Nat) : Int)) (g := fun j => iI ((tb (sr0 r K a0) (sr1 r K a1) j : Nat) : Int)) (fun j hj => tb_cg (fun i hi => mx_in (by omega)) hj) rfl hP
      have hD : va_D (inW [(m0, .inr (1, [.int th, .ref t0, .ref k0, .ref p0, .int (iI ((w : Nat) : Int))])), (t0, .inl (cI, 24, .inl (fun j => iI ((tb a0 a1 j : Nat) : Int)))), (k0, .inl (cI, 12, .inl (fun j => iI ((K j : Nat) : Int)))), (p0, .inl (cI, 12, .inl (fun j => iI ((q j : Nat) : Int))))]) [(m0, .inr (1, [.int th, .ref t0, .ref k0, .ref p0, .int (iI ((w : Nat) : Int))])), (t0, .inl (cI, 24, .inl (fun j => iI ((tb (sr0 r K a0) (sr1 r K a1) j : Nat) : Int)))), (k0, .inl (cI, 12, .inl (fun j => iI ((K j : Nat) : Int)))), (p0, .inl (cI, 12, .inl (fun j => iI ((q j : Nat) : Int))))] := va_D_same (w := [(m0, .inr (1, [.int th, .ref t0, .ref k0, .ref p0, .int (iI ((w : Nat) : Int))])), (t0, .inl (cI, 24, .inl (fun j => iI ((tb (sr0 r (mx K (rw_ r a0 a1) n) a0) (sr1 r (mx K (rw_ r a0 a1) n) a1) j : Nat) : Int)))), (k0, .inl (cI, 12, .inl (fun j => iI ((K j : Nat) : Int)))), (p0, .inl (cI, 12, .inl (fun j => iI ((q j : Nat) : Int))))]) rfl hD
      exact W.iret hx hb hr (fun t ht _ => ⟨rfl, by rw [ht]; exact hP, hS.F ht⟩) hS.2.2 dX1_lay_37
    | succ j ih_2_1 =>
      intro n hn_2  H locs hP hD hS ls hl
      have hl0 : lt12 (sr0 r (mx K (rw_ r a0 a1) n) a0) := sr0_lt r (mx_lt n hK12 (rw_lt12 h0 h1 r)) h0
      have hl1 : lt12 (sr1 r (mx K (rw_ r a0 a1) n) a1) := sr1_lt r (mx_lt n hK12 (rw_lt12 h0 h1 r)) h1
      refine lv_iload_n hx hb dX1_lay_2 rfl (lv_at hl 2 rfl) ?_
      refine ib_bi hx hb dX1_lay_3 (by decide) ?_
      refine ib_icmp_ge (tgt := 31) hx hb dX1_lay_5 (by decide) ⟨by omega, by omega⟩ ⟨by omega, by omega⟩ (fun c_5 => absurd c_5 (by omega)) (fun c_5 => ?_)
      refine lv_aload_n hx hb dX1_lay_8 rfl (lv_at hl 0 rfl) ?_
      refine va_get (D := (dC, dI)) (ci := 1) (v := .ref t0) (C := RX1) (T := TX1) (N := 5) hx hb hts hinX hown hK hP 0 rfl rfl 1 (by decide) (hts (.fieldLink RX1 7 "ToneRowsModel" "tones" "[I") (by decide +kernel)) (fun _ h9 => h9) rfl dX1_lay_9 ?_
      refine ib_bi hx hb dX1_lay_12 (by decide) ?_
      refine lv_iload_n hx hb dX1_lay_14 rfl (lv_at hl 1 rfl) ?_
      refine ib_mul (z := ((12 * r : Nat) : Int)) hx hb dX1_lay_15 (by first | omega | rfl | (push_cast; rfl)) ?_
      refine lv_iload_n hx hb dX1_lay_16 rfl (lv_at hl 2 rfl) ?_
      refine ib_add (z := (((12 * r) + n : Nat) : Int)) hx hb dX1_lay_17 (by omega) ?_
      refine lv_aload_n hx hb dX1_lay_18 rfl (lv_at hl 0 rfl) ?_
      refine va_get (D := (dC, dI)) (ci := 1) (v := .ref k0) (C := RX1) (T := TX1) (N := 5) hx hb hts hinX hown hK hP 0 rfl rfl 2 (by decide) (hts (.fieldLink RX1 13 "ToneRowsModel" "kept" "[I") (by decide +kernel)) (fun _ h9 => h9) rfl dX1_lay_19 ?_
      refine lv_iload_n hx hb dX1_lay_22 rfl (lv_at hl 2 rfl) ?_
      refine ib_ald (f := fun j => iI ((K j : Nat) : Int)) (i := n) (v := iI ((K n : Nat) : Int)) hx hb hK hP 2 0 rfl rfl (by first | rfl | omega) (by omega) (by omega) rfl dX1_lay_23 ?_
      refine ib_ast (f := fun j => iI ((tb (sr0 r (mx K (rw_ r a0 a1) n) a0) (sr1 r (mx K (rw_ r a0 a1) n) a1) j : Nat) : Int)) (i := (12 * r) + n) (x := iI ((K n : Nat) : Int)) hx hb hK hP hD hS 1 0 (fun j => iI ((tb (sr0 r (mx K (rw_ r a0 a1) (n + 1)) a0) (sr1 r (mx K (rw_ r a0 a1) (n + 1)) a1) j : Nat) : Int)) rfl rfl (by first | rfl | omega) (by omega) (by omega) (fun j hj => tb_st hr9 (by omega) hj) dX1_lay_24 (fun H locs hP hD hS => ?_)
      have hP : va_P (dC, dI) vwCl [(m0, .inr (1, [.int th, .ref t0, .ref k0, .ref p0, .int (iI ((w : Nat) : Int))])), (t0, .inl (cI, 24, .inl (fun j => iI ((tb (sr0 r (mx K (rw_ r a0 a1) (n + 1)) a0) (sr1 r (mx K (rw_ r a0 a1) (n + 1)) a1) j : Nat) : Int)))), (k0, .inl (cI, 12, .inl (fun j => iI ((K j : Nat) : Int)))), (p0, .inl (cI, 12, .inl (fun j => iI ((q j : Nat) : Int))))] H := hP
      have hD : va_D (inW [(m0, .inr (1, [.int th, .ref t0, .ref k0, .ref p0, .int (iI ((w : Nat) : Int))])), (t0, .inl (cI, 24, .inl (fun j => iI ((tb a0 a1 j : Nat) : Int)))), (k0, .inl (cI, 12, .inl (fun j => iI ((K j : Nat) : Int)))), (p0, .inl (cI, 12, .inl (fun j => iI ((q j : Nat) : Int))))]) [(m0, .inr (1, [.int th, .ref t0, .ref k0, .ref p0, .int (iI ((w : Nat) : Int))])), (t0, .inl (cI, 24, .inl (fun j => iI ((tb (sr0 r (mx K (rw_ r a0 a1) (n + 1)) a0) (sr1 r (mx K (rw_ r a0 a1) (n + 1)) a1) j : Nat) : Int)))), (k0, .inl (cI, 12, .inl (fun j => iI ((K j : Nat) : Int)))), (p0, .inl (cI, 12, .inl (fun j => iI ((q j : Nat) : Int))))] := hD
      refine lv_iinc (v := iI ((n + 1 : Nat) : Int)) (lv' := [(2, .int (iI ((n + 1 : Nat) : Int))), (0, .ref m0), (1, .int (iI ((r : Nat) : Int)))]) hx hb dX1_lay_25 hl (k := 2) rfl (iI_inc (by omega)) (by decide) rfl (fun ls hl => ?_)
      refine lv_goto (tgt := 2) hx hb dX1_lay_28 (by decide) ?_
      exact ih_2_1 (n + 1) (by omega)  _ _ hP hD hS _ (lv_sub hl [1, 2, 0] rfl)
  exact lp_2_1 12 0 (by omega)  _ _ hP hD hS _ (lv_sub hl [1, 2, 0] rfl)

set_option maxHeartbeats 4000000 in
set_option maxRecDepth 100000 in
theorem mX1_put_ok (l : Launch) (dC : Nat → ClassId) (dI : Nat → Nat → Nat) (cI : ClassId) (m0 t0 k0 p0 : Nat) (a0 a1 K q : Nat → Nat) (th : Int32) (w : Nat) (h0 : lt12 a0) (h1 : lt12 a1) (hw : w ≤ 12) (hq : ∀ i, i < w → q i < 12) (r i t : Nat) (hr9 : r < 2) (hi : i < 12) (ht : t < 12) : wr l yX1_put wsX1_put { frames := 2, cells := 0, slots := 0, locals := 42 } [.ref m0, .int (iI ((r : Nat) : Int)), .int (iI ((i : Nat) : Int)), .int (iI ((t : Nat) : Int))] (dC, dI) [(m0, .inr (1, [.int th, .ref t0, .ref k0, .ref p0, .int (iI ((w : Nat) : Int))])), (t0, .inl (cI, 24, .inl (fun j => iI ((tb a0 a1 j : Nat) : Int)))), (k0, .inl (cI, 12, .inl (fun j => iI ((K j : Nat) : Int)))), (p0, .inl (cI, 12, .inl (fun j => iI ((q j : Nat) : Int))))] [(cI, .int)] [(m0, .inr (1, [.int (iI 0), .ref t0, .ref k0, .ref p0, .int (iI ((w : Nat) : Int))])), (t0, .inl (cI, 24, .inl (fun j => iI ((tb (sr0 r (putF (rw_ r a0 a1) i t) a0) (sr1 r (putF (rw_ r a0 a1) i t) a1) j : Nat) : Int)))), (k0, .inl (cI, 12, .inl (fun j => iI ((K j : Nat) : Int)))), (p0, .inl (cI, 12, .inl (fun j => iI ((q j : Nat) : Int))))] (some (.int (iI ((rw_ r a0 a1 i : Nat) : Int)))) := by
  refine Met.ofW (cc := cX1_put) (maxL := 6) (ret := (some .int)) (by decide) rfl ?_
  intro P0 e s m args below meth c s₁ B hml hv
  obtain ⟨rfl, hP, hK, hD0⟩ := hv
  have hx := B.exec
  have hb := B.bytes
  have hr := B.returns
  have hts := atoms_spec (ws := wsX1_put) B.pre
  have hown : s.vm.findClass RX1 = some m.cls := findClass_of_methodNamed B.named
  have hlocks := B.notSynchronized
  have hinX : ∀ w ∈ u_ws RX1 TX1 5, w ∈ wsX1_put := by decide +kernel
  have hD : va_D (inW [(m0, .inr (1, [.int th, .ref t0, .ref k0, .ref p0, .int (iI ((w : Nat) : Int))])), (t0, .inl (cI, 24, .inl (fun j => iI ((tb a0 a1 j : Nat) : Int)))), (k0, .inl (cI, 12, .inl (fun j => iI ((K j : Nat) : Int)))), (p0, .inl (cI, 12, .inl (fun j => iI ((q j : Nat) : Int))))]) [(m0, .inr (1, [.int th, .ref t0, .ref k0, .ref p0, .int (iI ((w : Nat) : Int))])), (t0, .inl (cI, 24, .inl (fun j => iI ((tb a0 a1 j : Nat) : Int)))), (k0, .inl (cI, 12, .inl (fun j => iI ((K j : Nat) : Int)))), (p0, .inl (cI, 12, .inl (fun j => iI ((q j : Nat) : Int))))] := va_D_in hD0
  have hS : va_S (inW [(m0, .inr (1, [.int th, .ref t0, .ref k0, .ref p0, .int (iI ((w : Nat) : Int))])), (t0, .inl (cI, 24, .inl (fun j => iI ((tb a0 a1 j : Nat) : Int)))), (k0, .inl (cI, 12, .inl (fun j => iI ((K j : Nat) : Int)))), (p0, .inl (cI, 12, .inl (fun j => iI ((q j : Nat) : Int))))]) s.heap s.heap [] := va_S.rf
  have hl := lv_entry ([.ref m0, .int (iI ((r : Nat) : Int)), .int (iI ((i : Nat) : Int)), .int (iI ((t : Nat) : Int))]) (n := 6) (Nat.le_of_ble_eq_true rfl)
  rw [lg_entry_eq]
  generalize (lg_sl ([.ref m0, .int (iI ((r : Nat) : Int)), .int (iI ((i : Nat) : Int)), .int (iI ((t : Nat) : Int))]) ++ List.replicate (6 - (lg_sl ([.ref m0, .int (iI ((r : Nat) : Int)), .int (iI ((i : Nat) : Int)), .int (iI ((t : Nat) : Int))])).length) Slot.unset).toArray = ls at hl ⊢
  have hl : lv_has ls 6 [(0, .ref m0), (1, .int (iI ((r : Nat) : Int))), (2, .int (iI ((i : Nat) : Int))), (3, .int (iI ((t : Nat) : Int)))] := hl
  refine lv_aload_n hx hb dX1_put_0 rfl (lv_at hl 0 rfl) ?_
  refine lv_iload_n hx hb dX1_put_1 rfl (lv_at hl 1 rfl) ?_
  refine rd_call (va_runS (As := [.int (iI ((r : Nat) : Int))]) (rest := [.ref m0]) ⟨hx, hb, hml, hown, hts⟩ (mX1_isRow l ((r : Nat) : Int) ⟨by omega, by omega⟩) (va_cwS 1 hts gX1_put_X1_isRow rfl rfl rfl hdX1_isRow ⟨Nat.le_of_ble_eq_true rfl, Nat.le_of_ble_eq_true rfl⟩) tt_pre rfl rfl hl.1 rfl (lv_room (Nat.le_of_ble_eq_true rfl)) dX1_put_2 ⟨Nat.le_of_ble_eq_true rfl, Nat.le_of_ble_eq_true rfl⟩) ?_
  refine bb_eq (tgt := 15) hx hb dX1_put_5 (by decide) (fun c_5 => absurd c_5 (by omega)) (fun c_5 => ?_)
  refine lv_iload_n hx hb dX1_put_8 rfl (lv_at hl 2 rfl) ?_
  refine rd_call (va_runS (As := [.int (iI ((i : Nat) : Int))]) (rest := [.ref m0]) ⟨hx, hb, hml, hown, hts⟩ (mX1_isTone l ((i : Nat) : Int) ⟨by omega, by omega⟩) (va_cwS 1 hts gX1_put_X1_isTone rfl rfl rfl hdX1_isTone ⟨Nat.le_of_ble_eq_true rfl, Nat.le_of_ble_eq_true rfl⟩) tt_pre rfl rfl hl.1 rfl (lv_room (Nat.le_of_ble_eq_true rfl)) dX1_put_9 ⟨Nat.le_of_ble_eq_true rfl, Nat.le_of_ble_eq_true rfl⟩) ?_
  refine bb_ne (tgt := 19) hx hb dX1_put_12 (by decide) (fun c_12 => ?_) (fun c_12 => absurd c_12 (by omega))
  refine lv_iload_n hx hb dX1_put_19 rfl (lv_at hl 3 rfl) ?_
  refine rd_call (va_runS (As := [.int (iI ((t : Nat) : Int))]) (rest := [.ref m0]) ⟨hx, hb, hml, hown, hts⟩ (mX1_isTone l ((t : Nat) : Int) ⟨by omega, by omega⟩) (va_cwS 1 hts gX1_put_X1_isTone rfl rfl rfl hdX1_isTone ⟨Nat.le_of_ble_eq_true rfl, Nat.le_of_ble_eq_true rfl⟩) tt_pre rfl rfl hl.1 rfl (lv_room (Nat.le_of_ble_eq_true rfl)) dX1_put_20 ⟨Nat.le_of_ble_eq_true rfl, Nat.le_of_ble_eq_true rfl⟩) ?_
  refine bb_eq (tgt := 30) hx hb dX1_put_23 (by decide) (fun c_23 => absurd c_23 (by omega)) (fun c_23 => ?_)
  refine ib_const hx hb dX1_put_26 ?_
  refine lv_goto (tgt := 31) hx hb dX1_put_27 (by decide) ?_
  refine wr_call (va_runV (As := [.int (iI 0)]) (rest := []) ⟨hx, hb, hml, hown, hts⟩ (mX1_goesWell l dC dI cI m0 t0 k0 p0 a0 a1 K q th w h0 h1 hw hq 0 ⟨by omega, by omega⟩) (cwV 1 hts gX1_put_X1_goesWell rfl rfl rfl hvX1_goesWell ⟨Nat.le_of_ble_eq_true rfl, Nat.le_of_ble_eq_true rfl⟩) (bD_pre (ci := 1) (q0 := 0) hK hP hD rfl rfl rfl) rfl rfl hl.1 rfl (lv_room (Nat.le_of_ble_eq_true rfl)) dX1_put_31 ⟨Nat.le_of_ble_eq_true rfl, Nat.le_of_ble_eq_true rfl⟩) hS (fun q9 h => inW_same (w := [(m0, .inr (1, [.int th, .ref t0, .ref k0, .ref p0, .int (iI ((w : Nat) : Int))])), (t0, .inl (cI, 24, .inl (fun j => iI ((tb a0 a1 j : Nat) : Int)))), (k0, .inl (cI, 12, .inl (fun j => iI ((K j : Nat) : Int)))), (p0, .inl (cI, 12, .inl (fun j => iI ((q j : Nat) : Int))))]) (w' := [(m0, .inr (1, [.int th, .ref t0, .ref k0, .ref p0, .int (iI ((w : Nat) : Int))])), (t0, .inl (cI, 24, .inl (fun j => iI ((tb a0 a1 j : Nat) : Int)))), (k0, .inl (cI, 12, .inl (fun j => iI ((K j : Nat) : Int)))), (p0, .inl (cI, 12, .inl (fun j => iI ((q j : Nat) : Int))))]) rfl h) (fun H locs hP hz hk hS => ?_)
  have hD : va_D (inW [(m0, .inr (1, [.int th, .ref t0, .ref k0, .ref p0, .int (iI ((w : Nat) : Int))])), (t0, .inl (cI, 24, .inl (fun j => iI ((tb a0 a1 j : Nat) : Int)))), (k0, .inl (cI, 12, .inl (fun j => iI ((K j : Nat) : Int)))), (p0, .inl (cI, 12, .inl (fun j => iI ((q j : Nat) : Int))))]) [(m0, .inr (1, [.int (iI 0), .ref t0, .ref k0, .ref p0, .int (iI ((w : Nat) : Int))])), (t0, .inl (cI, 24, .inl (fun j => iI ((tb a0 a1 j : Nat) : Int)))), (k0, .inl (cI, 12, .inl (fun j => iI ((K j : Nat) : Int)))), (p0, .inl (cI, 12, .inl (fun j => iI ((q j : Nat) : Int))))] := va_D_same (w := [(m0, .inr (1, [.int th, .ref t0, .ref k0, .ref p0, .int (iI ((w : Nat) : Int))])), (t0, .inl (cI, 24, .inl (fun j => iI ((tb a0 a1 j : Nat) : Int)))), (k0, .inl (cI, 12, .inl (fun j => iI ((K j : Nat) : Int)))), (p0, .inl (cI, 12, .inl (fun j => iI ((q j : Nat) : Int))))]) rfl hD
  refine st_i (y := iI 1) (congrArg iI (bI_t (by decide))) ?_
  refine ib_if_ne (tgt := 39) hx hb dX1_put_34 (by decide) ⟨by omega, by omega⟩ (fun c_34 => ?_) (fun c_34 => absurd c_34 (by decide))
  refine lv_aload_n hx hb dX1_put_39 rfl (lv_at hl 0 rfl) ?_
  refine lv_iload_n hx hb dX1_put_40 rfl (lv_at hl 1 rfl) ?_
  refine lv_iload_n hx hb dX1_put_41 rfl (lv_at hl 2 rfl) ?_
  refine rd_call (va_runV (As := [.int (iI ((r : Nat) : Int)), .int (iI ((i : Nat) : Int))]) (rest := []) ⟨hx, hb, hml, hown, hts⟩ (mX1_at l dC dI cI m0 t0 k0 p0 a0 a1 K q (iI 0) w h0 h1 hw hq r i (by omega) (by omega)) (cwV 2 hts gX1_put_X1_at rfl rfl rfl hvX1_at ⟨Nat.le_of_ble_eq_true rfl, Nat.le_of_ble_eq_true rfl⟩) (bW_pre (ci := 1) (q0 := 0) hK hP rfl rfl rfl) rfl rfl hl.1 rfl (lv_room (Nat.le_of_ble_eq_true rfl)) dX1_put_42 ⟨Nat.le_of_ble_eq_true rfl, Nat.le_of_ble_eq_true rfl⟩) ?_
  have hr_42 := rw_lt h0 h1 r (i := i) (by omega)
  refine lv_istore (lv' := [(4, .int (iI ((rw_ r a0 a1 i : Nat) : Int))), (0, .ref m0), (1, .int (iI ((r : Nat) : Int))), (2, .int (iI ((i : Nat) : Int))), (3, .int (iI ((t : Nat) : Int)))]) hx hb dX1_put_45 hl (by decide) rfl (fun ls hl => ?_)
  refine ib_const hx hb dX1_put_47 ?_
  refine lv_istore (lv' := [(5, .int (iI 0)), (4, .int (iI ((rw_ r a0 a1 i : Nat) : Int))), (0, .ref m0), (1, .int (iI ((r : Nat) : Int))), (2, .int (iI ((i : Nat) : Int))), (3, .int (iI ((t : Nat) : Int)))]) hx hb dX1_put_48 hl (by decide) rfl (fun ls hl => ?_)
  have hP : va_P (dC, dI) vwCl [(m0, .inr (1, [.int (iI 0), .ref t0, .ref k0, .ref p0, .int (iI ((w : Nat) : Int))])), (t0, .inl (cI, 24, .inl (fun j => iI ((tb (sr0 r (mx (ptF (rw_ r a0 a1) i t) (rw_ r a0 a1) 0) a0) (sr1 r (mx (ptF (rw_ r a0 a1) i t) (rw_ r a0 a1) 0) a1) j : Nat) : Int)))), (k0, .inl (cI, 12, .inl (fun j => iI ((K j : Nat) : Int)))), (p0, .inl (cI, 12, .inl (fun j => iI ((q j : Nat) : Int))))] H := va_P_arr (q0 := 1) (f := fun j => iI ((tb a0 a1 j : Nat) : Int)) (g := fun j => iI ((tb (sr0 r (mx (ptF (rw_ r a0 a1) i t) (rw_ r a0 a1) 0) a0) (sr1 r (mx (ptF (rw_ r a0 a1) i t) (rw_ r a0 a1) 0) a1) j : Nat) : Int)) (fun j hj => tb_in hj) rfl hP
  have hD : va_D (inW [(m0, .inr (1, [.int th, .ref t0, .ref k0, .ref p0, .int (iI ((w : Nat) : Int))])), (t0, .inl (cI, 24, .inl (fun j => iI ((tb a0 a1 j : Nat) : Int)))), (k0, .inl (cI, 12, .inl (fun j => iI ((K j : Nat) : Int)))), (p0, .inl (cI, 12, .inl (fun j => iI ((q j : Nat) : Int))))]) [(m0, .inr (1, [.int (iI 0), .ref t0, .ref k0, .ref p0, .int (iI ((w : Nat) : Int))])), (t0, .inl (cI, 24, .inl (fun j => iI ((tb (sr0 r (mx (ptF (rw_ r a0 a1) i t) (rw_ r a0 a1) 0) a0) (sr1 r (mx (ptF (rw_ r a0 a1) i t) (rw_ r a0 a1) 0) a1) j : Nat) : Int)))), (k0, .inl (cI, 12, .inl (fun j => iI ((K j : Nat) : Int)))), (p0, .inl (cI, 12, .inl (fun j => iI ((q j : Nat) : Int))))] := va_D_same (w := [(m0, .inr (1, [.int (iI 0), .ref t0, .ref k0, .ref p0, .int (iI ((w : Nat) : Int))])), (t0, .inl (cI, 24, .inl (fun j => iI ((tb a0 a1 j : Nat) : Int)))), (k0, .inl (cI, 12, .inl (fun j => iI ((K j : Nat) : Int)))), (p0, .inl (cI, 12, .inl (fun j => iI ((q j : Nat) : Int))))]) rfl hD
  have lp_50_1 : ∀ (j n : Nat), n + j = 12 → ∀ (H : Heap) (locs : List Loc), va_P (dC, dI) vwCl [(m0, .inr (1, [.int (iI 0), .ref t0, .ref k0, .ref p0, .int (iI ((w : Nat) : Int))])), (t0, .inl (cI, 24, .inl (fun j => iI ((tb (sr0 r (mx (ptF (rw_ r a0 a1) i t) (rw_ r a0 a1) n) a0) (sr1 r (mx (ptF (rw_ r a0 a1) i t) (rw_ r a0 a1) n) a1) j : Nat) : Int)))), (k0, .inl (cI, 12, .inl (fun j => iI ((K j : Nat) : Int)))), (p0, .inl (cI, 12, .inl (fun j => iI ((q j : Nat) : Int))))] H → va_D (inW [(m0, .inr (1, [.int th, .ref t0, .ref k0, .ref p0, .int (iI ((w : Nat) : Int))])), (t0, .inl (cI, 24, .inl (fun j => iI ((tb a0 a1 j : Nat) : Int)))), (k0, .inl (cI, 12, .inl (fun j => iI ((K j : Nat) : Int)))), (p0, .inl (cI, 12, .inl (fun j => iI ((q j : Nat) : Int))))]) [(m0, .inr (1, [.int (iI 0), .ref t0, .ref k0, .ref p0, .int (iI ((w : Nat) : Int))])), (t0, .inl (cI, 24, .inl (fun j => iI ((tb (sr0 r (mx (ptF (rw_ r a0 a1) i t) (rw_ r a0 a1) n) a0) (sr1 r (mx (ptF (rw_ r a0 a1) i t) (rw_ r a0 a1) n) a1) j : Nat) : Int)))), (k0, .inl (cI, 12, .inl (fun j => iI ((K j : Nat) : Int)))), (p0, .inl (cI, 12, .inl (fun j => iI ((q j : Nat) : Int))))] → va_S (inW [(m0, .inr (1, [.int th, .ref t0, .ref k0, .ref p0, .int (iI ((w : Nat) : Int))])), (t0, .inl (cI, 24, .inl (fun j => iI ((tb a0 a1 j : Nat) : Int)))), (k0, .inl (cI, 12, .inl (fun j => iI ((K j : Nat) : Int)))), (p0, .inl (cI, 12, .inl (fun j => iI ((q j : Nat) : Int))))]) s.heap H locs → ∀ ls : Array Slot, lv_has ls 6 [(0, .ref m0), (1, .int (iI ((r : Nat) : Int))), (2, .int (iI ((i : Nat) : Int))), (3, .int (iI ((t : Nat) : Int))), (4, .int (iI ((rw_ r a0 a1 i : Nat) : Int))), (5, .int (iI ((n : Nat) : Int)))] → W P0 l e (headSpec wsX1_put { frames := 2, cells := 0, slots := 0, locals := 42 }).room s m ([.ref m0, .int (iI ((r : Nat) : Int)), .int (iI ((i : Nat) : Int)), .int (iI ((t : Nat) : Int))] : List Value).toArray below meth c H locs 0 0 (MQ below (wrQ (dC, dI) (inW [(m0, .inr (1, [.int th, .ref t0, .ref k0, .ref p0, .int (iI ((w : Nat) : Int))])), (t0, .inl (cI, 24, .inl (fun j => iI ((tb a0 a1 j : Nat) : Int)))), (k0, .inl (cI, 12, .inl (fun j => iI ((K j : Nat) : Int)))), (p0, .inl (cI, 12, .inl (fun j => iI ((q j : Nat) : Int))))]) [(m0, .inr (1, [.int (iI 0), .ref t0, .ref k0, .ref p0, .int (iI ((w : Nat) : Int))])), (t0, .inl (cI, 24, .inl (fun j => iI ((tb (sr0 r (putF (rw_ r a0 a1) i t) a0) (sr1 r (putF (rw_ r a0 a1) i t) a1) j : Nat) : Int)))), (k0, .inl (cI, 12, .inl (fun j => iI ((K j : Nat) : Int)))), (p0, .inl (cI, 12, .inl (fun j => iI ((q j : Nat) : Int))))] (some (.int (iI ((rw_ r a0 a1 i : Nat) : Int))))) ([.ref m0, .int (iI ((r : Nat) : Int)), .int (iI ((i : Nat) : Int)), .int (iI ((t : Nat) : Int))] : List Value).toArray s 0 0 (inW [(m0, .inr (1, [.int th, .ref t0, .ref k0, .ref p0, .int (iI ((w : Nat) : Int))])), (t0, .inl (cI, 24, .inl (fun j => iI ((tb a0 a1 j : Nat) : Int)))), (k0, .inl (cI, 12, .inl (fun j => iI ((K j : Nat) : Int)))), (p0, .inl (cI, 12, .inl (fun j => iI ((q j : Nat) : Int))))])) (F0 m 50 ls []) := by
    intro j
    induction j with
    | zero =>
      intro n hn_50  H locs hP hD hS ls hl
      have hG := ptF_lt (t := t) (rw_lt12 h0 h1 r) hi
      have hl0 : lt12 (sr0 r (mx (ptF (rw_ r a0 a1) i t) (rw_ r a0 a1) n) a0) := sr0_lt r (mx_lt n hG (rw_lt12 h0 h1 r)) h0
      have hl1 : lt12 (sr1 r (mx (ptF (rw_ r a0 a1) i t) (rw_ r a0 a1) n) a1) := sr1_lt r (mx_lt n hG (rw_lt12 h0 h1 r)) h1
      refine lv_iload hx hb dX1_put_50 (lv_at hl 5 rfl) ?_
      refine ib_bi hx hb dX1_put_52 (by decide) ?_
      refine ib_icmp_ge (tgt := 98) hx hb dX1_put_54 (by decide) ⟨by omega, by omega⟩ ⟨by omega, by omega⟩ (fun c_54 => ?_) (fun c_54 => absurd c_54 (by omega))
      refine lv_aload_n hx hb dX1_put_98 rfl (lv_at hl 0 rfl) ?_
      refine va_get (D := (dC, dI)) (ci := 1) (v := .ref t0) (C := RX1) (T := TX1) (N := 5) hx hb hts hinX hown hK hP 0 rfl rfl 1 (by decide) (hts (.fieldLink RX1 7 "ToneRowsModel" "tones" "[I") (by decide +kernel)) (fun _ h9 => h9) rfl dX1_put_99 ?_
      refine ib_bi hx hb dX1_put_102 (by decide) ?_
      refine lv_iload_n hx hb dX1_put_104 rfl (lv_at hl 1 rfl) ?_
      refine ib_mul (z := ((12 * r : Nat) : Int)) hx hb dX1_put_105 (by first | omega | rfl | (push_cast; rfl)) ?_
      refine lv_iload_n hx hb dX1_put_106 rfl (lv_at hl 2 rfl) ?_
      refine ib_add (z := (((12 * r) + i : Nat) : Int)) hx hb dX1_put_107 (by omega) ?_
      refine lv_iload_n hx hb dX1_put_108 rfl (lv_at hl 3 rfl) ?_
      refine ib_ast (f := fun j => iI ((tb (sr0 r (mx (ptF (rw_ r a0 a1) i t) (rw_ r a0 a1) n) a0) (sr1 r (mx (ptF (rw_ r a0 a1) i t) (rw_ r a0 a1) n) a1) j : Nat) : Int)) (i := (12 * r) + i) (x := iI ((t : Nat) : Int)) hx hb hK hP hD hS 1 0 (fun j => iI ((tb (sr0 r (putF (rw_ r a0 a1) i t) a0) (sr1 r (putF (rw_ r a0 a1) i t) a1) j : Nat) : Int)) rfl rfl (by first | rfl | omega) (by omega) (by omega) (fun j hj => tb_pt (by omega) hr9 hi hj) dX1_put_109 (fun H locs hP hD hS => ?_)
      have hP : va_P (dC, dI) vwCl [(m0, .inr (1, [.int (iI 0), .ref t0, .ref k0, .ref p0, .int (iI ((w : Nat) : Int))])), (t0, .inl (cI, 24, .inl (fun j => iI ((tb (sr0 r (putF (rw_ r a0 a1) i t) a0) (sr1 r (putF (rw_ r a0 a1) i t) a1) j : Nat) : Int)))), (k0, .inl (cI, 12, .inl (fun j => iI ((K j : Nat) : Int)))), (p0, .inl (cI, 12, .inl (fun j => iI ((q j : Nat) : Int))))] H := hP
      have hD : va_D (inW [(m0, .inr (1, [.int th, .ref t0, .ref k0, .ref p0, .int (iI ((w : Nat) : Int))])), (t0, .inl (cI, 24, .inl (fun j => iI ((tb a0 a1 j : Nat) : Int)))), (k0, .inl (cI, 12, .inl (fun j => iI ((K j : Nat) : Int)))), (p0, .inl (cI, 12, .inl (fun j => iI ((q j : Nat) : Int))))]) [(m0, .inr (1, [.int (iI 0), .ref t0, .ref k0, .ref p0, .int (iI ((w : Nat) : Int))])), (t0, .inl (cI, 24, .inl (fun j => iI ((tb (sr0 r (putF (rw_ r a0 a1) i t) a0) (sr1 r (putF (rw_ r a0 a1) i t) a1) j : Nat) : Int)))), (k0, .inl (cI, 12, .inl (fun j => iI ((K j : Nat) : Int)))), (p0, .inl (cI, 12, .inl (fun j => iI ((q j : Nat) : Int))))] := hD
      refine lv_iload hx hb dX1_put_110 (lv_at hl 4 rfl) ?_
      exact W.iret hx hb hr (fun t ht _ => ⟨rfl, by rw [ht]; exact hP, hS.F ht⟩) hS.2.2 dX1_put_112
    | succ j ih_50_1 =>
      intro n hn_50  H locs hP hD hS ls hl
      have hG := ptF_lt (t := t) (rw_lt12 h0 h1 r) hi
      have hl0 : lt12 (sr0 r (mx (ptF (rw_ r a0 a1) i t) (rw_ r a0 a1) n) a0) := sr0_lt r (mx_lt n hG (rw_lt12 h0 h1 r)) h0
      have hl1 : lt12 (sr1 r (mx (ptF (rw_ r a0 a1) i t) (rw_ r a0 a1) n) a1) := sr1_lt r (mx_lt n hG (rw_lt12 h0 h1 r)) h1
      refine lv_iload hx hb dX1_put_50 (lv_at hl 5 rfl) ?_
      refine ib_bi hx hb dX1_put_52 (by decide) ?_
      refine ib_icmp_ge (tgt := 98) hx hb dX1_put_54 (by decide) ⟨by omega, by omega⟩ ⟨by omega, by omega⟩ (fun c_54 => absurd c_54 (by omega)) (fun c_54 => ?_)
      refine lv_aload_n hx hb dX1_put_57 rfl (lv_at hl 0 rfl) ?_
      refine va_get (D := (dC, dI)) (ci := 1) (v := .ref t0) (C := RX1) (T := TX1) (N := 5) hx hb hts hinX hown hK hP 0 rfl rfl 1 (by decide) (hts (.fieldLink RX1 7 "ToneRowsModel" "tones" "[I") (by decide +kernel)) (fun _ h9 => h9) rfl dX1_put_58 ?_
      refine ib_bi hx hb dX1_put_61 (by decide) ?_
      refine lv_iload_n hx hb dX1_put_63 rfl (lv_at hl 1 rfl) ?_
      refine ib_mul (z := ((12 * r : Nat) : Int)) hx hb dX1_put_64 (by first | omega | rfl | (push_cast; rfl)) ?_
      refine lv_iload hx hb dX1_put_65 (lv_at hl 5 rfl) ?_
      refine ib_add (z := (((12 * r) + n : Nat) : Int)) hx hb dX1_put_67 (by omega) ?_
      refine lv_aload_n hx hb dX1_put_68 rfl (lv_at hl 0 rfl) ?_
      refine lv_iload_n hx hb dX1_put_69 rfl (lv_at hl 1 rfl) ?_
      refine lv_iload hx hb dX1_put_70 (lv_at hl 5 rfl) ?_
      refine rd_call (va_runV (As := [.int (iI ((r : Nat) : Int)), .int (iI ((n : Nat) : Int))]) (rest := [.int (iI (((12 * r) + n : Nat) : Int)), .ref t0]) ⟨hx, hb, hml, hown, hts⟩ (mX1_at l dC dI cI m0 t0 k0 p0 (sr0 r (mx (ptF (rw_ r a0 a1) i t) (rw_ r a0 a1) n) a0) (sr1 r (mx (ptF (rw_ r a0 a1) i t) (rw_ r a0 a1) n) a1) K q (iI 0) w hl0 hl1 hw hq r n (by omega) (by omega)) (cwV 2 hts gX1_put_X1_at rfl rfl rfl hvX1_at ⟨Nat.le_of_ble_eq_true rfl, Nat.le_of_ble_eq_true rfl⟩) (bW_pre (ci := 1) (q0 := 0) hK hP rfl rfl rfl) rfl rfl hl.1 rfl (lv_room (Nat.le_of_ble_eq_true rfl)) dX1_put_72 ⟨Nat.le_of_ble_eq_true rfl, Nat.le_of_ble_eq_true rfl⟩) ?_
      have hr_72 := rw_lt hl0 hl1 r (i := n) (by omega)
      refine st_i (y := iI ((rw_ r a0 a1 n : Nat) : Int)) (congrArg (fun z : Nat => iI ((z : Nat) : Int)) (by rw [rw_sr]; exact mx_out (by omega))) ?_
      have hrn := rw_lt h0 h1 r (i := n) (by omega)
      refine lv_iload_n hx hb dX1_put_75 rfl (lv_at hl 3 rfl) ?_
      refine ib_icmp_ne (tgt := 84) hx hb dX1_put_76 (by decide) ⟨by omega, by omega⟩ ⟨by omega, by omega⟩ (fun c_76 => ?_) (fun c_76 => ?_)
      · skip
        refine lv_aload_n hx hb dX1_put_84 rfl (lv_at hl 0 rfl) ?_
        refine lv_iload_n hx hb dX1_put_85 rfl (lv_at hl 1 rfl) ?_
        refine lv_iload hx hb dX1_put_86 (lv_at hl 5 rfl) ?_
        refine rd_call (va_runV (As := [.int (iI ((r : Nat) : Int)), .int (iI ((n : Nat) : Int))]) (rest := [.int (iI (((12 * r) + n : Nat) : Int)), .ref t0]) ⟨hx, hb, hml, hown, hts⟩ (mX1_at l dC dI cI m0 t0 k0 p0 (sr0 r (mx (ptF (rw_ r a0 a1) i t) (rw_ r a0 a1) n) a0) (sr1 r (mx (ptF (rw_ r a0 a1) i t) (rw_ r a0 a1) n) a1) K q (iI 0) w hl0 hl1 hw hq r n (by omega) (by omega)) (cwV 2 hts gX1_put_X1_at rfl rfl rfl hvX1_at ⟨Nat.le_of_ble_eq_true rfl, Nat.le_of_ble_eq_true rfl⟩) (bW_pre (ci := 1) (q0 := 0) hK hP rfl rfl rfl) rfl rfl hl.1 rfl (lv_room (Nat.le_of_ble_eq_true rfl)) dX1_put_88 ⟨Nat.le_of_ble_eq_true rfl, Nat.le_of_ble_eq_true rfl⟩) ?_
        have hr_88 := rw_lt hl0 hl1 r (i := n) (by omega)
        refine st_i (y := iI ((rw_ r a0 a1 n : Nat) : Int)) (congrArg (fun z : Nat => iI ((z : Nat) : Int)) (by rw [rw_sr]; exact mx_out (by omega))) ?_
        refine st_i (y := iI ((ptF (rw_ r a0 a1) i t n : Nat) : Int)) (congrArg (fun z : Nat => iI ((z : Nat) : Int)) (if_neg (by omega)).symm) ?_
        refine ib_ast (f := fun j => iI ((tb (sr0 r (mx (ptF (rw_ r a0 a1) i t) (rw_ r a0 a1) n) a0) (sr1 r (mx (ptF (rw_ r a0 a1) i t) (rw_ r a0 a1) n) a1) j : Nat) : Int)) (i := (12 * r) + n) (x := iI ((ptF (rw_ r a0 a1) i t n : Nat) : Int)) hx hb hK hP hD hS 1 0 (fun j => iI ((tb (sr0 r (mx (ptF (rw_ r a0 a1) i t) (rw_ r a0 a1) (n + 1)) a0) (sr1 r (mx (ptF (rw_ r a0 a1) i t) (rw_ r a0 a1) (n + 1)) a1) j : Nat) : Int)) rfl rfl (by first | rfl | omega) (by omega) (by omega) (fun j hj => tb_st hr9 (by omega) hj) dX1_put_91 (fun H locs hP hD hS => ?_)
        have hP : va_P (dC, dI) vwCl [(m0, .inr (1, [.int (iI 0), .ref t0, .ref k0, .ref p0, .int (iI ((w : Nat) : Int))])), (t0, .inl (cI, 24, .inl (fun j => iI ((tb (sr0 r (mx (ptF (rw_ r a0 a1) i t) (rw_ r a0 a1) (n + 1)) a0) (sr1 r (mx (ptF (rw_ r a0 a1) i t) (rw_ r a0 a1) (n + 1)) a1) j : Nat) : Int)))), (k0, .inl (cI, 12, .inl (fun j => iI ((K j : Nat) : Int)))), (p0, .inl (cI, 12, .inl (fun j => iI ((q j : Nat) : Int))))] H := hP
        have hD : va_D (inW [(m0, .inr (1, [.int th, .ref t0, .ref k0, .ref p0, .int (iI ((w : Nat) : Int))])), (t0, .inl (cI, 24, .inl (fun j => iI ((tb a0 a1 j : Nat) : Int)))), (k0, .inl (cI, 12, .inl (fun j => iI ((K j : Nat) : Int)))), (p0, .inl (cI, 12, .inl (fun j => iI ((q j : Nat) : Int))))]) [(m0, .inr (1, [.int (iI 0), .ref t0, .ref k0, .ref p0, .int (iI ((w : Nat) : Int))])), (t0, .inl (cI, 24, .inl (fun j => iI ((tb (sr0 r (mx (ptF (rw_ r a0 a1) i t) (rw_ r a0 a1) (n + 1)) a0) (sr1 r (mx (ptF (rw_ r a0 a1) i t) (rw_ r a0 a1) (n + 1)) a1) j : Nat) : Int)))), (k0, .inl (cI, 12, .inl (fun j => iI ((K j : Nat) : Int)))), (p0, .inl (cI, 12, .inl (fun j => iI ((q j : Nat) : Int))))] := hD
        refine lv_iinc (v := iI ((n + 1 : Nat) : Int)) (lv' := [(5, .int (iI ((n + 1 : Nat) : Int))), (0, .ref m0), (1, .int (iI ((r : Nat) : Int))), (2, .int (iI ((i : Nat) : Int))), (3, .int (iI ((t : Nat) : Int))), (4, .int (iI ((rw_ r a0 a1 i : Nat) : Int)))]) hx hb dX1_put_92 hl (k := 5) rfl (iI_inc (by omega)) (by decide) rfl (fun ls hl => ?_)
        refine lv_goto (tgt := 50) hx hb dX1_put_95 (by decide) ?_
        exact ih_50_1 (n + 1) (by omega)  _ _ hP hD hS _ (lv_sub hl [1, 2, 3, 4, 5, 0] rfl)
      · skip
        refine lv_iload hx hb dX1_put_79 (lv_at hl 4 rfl) ?_
        refine lv_goto (tgt := 91) hx hb dX1_put_81 (by decide) ?_
        refine st_i (y := iI ((ptF (rw_ r a0 a1) i t n : Nat) : Int)) (congrArg (fun z : Nat => iI ((z : Nat) : Int)) (if_pos (by omega)).symm) ?_
        refine ib_ast (f := fun j => iI ((tb (sr0 r (mx (ptF (rw_ r a0 a1) i t) (rw_ r a0 a1) n) a0) (sr1 r (mx (ptF (rw_ r a0 a1) i t) (rw_ r a0 a1) n) a1) j : Nat) : Int)) (i := (12 * r) + n) (x := iI ((ptF (rw_ r a0 a1) i t n : Nat) : Int)) hx hb hK hP hD hS 1 0 (fun j => iI ((tb (sr0 r (mx (ptF (rw_ r a0 a1) i t) (rw_ r a0 a1) (n + 1)) a0) (sr1 r (mx (ptF (rw_ r a0 a1) i t) (rw_ r a0 a1) (n + 1)) a1) j : Nat) : Int)) rfl rfl (by first | rfl | omega) (by omega) (by omega) (fun j hj => tb_st hr9 (by omega) hj) dX1_put_91 (fun H locs hP hD hS => ?_)
        have hP : va_P (dC, dI) vwCl [(m0, .inr (1, [.int (iI 0), .ref t0, .ref k0, .ref p0, .int (iI ((w : Nat) : Int))])), (t0, .inl (cI, 24, .inl (fun j => iI ((tb (sr0 r (mx (ptF (rw_ r a0 a1) i t) (rw_ r a0 a1) (n + 1)) a0) (sr1 r (mx (ptF (rw_ r a0 a1) i t) (rw_ r a0 a1) (n + 1)) a1) j : Nat) : Int)))), (k0, .inl (cI, 12, .inl (fun j => iI ((K j : Nat) : Int)))), (p0, .inl (cI, 12, .inl (fun j => iI ((q j : Nat) : Int))))] H := hP
        have hD : va_D (inW [(m0, .inr (1, [.int th, .ref t0, .ref k0, .ref p0, .int (iI ((w : Nat) : Int))])), (t0, .inl (cI, 24, .inl (fun j => iI ((tb a0 a1 j : Nat) : Int)))), (k0, .inl (cI, 12, .inl (fun j => iI ((K j : Nat) : Int)))), (p0, .inl (cI, 12, .inl (fun j => iI ((q j : Nat) : Int))))]) [(m0, .inr (1, [.int (iI 0), .ref t0, .ref k0, .ref p0, .int (iI ((w : Nat) : Int))])), (t0, .inl (cI, 24, .inl (fun j => iI ((tb (sr0 r (mx (ptF (rw_ r a0 a1) i t) (rw_ r a0 a1) (n + 1)) a0) (sr1 r (mx (ptF (rw_ r a0 a1) i t) (rw_ r a0 a1) (n + 1)) a1) j : Nat) : Int)))), (k0, .inl (cI, 12, .inl (fun j => iI ((K j : Nat) : Int)))), (p0, .inl (cI, 12, .inl (fun j => iI ((q j : Nat) : Int))))] := hD
        refine lv_iinc (v := iI ((n + 1 : Nat) : Int)) (lv' := [(5, .int (iI ((n + 1 : Nat) : Int))), (0, .ref m0), (1, .int (iI ((r : Nat) : Int))), (2, .int (iI ((i : Nat) : Int))), (3, .int (iI ((t : Nat) : Int))), (4, .int (iI ((rw_ r a0 a1 i : Nat) : Int)))]) hx hb dX1_put_92 hl (k := 5) rfl (iI_inc (by omega)) (by decide) rfl (fun ls hl => ?_)
        refine lv_goto (tgt := 50) hx hb dX1_put_95 (by decide) ?_
        exact ih_50_1 (n + 1) (by omega)  _ _ hP hD hS _ (lv_sub hl [1, 2, 3, 4, 5, 0] rfl)
  exact lp_50_1 12 0 (by omega)  _ _ hP hD hS _ (lv_sub hl [2, 3, 4, 5, 1, 0] rfl)

set_option maxHeartbeats 4000000 in
set_option maxRecDepth 100000 in
theorem mX1_put_x1 (l : Launch) (dC : Nat → ClassId) (dI : Nat → Nat → Nat) (cI : ClassId) (m0 t0 k0 p0 : Nat) (a0 a1 K q : Nat → Nat) (th : Int32) (w : Nat) (h0 : lt12 a0) (h1 : lt12 a1) (hw : w ≤ 12) (hq : ∀ i, i < w → q i < 12) (z0 z1 z2 : Int) (hz0 : inI z0) (hz1 : inI z1) (hz2 : inI z2) (hbad : ¬ ((z0 = 0 ∨ z0 = 1) ∧ (0 ≤ z1 ∧ z1 ≤ 11))) : wr l yX1_put wsX1_put { frames := 2, cells := 0, slots := 0, locals := 42 } [.ref m0, .int (iI z0), .int (iI z1), .int (iI z2)] (dC, dI) [(m0, .inr (1, [.int th, .ref t0, .ref k0, .ref p0, .int (iI ((w : Nat) : Int))])), (t0, .inl (cI, 24, .inl (fun j => iI ((tb a0 a1 j : Nat) : Int)))), (k0, .inl (cI, 12, .inl (fun j => iI ((K j : Nat) : Int)))), (p0, .inl (cI, 12, .inl (fun j => iI ((q j : Nat) : Int))))] [(cI, .int)] [(m0, .inr (1, [.int (iI 1), .ref t0, .ref k0, .ref p0, .int (iI ((w : Nat) : Int))])), (t0, .inl (cI, 24, .inl (fun j => iI ((tb a0 a1 j : Nat) : Int)))), (k0, .inl (cI, 12, .inl (fun j => iI ((K j : Nat) : Int)))), (p0, .inl (cI, 12, .inl (fun j => iI ((q j : Nat) : Int))))] (some (.int (iI 0))) := by
  refine Met.ofW (cc := cX1_put) (maxL := 6) (ret := (some .int)) (by decide) rfl ?_
  intro P0 e s m args below meth c s₁ B hml hv
  obtain ⟨rfl, hP, hK, hD0⟩ := hv
  have hx := B.exec
  have hb := B.bytes
  have hr := B.returns
  have hts := atoms_spec (ws := wsX1_put) B.pre
  have hown : s.vm.findClass RX1 = some m.cls := findClass_of_methodNamed B.named
  have hlocks := B.notSynchronized
  have hinX : ∀ w ∈ u_ws RX1 TX1 5, w ∈ wsX1_put := by decide +kernel
  have hD : va_D (inW [(m0, .inr (1, [.int th, .ref t0, .ref k0, .ref p0, .int (iI ((w : Nat) : Int))])), (t0, .inl (cI, 24, .inl (fun j => iI ((tb a0 a1 j : Nat) : Int)))), (k0, .inl (cI, 12, .inl (fun j => iI ((K j : Nat) : Int)))), (p0, .inl (cI, 12, .inl (fun j => iI ((q j : Nat) : Int))))]) [(m0, .inr (1, [.int th, .ref t0, .ref k0, .ref p0, .int (iI ((w : Nat) : Int))])), (t0, .inl (cI, 24, .inl (fun j => iI ((tb a0 a1 j : Nat) : Int)))), (k0, .inl (cI, 12, .inl (fun j => iI ((K j : Nat) : Int)))), (p0, .inl (cI, 12, .inl (fun j => iI ((q j : Nat) : Int))))] := va_D_in hD0
  have hS : va_S (inW [(m0, .inr (1, [.int th, .ref t0, .ref k0, .ref p0, .int (iI ((w : Nat) : Int))])), (t0, .inl (cI, 24, .inl (fun j => iI ((tb a0 a1 j : Nat) : Int)))), (k0, .inl (cI, 12, .inl (fun j => iI ((K j : Nat) : Int)))), (p0, .inl (cI, 12, .inl (fun j => iI ((q j : Nat) : Int))))]) s.heap s.heap [] := va_S.rf
  have hl := lv_entry ([.ref m0, .int (iI z0), .int (iI z1), .int (iI z2)]) (n := 6) (Nat.le_of_ble_eq_true rfl)
  rw [lg_entry_eq]
  generalize (lg_sl ([.ref m0, .int (iI z0), .int (iI z1), .int (iI z2)]) ++ List.replicate (6 - (lg_sl ([.ref m0, .int (iI z0), .int (iI z1), .int (iI z2)])).length) Slot.unset).toArray = ls at hl ⊢
  have hl : lv_has ls 6 [(0, .ref m0), (1, .int (iI z0)), (2, .int (iI z1)), (3, .int (iI z2))] := hl
  have hza0 := hz0.1
  have hza1 := hz1.1
  have hza2 := hz2.1
  have hzb0 := hz0.2
  have hzb1 := hz1.2
  have hzb2 := hz2.2
  refine lv_aload_n hx hb dX1_put_0 rfl (lv_at hl 0 rfl) ?_
  refine lv_iload_n hx hb dX1_put_1 rfl (lv_at hl 1 rfl) ?_
  refine rd_call (va_runS (As := [.int (iI z0)]) (rest := [.ref m0]) ⟨hx, hb, hml, hown, hts⟩ (mX1_isRow l z0 ⟨by omega, by omega⟩) (va_cwS 1 hts gX1_put_X1_isRow rfl rfl rfl hdX1_isRow ⟨Nat.le_of_ble_eq_true rfl, Nat.le_of_ble_eq_true rfl⟩) tt_pre rfl rfl hl.1 rfl (lv_room (Nat.le_of_ble_eq_true rfl)) dX1_put_2 ⟨Nat.le_of_ble_eq_true rfl, Nat.le_of_ble_eq_true rfl⟩) ?_
  refine bb_eq (tgt := 15) hx hb dX1_put_5 (by decide) (fun c_5 => ?_) (fun c_5 => ?_)
  · skip
    refine ib_const hx hb dX1_put_15 ?_
    refine lv_goto (tgt := 31) hx hb dX1_put_16 (by decide) ?_
    refine wr_call (va_runV (As := [.int (iI 1)]) (rest := []) ⟨hx, hb, hml, hown, hts⟩ (mX1_goesWell l dC dI cI m0 t0 k0 p0 a0 a1 K q th w h0 h1 hw hq 1 ⟨by omega, by omega⟩) (cwV 1 hts gX1_put_X1_goesWell rfl rfl rfl hvX1_goesWell ⟨Nat.le_of_ble_eq_true rfl, Nat.le_of_ble_eq_true rfl⟩) (bD_pre (ci := 1) (q0 := 0) hK hP hD rfl rfl rfl) rfl rfl hl.1 rfl (lv_room (Nat.le_of_ble_eq_true rfl)) dX1_put_31 ⟨Nat.le_of_ble_eq_true rfl, Nat.le_of_ble_eq_true rfl⟩) hS (fun q9 h => inW_same (w := [(m0, .inr (1, [.int th, .ref t0, .ref k0, .ref p0, .int (iI ((w : Nat) : Int))])), (t0, .inl (cI, 24, .inl (fun j => iI ((tb a0 a1 j : Nat) : Int)))), (k0, .inl (cI, 12, .inl (fun j => iI ((K j : Nat) : Int)))), (p0, .inl (cI, 12, .inl (fun j => iI ((q j : Nat) : Int))))]) (w' := [(m0, .inr (1, [.int th, .ref t0, .ref k0, .ref p0, .int (iI ((w : Nat) : Int))])), (t0, .inl (cI, 24, .inl (fun j => iI ((tb a0 a1 j : Nat) : Int)))), (k0, .inl (cI, 12, .inl (fun j => iI ((K j : Nat) : Int)))), (p0, .inl (cI, 12, .inl (fun j => iI ((q j : Nat) : Int))))]) rfl h) (fun H locs hP hz hk hS => ?_)
    have hD : va_D (inW [(m0, .inr (1, [.int th, .ref t0, .ref k0, .ref p0, .int (iI ((w : Nat) : Int))])), (t0, .inl (cI, 24, .inl (fun j => iI ((tb a0 a1 j : Nat) : Int)))), (k0, .inl (cI, 12, .inl (fun j => iI ((K j : Nat) : Int)))), (p0, .inl (cI, 12, .inl (fun j => iI ((q j : Nat) : Int))))]) [(m0, .inr (1, [.int (iI 1), .ref t0, .ref k0, .ref p0, .int (iI ((w : Nat) : Int))])), (t0, .inl (cI, 24, .inl (fun j => iI ((tb a0 a1 j : Nat) : Int)))), (k0, .inl (cI, 12, .inl (fun j => iI ((K j : Nat) : Int)))), (p0, .inl (cI, 12, .inl (fun j => iI ((q j : Nat) : Int))))] := va_D_same (w := [(m0, .inr (1, [.int th, .ref t0, .ref k0, .ref p0, .int (iI ((w : Nat) : Int))])), (t0, .inl (cI, 24, .inl (fun j => iI ((tb a0 a1 j : Nat) : Int)))), (k0, .inl (cI, 12, .inl (fun j => iI ((K j : Nat) : Int)))), (p0, .inl (cI, 12, .inl (fun j => iI ((q j : Nat) : Int))))]) rfl hD
    refine st_i (y := iI 0) (congrArg iI (bI_f (by decide))) ?_
    refine ib_if_ne (tgt := 39) hx hb dX1_put_34 (by decide) ⟨by omega, by omega⟩ (fun c_34 => absurd c_34 (by decide)) (fun c_34 => ?_)
    refine ib_const hx hb dX1_put_37 ?_
    exact W.iret hx hb hr (fun t ht _ => ⟨rfl, by rw [ht]; exact hP, hS.F ht⟩) hS.2.2 dX1_put_38
  · skip
    refine lv_iload_n hx hb dX1_put_8 rfl (lv_at hl 2 rfl) ?_
    refine rd_call (va_runS (As := [.int (iI z1)]) (rest := [.ref m0]) ⟨hx, hb, hml, hown, hts⟩ (mX1_isTone l z1 ⟨by omega, by omega⟩) (va_cwS 1 hts gX1_put_X1_isTone rfl rfl rfl hdX1_isTone ⟨Nat.le_of_ble_eq_true rfl, Nat.le_of_ble_eq_true rfl⟩) tt_pre rfl rfl hl.1 rfl (lv_room (Nat.le_of_ble_eq_true rfl)) dX1_put_9 ⟨Nat.le_of_ble_eq_true rfl, Nat.le_of_ble_eq_true rfl⟩) ?_
    refine bb_ne (tgt := 19) hx hb dX1_put_12 (by decide) (fun c_12 => ?_) (fun c_12 => ?_)
    · skip
      refine lv_iload_n hx hb dX1_put_19 rfl (lv_at hl 3 rfl) ?_
      refine rd_call (va_runS (As := [.int (iI z2)]) (rest := [.ref m0]) ⟨hx, hb, hml, hown, hts⟩ (mX1_isTone l z2 ⟨by omega, by omega⟩) (va_cwS 1 hts gX1_put_X1_isTone rfl rfl rfl hdX1_isTone ⟨Nat.le_of_ble_eq_true rfl, Nat.le_of_ble_eq_true rfl⟩) tt_pre rfl rfl hl.1 rfl (lv_room (Nat.le_of_ble_eq_true rfl)) dX1_put_20 ⟨Nat.le_of_ble_eq_true rfl, Nat.le_of_ble_eq_true rfl⟩) ?_
      refine bb_eq (tgt := 30) hx hb dX1_put_23 (by decide) (fun c_23 => ?_) (fun c_23 => ?_)
      · skip
        refine ib_const hx hb dX1_put_30 ?_
        exfalso; omega
      · skip
        refine ib_const hx hb dX1_put_26 ?_
        refine lv_goto (tgt := 31) hx hb dX1_put_27 (by decide) ?_
        exfalso; omega
    · skip
      refine ib_const hx hb dX1_put_15 ?_
      refine lv_goto (tgt := 31) hx hb dX1_put_16 (by decide) ?_
      refine wr_call (va_runV (As := [.int (iI 1)]) (rest := []) ⟨hx, hb, hml, hown, hts⟩ (mX1_goesWell l dC dI cI m0 t0 k0 p0 a0 a1 K q th w h0 h1 hw hq 1 ⟨by omega, by omega⟩) (cwV 1 hts gX1_put_X1_goesWell rfl rfl rfl hvX1_goesWell ⟨Nat.le_of_ble_eq_true rfl, Nat.le_of_ble_eq_true rfl⟩) (bD_pre (ci := 1) (q0 := 0) hK hP hD rfl rfl rfl) rfl rfl hl.1 rfl (lv_room (Nat.le_of_ble_eq_true rfl)) dX1_put_31 ⟨Nat.le_of_ble_eq_true rfl, Nat.le_of_ble_eq_true rfl⟩) hS (fun q9 h => inW_same (w := [(m0, .inr (1, [.int th, .ref t0, .ref k0, .ref p0, .int (iI ((w : Nat) : Int))])), (t0, .inl (cI, 24, .inl (fun j => iI ((tb a0 a1 j : Nat) : Int)))), (k0, .inl (cI, 12, .inl (fun j => iI ((K j : Nat) : Int)))), (p0, .inl (cI, 12, .inl (fun j => iI ((q j : Nat) : Int))))]) (w' := [(m0, .inr (1, [.int th, .ref t0, .ref k0, .ref p0, .int (iI ((w : Nat) : Int))])), (t0, .inl (cI, 24, .inl (fun j => iI ((tb a0 a1 j : Nat) : Int)))), (k0, .inl (cI, 12, .inl (fun j => iI ((K j : Nat) : Int)))), (p0, .inl (cI, 12, .inl (fun j => iI ((q j : Nat) : Int))))]) rfl h) (fun H locs hP hz hk hS => ?_)
      have hD : va_D (inW [(m0, .inr (1, [.int th, .ref t0, .ref k0, .ref p0, .int (iI ((w : Nat) : Int))])), (t0, .inl (cI, 24, .inl (fun j => iI ((tb a0 a1 j : Nat) : Int)))), (k0, .inl (cI, 12, .inl (fun j => iI ((K j : Nat) : Int)))), (p0, .inl (cI, 12, .inl (fun j => iI ((q j : Nat) : Int))))]) [(m0, .inr (1, [.int (iI 1), .ref t0, .ref k0, .ref p0, .int (iI ((w : Nat) : Int))])), (t0, .inl (cI, 24, .inl (fun j => iI ((tb a0 a1 j : Nat) : Int)))), (k0, .inl (cI, 12, .inl (fun j => iI ((K j : Nat) : Int)))), (p0, .inl (cI, 12, .inl (fun j => iI ((q j : Nat) : Int))))] := va_D_same (w := [(m0, .inr (1, [.int th, .ref t0, .ref k0, .ref p0, .int (iI ((w : Nat) : Int))])), (t0, .inl (cI, 24, .inl (fun j => iI ((tb a0 a1 j : Nat) : Int)))), (k0, .inl (cI, 12, .inl (fun j => iI ((K j : Nat) : Int)))), (p0, .inl (cI, 12, .inl (fun j => iI ((q j : Nat) : Int))))]) rfl hD
      refine st_i (y := iI 0) (congrArg iI (bI_f (by decide))) ?_
      refine ib_if_ne (tgt := 39) hx hb dX1_put_34 (by decide) ⟨by omega, by omega⟩ (fun c_34 => absurd c_34 (by decide)) (fun c_34 => ?_)
      refine ib_const hx hb dX1_put_37 ?_
      exact W.iret hx hb hr (fun t ht _ => ⟨rfl, by rw [ht]; exact hP, hS.F ht⟩) hS.2.2 dX1_put_38

set_option maxHeartbeats 4000000 in
set_option maxRecDepth 100000 in
theorem mX1_put_x2 (l : Launch) (dC : Nat → ClassId) (dI : Nat → Nat → Nat) (cI : ClassId) (m0 t0 k0 p0 : Nat) (a0 a1 K q : Nat → Nat) (th : Int32) (w : Nat) (h0 : lt12 a0) (h1 : lt12 a1) (hw : w ≤ 12) (hq : ∀ i, i < w → q i < 12) (z0 z1 z2 : Int) (hz0 : inI z0) (hz1 : inI z1) (hz2 : inI z2) (hbad : ((z0 = 0 ∨ z0 = 1) ∧ (0 ≤ z1 ∧ z1 ≤ 11)) ∧ ¬ (0 ≤ z2 ∧ z2 ≤ 11)) : wr l yX1_put wsX1_put { frames := 2, cells := 0, slots := 0, locals := 42 } [.ref m0, .int (iI z0), .int (iI z1), .int (iI z2)] (dC, dI) [(m0, .inr (1, [.int th, .ref t0, .ref k0, .ref p0, .int (iI ((w : Nat) : Int))])), (t0, .inl (cI, 24, .inl (fun j => iI ((tb a0 a1 j : Nat) : Int)))), (k0, .inl (cI, 12, .inl (fun j => iI ((K j : Nat) : Int)))), (p0, .inl (cI, 12, .inl (fun j => iI ((q j : Nat) : Int))))] [(cI, .int)] [(m0, .inr (1, [.int (iI 2), .ref t0, .ref k0, .ref p0, .int (iI ((w : Nat) : Int))])), (t0, .inl (cI, 24, .inl (fun j => iI ((tb a0 a1 j : Nat) : Int)))), (k0, .inl (cI, 12, .inl (fun j => iI ((K j : Nat) : Int)))), (p0, .inl (cI, 12, .inl (fun j => iI ((q j : Nat) : Int))))] (some (.int (iI 0))) := by
  refine Met.ofW (cc := cX1_put) (maxL := 6) (ret := (some .int)) (by decide) rfl ?_
  intro P0 e s m args below meth c s₁ B hml hv
  obtain ⟨rfl, hP, hK, hD0⟩ := hv
  have hx := B.exec
  have hb := B.bytes
  have hr := B.returns
  have hts := atoms_spec (ws := wsX1_put) B.pre
  have hown : s.vm.findClass RX1 = some m.cls := findClass_of_methodNamed B.named
  have hlocks := B.notSynchronized
  have hinX : ∀ w ∈ u_ws RX1 TX1 5, w ∈ wsX1_put := by decide +kernel
  have hD : va_D (inW [(m0, .inr (1, [.int th, .ref t0, .ref k0, .ref p0, .int (iI ((w : Nat) : Int))])), (t0, .inl (cI, 24, .inl (fun j => iI ((tb a0 a1 j : Nat) : Int)))), (k0, .inl (cI, 12, .inl (fun j => iI ((K j : Nat) : Int)))), (p0, .inl (cI, 12, .inl (fun j => iI ((q j : Nat) : Int))))]) [(m0, .inr (1, [.int th, .ref t0, .ref k0, .ref p0, .int (iI ((w : Nat) : Int))])), (t0, .inl (cI, 24, .inl (fun j => iI ((tb a0 a1 j : Nat) : Int)))), (k0, .inl (cI, 12, .inl (fun j => iI ((K j : Nat) : Int)))), (p0, .inl (cI, 12, .inl (fun j => iI ((q j : Nat) : Int))))] := va_D_in hD0
  have hS : va_S (inW [(m0, .inr (1, [.int th, .ref t0, .ref k0, .ref p0, .int (iI ((w : Nat) : Int))])), (t0, .inl (cI, 24, .inl (fun j => iI ((tb a0 a1 j : Nat) : Int)))), (k0, .inl (cI, 12, .inl (fun j => iI ((K j : Nat) : Int)))), (p0, .inl (cI, 12, .inl (fun j => iI ((q j : Nat) : Int))))]) s.heap s.heap [] := va_S.rf
  have hl := lv_entry ([.ref m0, .int (iI z0), .int (iI z1), .int (iI z2)]) (n := 6) (Nat.le_of_ble_eq_true rfl)
  rw [lg_entry_eq]
  generalize (lg_sl ([.ref m0, .int (iI z0), .int (iI z1), .int (iI z2)]) ++ List.replicate (6 - (lg_sl ([.ref m0, .int (iI z0), .int (iI z1), .int (iI z2)])).length) Slot.unset).toArray = ls at hl ⊢
  have hl : lv_has ls 6 [(0, .ref m0), (1, .int (iI z0)), (2, .int (iI z1)), (3, .int (iI z2))] := hl
  have hza0 := hz0.1
  have hza1 := hz1.1
  have hza2 := hz2.1
  have hzb0 := hz0.2
  have hzb1 := hz1.2
  have hzb2 := hz2.2
  refine lv_aload_n hx hb dX1_put_0 rfl (lv_at hl 0 rfl) ?_
  refine lv_iload_n hx hb dX1_put_1 rfl (lv_at hl 1 rfl) ?_
  refine rd_call (va_runS (As := [.int (iI z0)]) (rest := [.ref m0]) ⟨hx, hb, hml, hown, hts⟩ (mX1_isRow l z0 ⟨by omega, by omega⟩) (va_cwS 1 hts gX1_put_X1_isRow rfl rfl rfl hdX1_isRow ⟨Nat.le_of_ble_eq_true rfl, Nat.le_of_ble_eq_true rfl⟩) tt_pre rfl rfl hl.1 rfl (lv_room (Nat.le_of_ble_eq_true rfl)) dX1_put_2 ⟨Nat.le_of_ble_eq_true rfl, Nat.le_of_ble_eq_true rfl⟩) ?_
  refine bb_eq (tgt := 15) hx hb dX1_put_5 (by decide) (fun c_5 => ?_) (fun c_5 => ?_)
  · skip
    refine ib_const hx hb dX1_put_15 ?_
    refine lv_goto (tgt := 31) hx hb dX1_put_16 (by decide) ?_
    exfalso; omega
  · skip
    refine lv_iload_n hx hb dX1_put_8 rfl (lv_at hl 2 rfl) ?_
    refine rd_call (va_runS (As := [.int (iI z1)]) (rest := [.ref m0]) ⟨hx, hb, hml, hown, hts⟩ (mX1_isTone l z1 ⟨by omega, by omega⟩) (va_cwS 1 hts gX1_put_X1_isTone rfl rfl rfl hdX1_isTone ⟨Nat.le_of_ble_eq_true rfl, Nat.le_of_ble_eq_true rfl⟩) tt_pre rfl rfl hl.1 rfl (lv_room (Nat.le_of_ble_eq_true rfl)) dX1_put_9 ⟨Nat.le_of_ble_eq_true rfl, Nat.le_of_ble_eq_true rfl⟩) ?_
    refine bb_ne (tgt := 19) hx hb dX1_put_12 (by decide) (fun c_12 => ?_) (fun c_12 => ?_)
    · skip
      refine lv_iload_n hx hb dX1_put_19 rfl (lv_at hl 3 rfl) ?_
      refine rd_call (va_runS (As := [.int (iI z2)]) (rest := [.ref m0]) ⟨hx, hb, hml, hown, hts⟩ (mX1_isTone l z2 ⟨by omega, by omega⟩) (va_cwS 1 hts gX1_put_X1_isTone rfl rfl rfl hdX1_isTone ⟨Nat.le_of_ble_eq_true rfl, Nat.le_of_ble_eq_true rfl⟩) tt_pre rfl rfl hl.1 rfl (lv_room (Nat.le_of_ble_eq_true rfl)) dX1_put_20 ⟨Nat.le_of_ble_eq_true rfl, Nat.le_of_ble_eq_true rfl⟩) ?_
      refine bb_eq (tgt := 30) hx hb dX1_put_23 (by decide) (fun c_23 => ?_) (fun c_23 => ?_)
      · skip
        refine ib_const hx hb dX1_put_30 ?_
        refine wr_call (va_runV (As := [.int (iI 2)]) (rest := []) ⟨hx, hb, hml, hown, hts⟩ (mX1_goesWell l dC dI cI m0 t0 k0 p0 a0 a1 K q th w h0 h1 hw hq 2 ⟨by omega, by omega⟩) (cwV 1 hts gX1_put_X1_goesWell rfl rfl rfl hvX1_goesWell ⟨Nat.le_of_ble_eq_true rfl, Nat.le_of_ble_eq_true rfl⟩) (bD_pre (ci := 1) (q0 := 0) hK hP hD rfl rfl rfl) rfl rfl hl.1 rfl (lv_room (Nat.le_of_ble_eq_true rfl)) dX1_put_31 ⟨Nat.le_of_ble_eq_true rfl, Nat.le_of_ble_eq_true rfl⟩) hS (fun q9 h => inW_same (w := [(m0, .inr (1, [.int th, .ref t0, .ref k0, .ref p0, .int (iI ((w : Nat) : Int))])), (t0, .inl (cI, 24, .inl (fun j => iI ((tb a0 a1 j : Nat) : Int)))), (k0, .inl (cI, 12, .inl (fun j => iI ((K j : Nat) : Int)))), (p0, .inl (cI, 12, .inl (fun j => iI ((q j : Nat) : Int))))]) (w' := [(m0, .inr (1, [.int th, .ref t0, .ref k0, .ref p0, .int (iI ((w : Nat) : Int))])), (t0, .inl (cI, 24, .inl (fun j => iI ((tb a0 a1 j : Nat) : Int)))), (k0, .inl (cI, 12, .inl (fun j => iI ((K j : Nat) : Int)))), (p0, .inl (cI, 12, .inl (fun j => iI ((q j : Nat) : Int))))]) rfl h) (fun H locs hP hz hk hS => ?_)
        have hD : va_D (inW [(m0, .inr (1, [.int th, .ref t0, .ref k0, .ref p0, .int (iI ((w : Nat) : Int))])), (t0, .inl (cI, 24, .inl (fun j => iI ((tb a0 a1 j : Nat) : Int)))), (k0, .inl (cI, 12, .inl (fun j => iI ((K j : Nat) : Int)))), (p0, .inl (cI, 12, .inl (fun j => iI ((q j : Nat) : Int))))]) [(m0, .inr (1, [.int (iI 2), .ref t0, .ref k0, .ref p0, .int (iI ((w : Nat) : Int))])), (t0, .inl (cI, 24, .inl (fun j => iI ((tb a0 a1 j : Nat) : Int)))), (k0, .inl (cI, 12, .inl (fun j => iI ((K j : Nat) : Int)))), (p0, .inl (cI, 12, .inl (fun j => iI ((q j : Nat) : Int))))] := va_D_same (w := [(m0, .inr (1, [.int th, .ref t0, .ref k0, .ref p0, .int (iI ((w : Nat) : Int))])), (t0, .inl (cI, 24, .inl (fun j => iI ((tb a0 a1 j : Nat) : Int)))), (k0, .inl (cI, 12, .inl (fun j => iI ((K j : Nat) : Int)))), (p0, .inl (cI, 12, .inl (fun j => iI ((q j : Nat) : Int))))]) rfl hD
        refine st_i (y := iI 0) (congrArg iI (bI_f (by decide))) ?_
        refine ib_if_ne (tgt := 39) hx hb dX1_put_34 (by decide) ⟨by omega, by omega⟩ (fun c_34 => absurd c_34 (by decide)) (fun c_34 => ?_)
        refine ib_const hx hb dX1_put_37 ?_
        exact W.iret hx hb hr (fun t ht _ => ⟨rfl, by rw [ht]; exact hP, hS.F ht⟩) hS.2.2 dX1_put_38
      · skip
        refine ib_const hx hb dX1_put_26 ?_
        refine lv_goto (tgt := 31) hx hb dX1_put_27 (by decide) ?_
        exfalso; omega
    · skip
      refine ib_const hx hb dX1_put_15 ?_
      refine lv_goto (tgt := 31) hx hb dX1_put_16 (by decide) ?_
      exfalso; omega

set_option maxHeartbeats 4000000 in
set_option maxRecDepth 100000 in
theorem mX1_take_ok (l : Launch) (dC : Nat → ClassId) (dI : Nat → Nat → Nat) (cI : ClassId) (m0 t0 k0 p0 : Nat) (a0 a1 K q : Nat → Nat) (th : Int32) (w : Nat) (h0 : lt12 a0) (h1 : lt12 a1) (hw : w ≤ 12) (hq : ∀ i, i < w → q i < 12) (r k i t : Nat) (hr9 : r < 2) (hk : k < 4) (hi : i < 12) (ht : t < 2) : wr l yX1_take wsX1_take { frames := 3, cells := 0, slots := 0, locals := 63 } [.ref m0, .int (iI ((r : Nat) : Int)), .int (iI ((k : Nat) : Int)), .int (iI ((i : Nat) : Int)), .int (iI ((t : Nat) : Int))] (dC, dI) [(m0, .inr (1, [.int th, .ref t0, .ref k0, .ref p0, .int (iI ((w : Nat) : Int))])), (t0, .inl (cI, 24, .inl (fun j => iI ((tb a0 a1 j : Nat) : Int)))), (k0, .inl (cI, 12, .inl (fun j => iI ((K j : Nat) : Int)))), (p0, .inl (cI, 12, .inl (fun j => iI ((q j : Nat) : Int))))] [(cI, .int)] [(m0, .inr (1, [.int (iI 0), .ref t0, .ref k0, .ref p0, .int (iI ((w : Nat) : Int))])), (t0, .inl (cI, 24, .inl (fun j => iI ((tb (sr0 t (fm (rw_ r a0 a1) (12 * k + i)) a0) (sr1 t (fm (rw_ r a0 a1) (12 * k + i)) a1) j : Nat) : Int)))), (k0, .inl (cI, 12, .inl (fun j => iI (((mx (fm (rw_ r a0 a1) (12 * k + i)) K 12) j : Nat) : Int)))), (p0, .inl (cI, 12, .inl (fun j => iI ((q j : Nat) : Int))))] (some (.int (iI ((fm (rw_ r a0 a1) (12 * k + i) 0 : Nat) : Int)))) := by
  refine Met.ofW (cc := cX1_take) (maxL := 6) (ret := (some .int)) (by decide) rfl ?_
  intro P0 e s m args below meth c s₁ B hml hv
  obtain ⟨rfl, hP, hK, hD0⟩ := hv
  have hx := B.exec
  have hb := B.bytes
  have hr := B.returns
  have hts := atoms_spec (ws := wsX1_take) B.pre
  have hown : s.vm.findClass RX1 = some m.cls := findClass_of_methodNamed B.named
  have hlocks := B.notSynchronized
  have hinX : ∀ w ∈ u_ws RX1 TX1 5, w ∈ wsX1_take := by decide +kernel
  have hD : va_D (inW [(m0, .inr (1, [.int th, .ref t0, .ref k0, .ref p0, .int (iI ((w : Nat) : Int))])), (t0, .inl (cI, 24, .inl (fun j => iI ((tb a0 a1 j : Nat) : Int)))), (k0, .inl (cI, 12, .inl (fun j => iI ((K j : Nat) : Int)))), (p0, .inl (cI, 12, .inl (fun j => iI ((q j : Nat) : Int))))]) [(m0, .inr (1, [.int th, .ref t0, .ref k0, .ref p0, .int (iI ((w : Nat) : Int))])), (t0, .inl (cI, 24, .inl (fun j => iI ((tb a0 a1 j : Nat) : Int)))), (k0, .inl (cI, 12, .inl (fun j => iI ((K j : Nat) : Int)))), (p0, .inl (cI, 12, .inl (fun j => iI ((q j : Nat) : Int))))] := va_D_in hD0
  have hS : va_S (inW [(m0, .inr (1, [.int th, .ref t0, .ref k0, .ref p0, .int (iI ((w : Nat) : Int))])), (t0, .inl (cI, 24, .inl (fun j => iI ((tb a0 a1 j : Nat) : Int)))), (k0, .inl (cI, 12, .inl (fun j => iI ((K j : Nat) : Int)))), (p0, .inl (cI, 12, .inl (fun j => iI ((q j : Nat) : Int))))]) s.heap s.heap [] := va_S.rf
  have hl := lv_entry ([.ref m0, .int (iI ((r : Nat) : Int)), .int (iI ((k : Nat) : Int)), .int (iI ((i : Nat) : Int)), .int (iI ((t : Nat) : Int))]) (n := 6) (Nat.le_of_ble_eq_true rfl)
  rw [lg_entry_eq]
  generalize (lg_sl ([.ref m0, .int (iI ((r : Nat) : Int)), .int (iI ((k : Nat) : Int)), .int (iI ((i : Nat) : Int)), .int (iI ((t : Nat) : Int))]) ++ List.replicate (6 - (lg_sl ([.ref m0, .int (iI ((r : Nat) : Int)), .int (iI ((k : Nat) : Int)), .int (iI ((i : Nat) : Int)), .int (iI ((t : Nat) : Int))])).length) Slot.unset).toArray = ls at hl ⊢
  have hl : lv_has ls 6 [(0, .ref m0), (1, .int (iI ((r : Nat) : Int))), (2, .int (iI ((k : Nat) : Int))), (3, .int (iI ((i : Nat) : Int))), (4, .int (iI ((t : Nat) : Int)))] := hl
  refine lv_aload_n hx hb dX1_take_0 rfl (lv_at hl 0 rfl) ?_
  refine lv_iload_n hx hb dX1_take_1 rfl (lv_at hl 1 rfl) ?_
  refine rd_call (va_runS (As := [.int (iI ((r : Nat) : Int))]) (rest := [.ref m0]) ⟨hx, hb, hml, hown, hts⟩ (mX1_isRow l ((r : Nat) : Int) ⟨by omega, by omega⟩) (va_cwS 1 hts gX1_take_X1_isRow rfl rfl rfl hdX1_isRow ⟨Nat.le_of_ble_eq_true rfl, Nat.le_of_ble_eq_true rfl⟩) tt_pre rfl rfl hl.1 rfl (lv_room (Nat.le_of_ble_eq_true rfl)) dX1_take_2 ⟨Nat.le_of_ble_eq_true rfl, Nat.le_of_ble_eq_true rfl⟩) ?_
  refine bb_eq (tgt := 16) hx hb dX1_take_5 (by decide) (fun c_5 => absurd c_5 (by omega)) (fun c_5 => ?_)
  refine lv_iload hx hb dX1_take_8 (lv_at hl 4 rfl) ?_
  refine rd_call (va_runS (As := [.int (iI ((t : Nat) : Int))]) (rest := [.ref m0]) ⟨hx, hb, hml, hown, hts⟩ (mX1_isRow l ((t : Nat) : Int) ⟨by omega, by omega⟩) (va_cwS 1 hts gX1_take_X1_isRow rfl rfl rfl hdX1_isRow ⟨Nat.le_of_ble_eq_true rfl, Nat.le_of_ble_eq_true rfl⟩) tt_pre rfl rfl hl.1 rfl (lv_room (Nat.le_of_ble_eq_true rfl)) dX1_take_10 ⟨Nat.le_of_ble_eq_true rfl, Nat.le_of_ble_eq_true rfl⟩) ?_
  refine bb_ne (tgt := 20) hx hb dX1_take_13 (by decide) (fun c_13 => ?_) (fun c_13 => absurd c_13 (by omega))
  refine lv_iload_n hx hb dX1_take_20 rfl (lv_at hl 2 rfl) ?_
  refine lv_iload_n hx hb dX1_take_21 rfl (lv_at hl 3 rfl) ?_
  refine rd_call (va_runS (As := [.int (iI ((k : Nat) : Int)), .int (iI ((i : Nat) : Int))]) (rest := [.ref m0]) ⟨hx, hb, hml, hown, hts⟩ (mX1_isForm l ((k : Nat) : Int) ((i : Nat) : Int) ⟨by omega, by omega⟩ ⟨by omega, by omega⟩) (va_cwS 2 hts gX1_take_X1_isForm rfl rfl rfl hdX1_isForm ⟨Nat.le_of_ble_eq_true rfl, Nat.le_of_ble_eq_true rfl⟩) tt_pre rfl rfl hl.1 rfl (lv_room (Nat.le_of_ble_eq_true rfl)) dX1_take_22 ⟨Nat.le_of_ble_eq_true rfl, Nat.le_of_ble_eq_true rfl⟩) ?_
  refine bb_eq (tgt := 32) hx hb dX1_take_25 (by decide) (fun c_25 => absurd c_25 (by omega)) (fun c_25 => ?_)
  refine ib_const hx hb dX1_take_28 ?_
  refine lv_goto (tgt := 33) hx hb dX1_take_29 (by decide) ?_
  refine wr_call (va_runV (As := [.int (iI 0)]) (rest := []) ⟨hx, hb, hml, hown, hts⟩ (mX1_goesWell l dC dI cI m0 t0 k0 p0 a0 a1 K q th w h0 h1 hw hq 0 ⟨by omega, by omega⟩) (cwV 1 hts gX1_take_X1_goesWell rfl rfl rfl hvX1_goesWell ⟨Nat.le_of_ble_eq_true rfl, Nat.le_of_ble_eq_true rfl⟩) (bD_pre (ci := 1) (q0 := 0) hK hP hD rfl rfl rfl) rfl rfl hl.1 rfl (lv_room (Nat.le_of_ble_eq_true rfl)) dX1_take_33 ⟨Nat.le_of_ble_eq_true rfl, Nat.le_of_ble_eq_true rfl⟩) hS (fun q9 h => inW_same (w := [(m0, .inr (1, [.int th, .ref t0, .ref k0, .ref p0, .int (iI ((w : Nat) : Int))])), (t0, .inl (cI, 24, .inl (fun j => iI ((tb a0 a1 j : Nat) : Int)))), (k0, .inl (cI, 12, .inl (fun j => iI ((K j : Nat) : Int)))), (p0, .inl (cI, 12, .inl (fun j => iI ((q j : Nat) : Int))))]) (w' := [(m0, .inr (1, [.int th, .ref t0, .ref k0, .ref p0, .int (iI ((w : Nat) : Int))])), (t0, .inl (cI, 24, .inl (fun j => iI ((tb a0 a1 j : Nat) : Int)))), (k0, .inl (cI, 12, .inl (fun j => iI ((K j : Nat) : Int)))), (p0, .inl (cI, 12, .inl (fun j => iI ((q j : Nat) : Int))))]) rfl h) (fun H locs hP hz hk hS => ?_)
  have hD : va_D (inW [(m0, .inr (1, [.int th, .ref t0, .ref k0, .ref p0, .int (iI ((w : Nat) : Int))])), (t0, .inl (cI, 24, .inl (fun j => iI ((tb a0 a1 j : Nat) : Int)))), (k0, .inl (cI, 12, .inl (fun j => iI ((K j : Nat) : Int)))), (p0, .inl (cI, 12, .inl (fun j => iI ((q j : Nat) : Int))))]) [(m0, .inr (1, [.int (iI 0), .ref t0, .ref k0, .ref p0, .int (iI ((w : Nat) : Int))])), (t0, .inl (cI, 24, .inl (fun j => iI ((tb a0 a1 j : Nat) : Int)))), (k0, .inl (cI, 12, .inl (fun j => iI ((K j : Nat) : Int)))), (p0, .inl (cI, 12, .inl (fun j => iI ((q j : Nat) : Int))))] := va_D_same (w := [(m0, .inr (1, [.int th, .ref t0, .ref k0, .ref p0, .int (iI ((w : Nat) : Int))])), (t0, .inl (cI, 24, .inl (fun j => iI ((tb a0 a1 j : Nat) : Int)))), (k0, .inl (cI, 12, .inl (fun j => iI ((K j : Nat) : Int)))), (p0, .inl (cI, 12, .inl (fun j => iI ((q j : Nat) : Int))))]) rfl hD
  refine st_i (y := iI 1) (congrArg iI (bI_t (by decide))) ?_
  refine ib_if_ne (tgt := 41) hx hb dX1_take_36 (by decide) ⟨by omega, by omega⟩ (fun c_36 => ?_) (fun c_36 => absurd c_36 (by decide))
  refine ib_const hx hb dX1_take_41 ?_
  refine lv_istore (lv' := [(5, .int (iI 0)), (0, .ref m0), (1, .int (iI ((r : Nat) : Int))), (2, .int (iI ((k : Nat) : Int))), (3, .int (iI ((i : Nat) : Int))), (4, .int (iI ((t : Nat) : Int)))]) hx hb dX1_take_42 hl (by decide) rfl (fun ls hl => ?_)
  have hP : va_P (dC, dI) vwCl [(m0, .inr (1, [.int (iI 0), .ref t0, .ref k0, .ref p0, .int (iI ((w : Nat) : Int))])), (t0, .inl (cI, 24, .inl (fun j => iI ((tb a0 a1 j : Nat) : Int)))), (k0, .inl (cI, 12, .inl (fun j => iI (((mx (fm (rw_ r a0 a1) (12 * k + i)) K 0) j : Nat) : Int)))), (p0, .inl (cI, 12, .inl (fun j => iI ((q j : Nat) : Int))))] H := va_P_arr (q0 := 2) (f := fun j => iI ((K j : Nat) : Int)) (g := fun j => iI (((mx (fm (rw_ r a0 a1) (12 * k + i)) K 0) j : Nat) : Int)) (fun j hj => by rw [mx_0]) rfl hP
  have hD : va_D (inW [(m0, .inr (1, [.int th, .ref t0, .ref k0, .ref p0, .int (iI ((w : Nat) : Int))])), (t0, .inl (cI, 24, .inl (fun j => iI ((tb a0 a1 j : Nat) : Int)))), (k0, .inl (cI, 12, .inl (fun j => iI ((K j : Nat) : Int)))), (p0, .inl (cI, 12, .inl (fun j => iI ((q j : Nat) : Int))))]) [(m0, .inr (1, [.int (iI 0), .ref t0, .ref k0, .ref p0, .int (iI ((w : Nat) : Int))])), (t0, .inl (cI, 24, .inl (fun j => iI ((tb a0 a1 j : Nat) : Int)))), (k0, .inl (cI, 12, .inl (fun j => iI (((mx (fm (rw_ r a0 a1) (12 * k + i)) K 0) j : Nat) : Int)))), (p0, .inl (cI, 12, .inl (fun j => iI ((q j : Nat) : Int))))] := va_D_same (w := [(m0, .inr (1, [.int (iI 0), .ref t0, .ref k0, .ref p0, .int (iI ((w : Nat) : Int))])), (t0, .inl (cI, 24, .inl (fun j => iI ((tb a0 a1 j : Nat) : Int)))), (k0, .inl (cI, 12, .inl (fun j => iI ((K j : Nat) : Int)))), (p0, .inl (cI, 12, .inl (fun j => iI ((q j : Nat) : Int))))]) rfl hD
  have lp_44_1 : ∀ (j n : Nat), n + j = 12 → ∀ (H : Heap) (locs : List Loc), va_P (dC, dI) vwCl [(m0, .inr (1, [.int (iI 0), .ref t0, .ref k0, .ref p0, .int (iI ((w : Nat) : Int))])), (t0, .inl (cI, 24, .inl (fun j => iI ((tb a0 a1 j : Nat) : Int)))), (k0, .inl (cI, 12, .inl (fun j => iI (((mx (fm (rw_ r a0 a1) (12 * k + i)) K n) j : Nat) : Int)))), (p0, .inl (cI, 12, .inl (fun j => iI ((q j : Nat) : Int))))] H → va_D (inW [(m0, .inr (1, [.int th, .ref t0, .ref k0, .ref p0, .int (iI ((w : Nat) : Int))])), (t0, .inl (cI, 24, .inl (fun j => iI ((tb a0 a1 j : Nat) : Int)))), (k0, .inl (cI, 12, .inl (fun j => iI ((K j : Nat) : Int)))), (p0, .inl (cI, 12, .inl (fun j => iI ((q j : Nat) : Int))))]) [(m0, .inr (1, [.int (iI 0), .ref t0, .ref k0, .ref p0, .int (iI ((w : Nat) : Int))])), (t0, .inl (cI, 24, .inl (fun j => iI ((tb a0 a1 j : Nat) : Int)))), (k0, .inl (cI, 12, .inl (fun j => iI (((mx (fm (rw_ r a0 a1) (12 * k + i)) K n) j : Nat) : Int)))), (p0, .inl (cI, 12, .inl (fun j => iI ((q j : Nat) : Int))))] → va_S (inW [(m0, .inr (1, [.int th, .ref t0, .ref k0, .ref p0, .int (iI ((w : Nat) : Int))])), (t0, .inl (cI, 24, .inl (fun j => iI ((tb a0 a1 j : Nat) : Int)))), (k0, .inl (cI, 12, .inl (fun j => iI ((K j : Nat) : Int)))), (p0, .inl (cI, 12, .inl (fun j => iI ((q j : Nat) : Int))))]) s.heap H locs → ∀ ls : Array Slot, lv_has ls 6 [(0, .ref m0), (1, .int (iI ((r : Nat) : Int))), (2, .int (iI ((k : Nat) : Int))), (3, .int (iI ((i : Nat) : Int))), (4, .int (iI ((t : Nat) : Int))), (5, .int (iI ((n : Nat) : Int)))] → W P0 l e (headSpec wsX1_take { frames := 3, cells := 0, slots := 0, locals := 63 }).room s m ([.ref m0, .int (iI ((r : Nat) : Int)), .int (iI ((k : Nat) : Int)), .int (iI ((i : Nat) : Int)), .int (iI ((t : Nat) : Int))] : List Value).toArray below meth c H locs 0 0 (MQ below (wrQ (dC, dI) (inW [(m0, .inr (1, [.int th, .ref t0, .ref k0, .ref p0, .int (iI ((w : Nat) : Int))])), (t0, .inl (cI, 24, .inl (fun j => iI ((tb a0 a1 j : Nat) : Int)))), (k0, .inl (cI, 12, .inl (fun j => iI ((K j : Nat) : Int)))), (p0, .inl (cI, 12, .inl (fun j => iI ((q j : Nat) : Int))))]) [(m0, .inr (1, [.int (iI 0), .ref t0, .ref k0, .ref p0, .int (iI ((w : Nat) : Int))])), (t0, .inl (cI, 24, .inl (fun j => iI ((tb (sr0 t (fm (rw_ r a0 a1) (12 * k + i)) a0) (sr1 t (fm (rw_ r a0 a1) (12 * k + i)) a1) j : Nat) : Int)))), (k0, .inl (cI, 12, .inl (fun j => iI (((mx (fm (rw_ r a0 a1) (12 * k + i)) K 12) j : Nat) : Int)))), (p0, .inl (cI, 12, .inl (fun j => iI ((q j : Nat) : Int))))] (some (.int (iI ((fm (rw_ r a0 a1) (12 * k + i) 0 : Nat) : Int))))) ([.ref m0, .int (iI ((r : Nat) : Int)), .int (iI ((k : Nat) : Int)), .int (iI ((i : Nat) : Int)), .int (iI ((t : Nat) : Int))] : List Value).toArray s 0 0 (inW [(m0, .inr (1, [.int th, .ref t0, .ref k0, .ref p0, .int (iI ((w : Nat) : Int))])), (t0, .inl (cI, 24, .inl (fun j => iI ((tb a0 a1 j : Nat) : Int)))), (k0, .inl (cI, 12, .inl (fun j => iI ((K j : Nat) : Int)))), (p0, .inl (cI, 12, .inl (fun j => iI ((q j : Nat) : Int))))])) (F0 m 44 ls []) := by
    intro j
    induction j with
    | zero =>
      intro n hn_44  H locs hP hD hS ls hl
      have hK12 : lt12 (mx (fm (rw_ r a0 a1) (12 * k + i)) K 12) := fun j hj => by rw [mx_in hj]; exact fm_lt _ _ _
      refine lv_iload hx hb dX1_take_44 (lv_at hl 5 rfl) ?_
      refine ib_bi hx hb dX1_take_46 (by decide) ?_
      refine ib_icmp_ge (tgt := 76) hx hb dX1_take_48 (by decide) ⟨by omega, by omega⟩ ⟨by omega, by omega⟩ (fun c_48 => ?_) (fun c_48 => absurd c_48 (by omega))
      have hP : va_P (dC, dI) vwCl [(m0, .inr (1, [.int (iI 0), .ref t0, .ref k0, .ref p0, .int (iI ((w : Nat) : Int))])), (t0, .inl (cI, 24, .inl (fun j => iI ((tb a0 a1 j : Nat) : Int)))), (k0, .inl (cI, 12, .inl (fun j => iI (((mx (fm (rw_ r a0 a1) (12 * k + i)) K 12) j : Nat) : Int)))), (p0, .inl (cI, 12, .inl (fun j => iI ((q j : Nat) : Int))))] H := va_P_arr (q0 := 2) (f := fun j => iI (((mx (fm (rw_ r a0 a1) (12 * k + i)) K n) j : Nat) : Int)) (g := fun j => iI (((mx (fm (rw_ r a0 a1) (12 * k + i)) K 12) j : Nat) : Int)) (fun j hj => by rw [show n = 12 by omega]) rfl hP
      have hD : va_D (inW [(m0, .inr (1, [.int th, .ref t0, .ref k0, .ref p0, .int (iI ((w : Nat) : Int))])), (t0, .inl (cI, 24, .inl (fun j => iI ((tb a0 a1 j : Nat) : Int)))), (k0, .inl (cI, 12, .inl (fun j => iI ((K j : Nat) : Int)))), (p0, .inl (cI, 12, .inl (fun j => iI ((q j : Nat) : Int))))]) [(m0, .inr (1, [.int (iI 0), .ref t0, .ref k0, .ref p0, .int (iI ((w : Nat) : Int))])), (t0, .inl (cI, 24, .inl (fun j => iI ((tb a0 a1 j : Nat) : Int)))), (k0, .inl (cI, 12, .inl (fun j => iI (((mx (fm (rw_ r a0 a1) (12 * k + i)) K 12) j : Nat) : Int)))), (p0, .inl (cI, 12, .inl (fun j => iI ((q j : Nat) : Int))))] := va_D_same (w := [(m0, .inr (1, [.int (iI 0), .ref t0, .ref k0, .ref p0, .int (iI ((w : Nat) : Int))])), (t0, .inl (cI, 24, .inl (fun j => iI ((tb a0 a1 j : Nat) : Int)))), (k0, .inl (cI, 12, .inl (fun j => iI (((mx (fm (rw_ r a0 a1) (12 * k + i)) K n) j : Nat) : Int)))), (p0, .inl (cI, 12, .inl (fun j => iI ((q j : Nat) : Int))))]) rfl hD
      refine lv_aload_n hx hb dX1_take_76 rfl (lv_at hl 0 rfl) ?_
      refine lv_iload hx hb dX1_take_77 (lv_at hl 4 rfl) ?_
      refine wr_call (va_runV (As := [.int (iI ((t : Nat) : Int))]) (rest := []) ⟨hx, hb, hml, hown, hts⟩ (mX1_lay l dC dI cI m0 t0 k0 p0 a0 a1 (mx (fm (rw_ r a0 a1) (12 * k + i)) K 12) q (iI 0) w h0 h1 hw hq t (by omega) hK12) (cwV 1 hts gX1_take_X1_lay rfl rfl rfl hvX1_lay ⟨Nat.le_of_ble_eq_true rfl, Nat.le_of_ble_eq_true rfl⟩) (bD_pre (ci := 1) (q0 := 0) hK hP hD rfl rfl rfl) rfl rfl hl.1 rfl (lv_room (Nat.le_of_ble_eq_true rfl)) dX1_take_79 ⟨Nat.le_of_ble_eq_true rfl, Nat.le_of_ble_eq_true rfl⟩) hS (fun q9 h => inW_same (w := [(m0, .inr (1, [.int (iI 0), .ref t0, .ref k0, .ref p0, .int (iI ((w : Nat) : Int))])), (t0, .inl (cI, 24, .inl (fun j => iI ((tb a0 a1 j : Nat) : Int)))), (k0, .inl (cI, 12, .inl (fun j => iI (((mx (fm (rw_ r a0 a1) (12 * k + i)) K 12) j : Nat) : Int)))), (p0, .inl (cI, 12, .inl (fun j => iI ((q j : Nat) : Int))))]) (w' := [(m0, .inr (1, [.int th, .ref t0, .ref k0, .ref p0, .int (iI ((w : Nat) : Int))])), (t0, .inl (cI, 24, .inl (fun j => iI ((tb a0 a1 j : Nat) : Int)))), (k0, .inl (cI, 12, .inl (fun j => iI ((K j : Nat) : Int)))), (p0, .inl (cI, 12, .inl (fun j => iI ((q j : Nat) : Int))))]) rfl h) (fun H locs hP hz hk hS => ?_)
      have hD : va_D (inW [(m0, .inr (1, [.int th, .ref t0, .ref k0, .ref p0, .int (iI ((w : Nat) : Int))])), (t0, .inl (cI, 24, .inl (fun j => iI ((tb a0 a1 j : Nat) : Int)))), (k0, .inl (cI, 12, .inl (fun j => iI ((K j : Nat) : Int)))), (p0, .inl (cI, 12, .inl (fun j => iI ((q j : Nat) : Int))))]) [(m0, .inr (1, [.int (iI 0), .ref t0, .ref k0, .ref p0, .int (iI ((w : Nat) : Int))])), (t0, .inl (cI, 24, .inl (fun j => iI ((tb (sr0 t (mx (fm (rw_ r a0 a1) (12 * k + i)) K 12) a0) (sr1 t (mx (fm (rw_ r a0 a1) (12 * k + i)) K 12) a1) j : Nat) : Int)))), (k0, .inl (cI, 12, .inl (fun j => iI (((mx (fm (rw_ r a0 a1) (12 * k + i)) K 12) j : Nat) : Int)))), (p0, .inl (cI, 12, .inl (fun j => iI ((q j : Nat) : Int))))] := va_D_same (w := [(m0, .inr (1, [.int (iI 0), .ref t0, .ref k0, .ref p0, .int (iI ((w : Nat) : Int))])), (t0, .inl (cI, 24, .inl (fun j => iI ((tb a0 a1 j : Nat) : Int)))), (k0, .inl (cI, 12, .inl (fun j => iI (((mx (fm (rw_ r a0 a1) (12 * k + i)) K 12) j : Nat) : Int)))), (p0, .inl (cI, 12, .inl (fun j => iI ((q j : Nat) : Int))))]) rfl hD
      refine st_i (y := iI (((fm (rw_ r a0 a1) (12 * k + i)) 0 : Nat) : Int)) (congrArg (fun z : Nat => iI ((z : Nat) : Int)) (mx_in (by decide))) ?_
      have hP : va_P (dC, dI) vwCl [(m0, .inr (1, [.int (iI 0), .ref t0, .ref k0, .ref p0, .int (iI ((w : Nat) : Int))])), (t0, .inl (cI, 24, .inl (fun j => iI ((tb (sr0 t (fm (rw_ r a0 a1) (12 * k + i)) a0) (sr1 t (fm (rw_ r a0 a1) (12 * k + i)) a1) j : Nat) : Int)))), (k0, .inl (cI, 12, .inl (fun j => iI (((mx (fm (rw_ r a0 a1) (12 * k + i)) K 12) j : Nat) : Int)))), (p0, .inl (cI, 12, .inl (fun j => iI ((q j : Nat) : Int))))] H := va_P_arr (q0 := 1) (f := fun j => iI ((tb (sr0 t (mx (fm (rw_ r a0 a1) (12 * k + i)) K 12) a0) (sr1 t (mx (fm (rw_ r a0 a1) (12 * k + i)) K 12) a1) j : Nat) : Int)) (g := fun j => iI ((tb (sr0 t (fm (rw_ r a0 a1) (12 * k + i)) a0) (sr1 t (fm (rw_ r a0 a1) (12 * k + i)) a1) j : Nat) : Int)) (fun j hj => tb_cg (fun i hi => mx_in hi) hj) rfl hP
      have hD : va_D (inW [(m0, .inr (1, [.int th, .ref t0, .ref k0, .ref p0, .int (iI ((w : Nat) : Int))])), (t0, .inl (cI, 24, .inl (fun j => iI ((tb a0 a1 j : Nat) : Int)))), (k0, .inl (cI, 12, .inl (fun j => iI ((K j : Nat) : Int)))), (p0, .inl (cI, 12, .inl (fun j => iI ((q j : Nat) : Int))))]) [(m0, .inr (1, [.int (iI 0), .ref t0, .ref k0, .ref p0, .int (iI ((w : Nat) : Int))])), (t0, .inl (cI, 24, .inl (fun j => iI ((tb (sr0 t (fm (rw_ r a0 a1) (12 * k + i)) a0) (sr1 t (fm (rw_ r a0 a1) (12 * k + i)) a1) j : Nat) : Int)))), (k0, .inl (cI, 12, .inl (fun j => iI (((mx (fm (rw_ r a0 a1) (12 * k + i)) K 12) j : Nat) : Int)))), (p0, .inl (cI, 12, .inl (fun j => iI ((q j : Nat) : Int))))] := va_D_same (w := [(m0, .inr (1, [.int (iI 0), .ref t0, .ref k0, .ref p0, .int (iI ((w : Nat) : Int))])), (t0, .inl (cI, 24, .inl (fun j => iI ((tb (sr0 t (mx (fm (rw_ r a0 a1) (12 * k + i)) K 12) a0) (sr1 t (mx (fm (rw_ r a0 a1) (12 * k + i)) K 12) a1) j : Nat) : Int)))), (k0, .inl (cI, 12, .inl (fun j => iI (((mx (fm (rw_ r a0 a1) (12 * k + i)) K 12) j : Nat) : Int)))), (p0, .inl (cI, 12, .inl (fun j => iI ((q j : Nat) : Int))))]) rfl hD
      refine st_i (y := iI ((fm (rw_ r a0 a1) (12 * k + i) 0 : Nat) : Int)) (congrArg iI (by omega)) ?_
      exact W.iret hx hb hr (fun t ht _ => ⟨rfl, by rw [ht]; exact hP, hS.F ht⟩) hS.2.2 dX1_take_82
    | succ j ih_44_1 =>
      intro n hn_44  H locs hP hD hS ls hl
      have hK12 : lt12 (mx (fm (rw_ r a0 a1) (12 * k + i)) K 12) := fun j hj => by rw [mx_in hj]; exact fm_lt _ _ _
      refine lv_iload hx hb dX1_take_44 (lv_at hl 5 rfl) ?_
      refine ib_bi hx hb dX1_take_46 (by decide) ?_
      refine ib_icmp_ge (tgt := 76) hx hb dX1_take_48 (by decide) ⟨by omega, by omega⟩ ⟨by omega, by omega⟩ (fun c_48 => absurd c_48 (by omega)) (fun c_48 => ?_)
      refine lv_aload_n hx hb dX1_take_51 rfl (lv_at hl 0 rfl) ?_
      refine va_get (D := (dC, dI)) (ci := 1) (v := .ref k0) (C := RX1) (T := TX1) (N := 5) hx hb hts hinX hown hK hP 0 rfl rfl 2 (by decide) (hts (.fieldLink RX1 13 "ToneRowsModel" "kept" "[I") (by decide +kernel)) (fun _ h9 => h9) rfl dX1_take_52 ?_
      refine lv_iload hx hb dX1_take_55 (lv_at hl 5 rfl) ?_
      refine lv_aload_n hx hb dX1_take_57 rfl (lv_at hl 0 rfl) ?_
      refine lv_iload_n hx hb dX1_take_58 rfl (lv_at hl 1 rfl) ?_
      refine lv_iload_n hx hb dX1_take_59 rfl (lv_at hl 2 rfl) ?_
      refine lv_iload_n hx hb dX1_take_60 rfl (lv_at hl 3 rfl) ?_
      refine rd_call (va_runS (As := [.int (iI ((k : Nat) : Int)), .int (iI ((i : Nat) : Int))]) (rest := [.int (iI ((r : Nat) : Int)), .ref m0, .int (iI ((n : Nat) : Int)), .ref k0]) ⟨hx, hb, hml, hown, hts⟩ (mX1_codeOf l k i) (va_cwS 2 hts gX1_take_X1_codeOf rfl rfl rfl hdX1_codeOf ⟨Nat.le_of_ble_eq_true rfl, Nat.le_of_ble_eq_true rfl⟩) tt_pre rfl rfl hl.1 rfl (lv_room (Nat.le_of_ble_eq_true rfl)) dX1_take_61 ⟨Nat.le_of_ble_eq_true rfl, Nat.le_of_ble_eq_true rfl⟩) ?_
      refine lv_iload hx hb dX1_take_64 (lv_at hl 5 rfl) ?_
      refine rd_call (va_runV (As := [.int (iI ((r : Nat) : Int)), .int (iI ((12 * k + i : Nat) : Int)), .int (iI ((n : Nat) : Int))]) (rest := [.int (iI ((n : Nat) : Int)), .ref k0]) ⟨hx, hb, hml, hown, hts⟩ (mX1_formAt l dC dI cI m0 t0 k0 p0 a0 a1 (mx (fm (rw_ r a0 a1) (12 * k + i)) K n) q (iI 0) w h0 h1 hw hq r (12 * k + i) n (by omega) (by omega) (by omega)) (cwV 3 hts gX1_take_X1_formAt rfl rfl rfl hvX1_formAt ⟨Nat.le_of_ble_eq_true rfl, Nat.le_of_ble_eq_true rfl⟩) (bW_pre (ci := 1) (q0 := 0) hK hP rfl rfl rfl) rfl rfl hl.1 rfl (lv_room (Nat.le_of_ble_eq_true rfl)) dX1_take_66 ⟨Nat.le_of_ble_eq_true rfl, Nat.le_of_ble_eq_true rfl⟩) ?_
      have hf_66 := fm_lt (rw_ r a0 a1) (12 * k + i) n
      refine ib_ast (f := fun j => iI (((mx (fm (rw_ r a0 a1) (12 * k + i)) K n) j : Nat) : Int)) (i := n) (x := iI ((fm (rw_ r a0 a1) (12 * k + i) n : Nat) : Int)) hx hb hK hP hD hS 2 0 (fun j => iI (((mx (fm (rw_ r a0 a1) (12 * k + i)) K (n + 1)) j : Nat) : Int)) rfl rfl (by first | rfl | omega) (by omega) (by omega) (fun j hj => mx_st) dX1_take_69 (fun H locs hP hD hS => ?_)
      have hP : va_P (dC, dI) vwCl [(m0, .inr (1, [.int (iI 0), .ref t0, .ref k0, .ref p0, .int (iI ((w : Nat) : Int))])), (t0, .inl (cI, 24, .inl (fun j => iI ((tb a0 a1 j : Nat) : Int)))), (k0, .inl (cI, 12, .inl (fun j => iI (((mx (fm (rw_ r a0 a1) (12 * k + i)) K (n + 1)) j : Nat) : Int)))), (p0, .inl (cI, 12, .inl (fun j => iI ((q j : Nat) : Int))))] H := hP
      have hD : va_D (inW [(m0, .inr (1, [.int th, .ref t0, .ref k0, .ref p0, .int (iI ((w : Nat) : Int))])), (t0, .inl (cI, 24, .inl (fun j => iI ((tb a0 a1 j : Nat) : Int)))), (k0, .inl (cI, 12, .inl (fun j => iI ((K j : Nat) : Int)))), (p0, .inl (cI, 12, .inl (fun j => iI ((q j : Nat) : Int))))]) [(m0, .inr (1, [.int (iI 0), .ref t0, .ref k0, .ref p0, .int (iI ((w : Nat) : Int))])), (t0, .inl (cI, 24, .inl (fun j => iI ((tb a0 a1 j : Nat) : Int)))), (k0, .inl (cI, 12, .inl (fun j => iI (((mx (fm (rw_ r a0 a1) (12 * k + i)) K (n + 1)) j : Nat) : Int)))), (p0, .inl (cI, 12, .inl (fun j => iI ((q j : Nat) : Int))))] := hD
      refine lv_iinc (v := iI ((n + 1 : Nat) : Int)) (lv' := [(5, .int (iI ((n + 1 : Nat) : Int))), (0, .ref m0), (1, .int (iI ((r : Nat) : Int))), (2, .int (iI ((k : Nat) : Int))), (3, .int (iI ((i : Nat) : Int))), (4, .int (iI ((t : Nat) : Int)))]) hx hb dX1_take_70 hl (k := 5) rfl (iI_inc (by omega)) (by decide) rfl (fun ls hl => ?_)
      refine lv_goto (tgt := 44) hx hb dX1_take_73 (by decide) ?_
      exact ih_44_1 (n + 1) (by omega)  _ _ hP hD hS _ (lv_sub hl [1, 2, 3, 4, 5, 0] rfl)
  exact lp_44_1 12 0 (by omega)  _ _ hP hD hS _ (lv_sub hl [1, 2, 3, 4, 5, 0] rfl)

set_option maxHeartbeats 4000000 in
set_option maxRecDepth 100000 in
theorem mX1_take_x1 (l : Launch) (dC : Nat → ClassId) (dI : Nat → Nat → Nat) (cI : ClassId) (m0 t0 k0 p0 : Nat) (a0 a1 K q : Nat → Nat) (th : Int32) (w : Nat) (h0 : lt12 a0) (h1 : lt12 a1) (hw : w ≤ 12) (hq : ∀ i, i < w → q i < 12) (z0 z1 z2 z3 : Int) (hz0 : inI z0) (hz1 : inI z1) (hz2 : inI z2) (hz3 : inI z3) (hbad : ¬ ((z0 = 0 ∨ z0 = 1) ∧ (z3 = 0 ∨ z3 = 1))) : wr l yX1_take wsX1_take { frames := 3, cells := 0, slots := 0, locals := 63 } [.ref m0, .int (iI z0), .int (iI z1), .int (iI z2), .int (iI z3)] (dC, dI) [(m0, .inr (1, [.int th, .ref t0, .ref k0, .ref p0, .int (iI ((w : Nat) : Int))])), (t0, .inl (cI, 24, .inl (fun j => iI ((tb a0 a1 j : Nat) : Int)))), (k0, .inl (cI, 12, .inl (fun j => iI ((K j : Nat) : Int)))), (p0, .inl (cI, 12, .inl (fun j => iI ((q j : Nat) : Int))))] [(cI, .int)] [(m0, .inr (1, [.int (iI 1), .ref t0, .ref k0, .ref p0, .int (iI ((w : Nat) : Int))])), (t0, .inl (cI, 24, .inl (fun j => iI ((tb a0 a1 j : Nat) : Int)))), (k0, .inl (cI, 12, .inl (fun j => iI ((K j : Nat) : Int)))), (p0, .inl (cI, 12, .inl (fun j => iI ((q j : Nat) : Int))))] (some (.int (iI 0))) := by
  refine Met.ofW (cc := cX1_take) (maxL := 6) (ret := (some .int)) (by decide) rfl ?_
  intro P0 e s m args below meth c s₁ B hml hv
  obtain ⟨rfl, hP, hK, hD0⟩ := hv
  have hx := B.exec
  have hb := B.bytes
  have hr := B.returns
  have hts := atoms_spec (ws := wsX1_take) B.pre
  have hown : s.vm.findClass RX1 = some m.cls := findClass_of_methodNamed B.named
  have hlocks := B.notSynchronized
  have hinX : ∀ w ∈ u_ws RX1 TX1 5, w ∈ wsX1_take := by decide +kernel
  have hD : va_D (inW [(m0, .inr (1, [.int th, .ref t0, .ref k0, .ref p0, .int (iI ((w : Nat) : Int))])), (t0, .inl (cI, 24, .inl (fun j => iI ((tb a0 a1 j : Nat) : Int)))), (k0, .inl (cI, 12, .inl (fun j => iI ((K j : Nat) : Int)))), (p0, .inl (cI, 12, .inl (fun j => iI ((q j : Nat) : Int))))]) [(m0, .inr (1, [.int th, .ref t0, .ref k0, .ref p0, .int (iI ((w : Nat) : Int))])), (t0, .inl (cI, 24, .inl (fun j => iI ((tb a0 a1 j : Nat) : Int)))), (k0, .inl (cI, 12, .inl (fun j => iI ((K j : Nat) : Int)))), (p0, .inl (cI, 12, .inl (fun j => iI ((q j : Nat) : Int))))] := va_D_in hD0
  have hS : va_S (inW [(m0, .inr (1, [.int th, .ref t0, .ref k0, .ref p0, .int (iI ((w : Nat) : Int))])), (t0, .inl (cI, 24, .inl (fun j => iI ((tb a0 a1 j : Nat) : Int)))), (k0, .inl (cI, 12, .inl (fun j => iI ((K j : Nat) : Int)))), (p0, .inl (cI, 12, .inl (fun j => iI ((q j : Nat) : Int))))]) s.heap s.heap [] := va_S.rf
  have hl := lv_entry ([.ref m0, .int (iI z0), .int (iI z1), .int (iI z2), .int (iI z3)]) (n := 6) (Nat.le_of_ble_eq_true rfl)
  rw [lg_entry_eq]
  generalize (lg_sl ([.ref m0, .int (iI z0), .int (iI z1), .int (iI z2), .int (iI z3)]) ++ List.replicate (6 - (lg_sl ([.ref m0, .int (iI z0), .int (iI z1), .int (iI z2), .int (iI z3)])).length) Slot.unset).toArray = ls at hl ⊢
  have hl : lv_has ls 6 [(0, .ref m0), (1, .int (iI z0)), (2, .int (iI z1)), (3, .int (iI z2)), (4, .int (iI z3))] := hl
  have hza0 := hz0.1
  have hza1 := hz1.1
  have hza2 := hz2.1
  have hza3 := hz3.1
  have hzb0 := hz0.2
  have hzb1 := hz1.2
  have hzb2 := hz2.2
  have hzb3 := hz3.2
  refine lv_aload_n hx hb dX1_take_0 rfl (lv_at hl 0 rfl) ?_
  refine lv_iload_n hx hb dX1_take_1 rfl (lv_at hl 1 rfl) ?_
  refine rd_call (va_runS (As := [.int (iI z0)]) (rest := [.ref m0]) ⟨hx, hb, hml, hown, hts⟩ (mX1_isRow l z0 ⟨by omega, by omega⟩) (va_cwS 1 hts gX1_take_X1_isRow rfl rfl rfl hdX1_isRow ⟨Nat.le_of_ble_eq_true rfl, Nat.le_of_ble_eq_true rfl⟩) tt_pre rfl rfl hl.1 rfl (lv_room (Nat.le_of_ble_eq_true rfl)) dX1_take_2 ⟨Nat.le_of_ble_eq_true rfl, Nat.le_of_ble_eq_true rfl⟩) ?_
  refine bb_eq (tgt := 16) hx hb dX1_take_5 (by decide) (fun c_5 => ?_) (fun c_5 => ?_)
  · skip
    refine ib_const hx hb dX1_take_16 ?_
    refine lv_goto (tgt := 33) hx hb dX1_take_17 (by decide) ?_
    refine wr_call (va_runV (As := [.int (iI 1)]) (rest := []) ⟨hx, hb, hml, hown, hts⟩ (mX1_goesWell l dC dI cI m0 t0 k0 p0 a0 a1 K q th w h0 h1 hw hq 1 ⟨by omega, by omega⟩) (cwV 1 hts gX1_take_X1_goesWell rfl rfl rfl hvX1_goesWell ⟨Nat.le_of_ble_eq_true rfl, Nat.le_of_ble_eq_true rfl⟩) (bD_pre (ci := 1) (q0 := 0) hK hP hD rfl rfl rfl) rfl rfl hl.1 rfl (lv_room (Nat.le_of_ble_eq_true rfl)) dX1_take_33 ⟨Nat.le_of_ble_eq_true rfl, Nat.le_of_ble_eq_true rfl⟩) hS (fun q9 h => inW_same (w := [(m0, .inr (1, [.int th, .ref t0, .ref k0, .ref p0, .int (iI ((w : Nat) : Int))])), (t0, .inl (cI, 24, .inl (fun j => iI ((tb a0 a1 j : Nat) : Int)))), (k0, .inl (cI, 12, .inl (fun j => iI ((K j : Nat) : Int)))), (p0, .inl (cI, 12, .inl (fun j => iI ((q j : Nat) : Int))))]) (w' := [(m0, .inr (1, [.int th, .ref t0, .ref k0, .ref p0, .int (iI ((w : Nat) : Int))])), (t0, .inl (cI, 24, .inl (fun j => iI ((tb a0 a1 j : Nat) : Int)))), (k0, .inl (cI, 12, .inl (fun j => iI ((K j : Nat) : Int)))), (p0, .inl (cI, 12, .inl (fun j => iI ((q j : Nat) : Int))))]) rfl h) (fun H locs hP hz hk hS => ?_)
    have hD : va_D (inW [(m0, .inr (1, [.int th, .ref t0, .ref k0, .ref p0, .int (iI ((w : Nat) : Int))])), (t0, .inl (cI, 24, .inl (fun j => iI ((tb a0 a1 j : Nat) : Int)))), (k0, .inl (cI, 12, .inl (fun j => iI ((K j : Nat) : Int)))), (p0, .inl (cI, 12, .inl (fun j => iI ((q j : Nat) : Int))))]) [(m0, .inr (1, [.int (iI 1), .ref t0, .ref k0, .ref p0, .int (iI ((w : Nat) : Int))])), (t0, .inl (cI, 24, .inl (fun j => iI ((tb a0 a1 j : Nat) : Int)))), (k0, .inl (cI, 12, .inl (fun j => iI ((K j : Nat) : Int)))), (p0, .inl (cI, 12, .inl (fun j => iI ((q j : Nat) : Int))))] := va_D_same (w := [(m0, .inr (1, [.int th, .ref t0, .ref k0, .ref p0, .int (iI ((w : Nat) : Int))])), (t0, .inl (cI, 24, .inl (fun j => iI ((tb a0 a1 j : Nat) : Int)))), (k0, .inl (cI, 12, .inl (fun j => iI ((K j : Nat) : Int)))), (p0, .inl (cI, 12, .inl (fun j => iI ((q j : Nat) : Int))))]) rfl hD
    refine st_i (y := iI 0) (congrArg iI (bI_f (by decide))) ?_
    refine ib_if_ne (tgt := 41) hx hb dX1_take_36 (by decide) ⟨by omega, by omega⟩ (fun c_36 => absurd c_36 (by decide)) (fun c_36 => ?_)
    refine ib_const hx hb dX1_take_39 ?_
    exact W.iret hx hb hr (fun t ht _ => ⟨rfl, by rw [ht]; exact hP, hS.F ht⟩) hS.2.2 dX1_take_40
  · skip
    refine lv_iload hx hb dX1_take_8 (lv_at hl 4 rfl) ?_
    refine rd_call (va_runS (As := [.int (iI z3)]) (rest := [.ref m0]) ⟨hx, hb, hml, hown, hts⟩ (mX1_isRow l z3 ⟨by omega, by omega⟩) (va_cwS 1 hts gX1_take_X1_isRow rfl rfl rfl hdX1_isRow ⟨Nat.le_of_ble_eq_true rfl, Nat.le_of_ble_eq_true rfl⟩) tt_pre rfl rfl hl.1 rfl (lv_room (Nat.le_of_ble_eq_true rfl)) dX1_take_10 ⟨Nat.le_of_ble_eq_true rfl, Nat.le_of_ble_eq_true rfl⟩) ?_
    refine bb_ne (tgt := 20) hx hb dX1_take_13 (by decide) (fun c_13 => ?_) (fun c_13 => ?_)
    · skip
      refine lv_iload_n hx hb dX1_take_20 rfl (lv_at hl 2 rfl) ?_
      refine lv_iload_n hx hb dX1_take_21 rfl (lv_at hl 3 rfl) ?_
      refine rd_call (va_runS (As := [.int (iI z1), .int (iI z2)]) (rest := [.ref m0]) ⟨hx, hb, hml, hown, hts⟩ (mX1_isForm l z1 z2 ⟨by omega, by omega⟩ ⟨by omega, by omega⟩) (va_cwS 2 hts gX1_take_X1_isForm rfl rfl rfl hdX1_isForm ⟨Nat.le_of_ble_eq_true rfl, Nat.le_of_ble_eq_true rfl⟩) tt_pre rfl rfl hl.1 rfl (lv_room (Nat.le_of_ble_eq_true rfl)) dX1_take_22 ⟨Nat.le_of_ble_eq_true rfl, Nat.le_of_ble_eq_true rfl⟩) ?_
      refine bb_eq (tgt := 32) hx hb dX1_take_25 (by decide) (fun c_25 => ?_) (fun c_25 => ?_)
      · skip
        refine ib_const hx hb dX1_take_32 ?_
        exfalso; omega
      · skip
        refine ib_const hx hb dX1_take_28 ?_
        refine lv_goto (tgt := 33) hx hb dX1_take_29 (by decide) ?_
        exfalso; omega
    · skip
      refine ib_const hx hb dX1_take_16 ?_
      refine lv_goto (tgt := 33) hx hb dX1_take_17 (by decide) ?_
      refine wr_call (va_runV (As := [.int (iI 1)]) (rest := []) ⟨hx, hb, hml, hown, hts⟩ (mX1_goesWell l dC dI cI m0 t0 k0 p0 a0 a1 K q th w h0 h1 hw hq 1 ⟨by omega, by omega⟩) (cwV 1 hts gX1_take_X1_goesWell rfl rfl rfl hvX1_goesWell ⟨Nat.le_of_ble_eq_true rfl, Nat.le_of_ble_eq_true rfl⟩) (bD_pre (ci := 1) (q0 := 0) hK hP hD rfl rfl rfl) rfl rfl hl.1 rfl (lv_room (Nat.le_of_ble_eq_true rfl)) dX1_take_33 ⟨Nat.le_of_ble_eq_true rfl, Nat.le_of_ble_eq_true rfl⟩) hS (fun q9 h => inW_same (w := [(m0, .inr (1, [.int th, .ref t0, .ref k0, .ref p0, .int (iI ((w : Nat) : Int))])), (t0, .inl (cI, 24, .inl (fun j => iI ((tb a0 a1 j : Nat) : Int)))), (k0, .inl (cI, 12, .inl (fun j => iI ((K j : Nat) : Int)))), (p0, .inl (cI, 12, .inl (fun j => iI ((q j : Nat) : Int))))]) (w' := [(m0, .inr (1, [.int th, .ref t0, .ref k0, .ref p0, .int (iI ((w : Nat) : Int))])), (t0, .inl (cI, 24, .inl (fun j => iI ((tb a0 a1 j : Nat) : Int)))), (k0, .inl (cI, 12, .inl (fun j => iI ((K j : Nat) : Int)))), (p0, .inl (cI, 12, .inl (fun j => iI ((q j : Nat) : Int))))]) rfl h) (fun H locs hP hz hk hS => ?_)
      have hD : va_D (inW [(m0, .inr (1, [.int th, .ref t0, .ref k0, .ref p0, .int (iI ((w : Nat) : Int))])), (t0, .inl (cI, 24, .inl (fun j => iI ((tb a0 a1 j : Nat) : Int)))), (k0, .inl (cI, 12, .inl (fun j => iI ((K j : Nat) : Int)))), (p0, .inl (cI, 12, .inl (fun j => iI ((q j : Nat) : Int))))]) [(m0, .inr (1, [.int (iI 1), .ref t0, .ref k0, .ref p0, .int (iI ((w : Nat) : Int))])), (t0, .inl (cI, 24, .inl (fun j => iI ((tb a0 a1 j : Nat) : Int)))), (k0, .inl (cI, 12, .inl (fun j => iI ((K j : Nat) : Int)))), (p0, .inl (cI, 12, .inl (fun j => iI ((q j : Nat) : Int))))] := va_D_same (w := [(m0, .inr (1, [.int th, .ref t0, .ref k0, .ref p0, .int (iI ((w : Nat) : Int))])), (t0, .inl (cI, 24, .inl (fun j => iI ((tb a0 a1 j : Nat) : Int)))), (k0, .inl (cI, 12, .inl (fun j => iI ((K j : Nat) : Int)))), (p0, .inl (cI, 12, .inl (fun j => iI ((q j : Nat) : Int))))]) rfl hD
      refine st_i (y := iI 0) (congrArg iI (bI_f (by decide))) ?_
      refine ib_if_ne (tgt := 41) hx hb dX1_take_36 (by decide) ⟨by omega, by omega⟩ (fun c_36 => absurd c_36 (by decide)) (fun c_36 => ?_)
      refine ib_const hx hb dX1_take_39 ?_
      exact W.iret hx hb hr (fun t ht _ => ⟨rfl, by rw [ht]; exact hP, hS.F ht⟩) hS.2.2 dX1_take_40

set_option maxHeartbeats 4000000 in
set_option maxRecDepth 100000 in
theorem mX1_take_x2 (l : Launch) (dC : Nat → ClassId) (dI : Nat → Nat → Nat) (cI : ClassId) (m0 t0 k0 p0 : Nat) (a0 a1 K q : Nat → Nat) (th : Int32) (w : Nat) (h0 : lt12 a0) (h1 : lt12 a1) (hw : w ≤ 12) (hq : ∀ i, i < w → q i < 12) (z0 z1 z2 z3 : Int) (hz0 : inI z0) (hz1 : inI z1) (hz2 : inI z2) (hz3 : inI z3) (hbad : ((z0 = 0 ∨ z0 = 1) ∧ (z3 = 0 ∨ z3 = 1)) ∧ ¬ (0 ≤ z1 ∧ z1 ≤ 3 ∧ 0 ≤ z2 ∧ z2 ≤ 11)) : wr l yX1_take wsX1_take { frames := 3, cells := 0, slots := 0, locals := 63 } [.ref m0, .int (iI z0), .int (iI z1), .int (iI z2), .int (iI z3)] (dC, dI) [(m0, .inr (1, [.int th, .ref t0, .ref k0, .ref p0, .int (iI ((w : Nat) : Int))])), (t0, .inl (cI, 24, .inl (fun j => iI ((tb a0 a1 j : Nat) : Int)))), (k0, .inl (cI, 12, .inl (fun j => iI ((K j : Nat) : Int)))), (p0, .inl (cI, 12, .inl (fun j => iI ((q j : Nat) : Int))))] [(cI, .int)] [(m0, .inr (1, [.int (iI 2), .ref t0, .ref k0, .ref p0, .int (iI ((w : Nat) : Int))])), (t0, .inl (cI, 24, .inl (fun j => iI ((tb a0 a1 j : Nat) : Int)))), (k0, .inl (cI, 12, .inl (fun j => iI ((K j : Nat) : Int)))), (p0, .inl (cI, 12, .inl (fun j => iI ((q j : Nat) : Int))))] (some (.int (iI 0))) := by
  refine Met.ofW (cc := cX1_take) (maxL := 6) (ret := (some .int)) (by decide) rfl ?_
  intro P0 e s m args below meth c s₁ B hml hv
  obtain ⟨rfl, hP, hK, hD0⟩ := hv
  have hx := B.exec
  have hb := B.bytes
  have hr := B.returns
  have hts := atoms_spec (ws := wsX1_take) B.pre
  have hown : s.vm.findClass RX1 = some m.cls := findClass_of_methodNamed B.named
  have hlocks := B.notSynchronized
  have hinX : ∀ w ∈ u_ws RX1 TX1 5, w ∈ wsX1_take := by decide +kernel
  have hD : va_D (inW [(m0, .inr (1, [.int th, .ref t0, .ref k0, .ref p0, .int (iI ((w : Nat) : Int))])), (t0, .inl (cI, 24, .inl (fun j => iI ((tb a0 a1 j : Nat) : Int)))), (k0, .inl (cI, 12, .inl (fun j => iI ((K j : Nat) : Int)))), (p0, .inl (cI, 12, .inl (fun j => iI ((q j : Nat) : Int))))]) [(m0, .inr (1, [.int th, .ref t0, .ref k0, .ref p0, .int (iI ((w : Nat) : Int))])), (t0, .inl (cI, 24, .inl (fun j => iI ((tb a0 a1 j : Nat) : Int)))), (k0, .inl (cI, 12, .inl (fun j => iI ((K j : Nat) : Int)))), (p0, .inl (cI, 12, .inl (fun j => iI ((q j : Nat) : Int))))] := va_D_in hD0
  have hS : va_S (inW [(m0, .inr (1, [.int th, .ref t0, .ref k0, .ref p0, .int (iI ((w : Nat) : Int))])), (t0, .inl (cI, 24, .inl (fun j => iI ((tb a0 a1 j : Nat) : Int)))), (k0, .inl (cI, 12, .inl (fun j => iI ((K j : Nat) : Int)))), (p0, .inl (cI, 12, .inl (fun j => iI ((q j : Nat) : Int))))]) s.heap s.heap [] := va_S.rf
  have hl := lv_entry ([.ref m0, .int (iI z0), .int (iI z1), .int (iI z2), .int (iI z3)]) (n := 6) (Nat.le_of_ble_eq_true rfl)
  rw [lg_entry_eq]
  generalize (lg_sl ([.ref m0, .int (iI z0), .int (iI z1), .int (iI z2), .int (iI z3)]) ++ List.replicate (6 - (lg_sl ([.ref m0, .int (iI z0), .int (iI z1), .int (iI z2), .int (iI z3)])).length) Slot.unset).toArray = ls at hl ⊢
  have hl : lv_has ls 6 [(0, .ref m0), (1, .int (iI z0)), (2, .int (iI z1)), (3, .int (iI z2)), (4, .int (iI z3))] := hl
  have hza0 := hz0.1
  have hza1 := hz1.1
  have hza2 := hz2.1
  have hza3 := hz3.1
  have hzb0 := hz0.2
  have hzb1 := hz1.2
  have hzb2 := hz2.2
  have hzb3 := hz3.2
  refine lv_aload_n hx hb dX1_take_0 rfl (lv_at hl 0 rfl) ?_
  refine lv_iload_n hx hb dX1_take_1 rfl (lv_at hl 1 rfl) ?_
  refine rd_call (va_runS (As := [.int (iI z0)]) (rest := [.ref m0]) ⟨hx, hb, hml, hown, hts⟩ (mX1_isRow l z0 ⟨by omega, by omega⟩) (va_cwS 1 hts gX1_take_X1_isRow rfl rfl rfl hdX1_isRow ⟨Nat.le_of_ble_eq_true rfl, Nat.le_of_ble_eq_true rfl⟩) tt_pre rfl rfl hl.1 rfl (lv_room (Nat.le_of_ble_eq_true rfl)) dX1_take_2 ⟨Nat.le_of_ble_eq_true rfl, Nat.le_of_ble_eq_true rfl⟩) ?_
  refine bb_eq (tgt := 16) hx hb dX1_take_5 (by decide) (fun c_5 => ?_) (fun c_5 => ?_)
  · skip
    refine ib_const hx hb dX1_take_16 ?_
    refine lv_goto (tgt := 33) hx hb dX1_take_17 (by decide) ?_
    exfalso; omega
  · skip
    refine lv_iload hx hb dX1_take_8 (lv_at hl 4 rfl) ?_
    refine rd_call (va_runS (As := [.int (iI z3)]) (rest := [.ref m0]) ⟨hx, hb, hml, hown, hts⟩ (mX1_isRow l z3 ⟨by omega, by omega⟩) (va_cwS 1 hts gX1_take_X1_isRow rfl rfl rfl hdX1_isRow ⟨Nat.le_of_ble_eq_true rfl, Nat.le_of_ble_eq_true rfl⟩) tt_pre rfl rfl hl.1 rfl (lv_room (Nat.le_of_ble_eq_true rfl)) dX1_take_10 ⟨Nat.le_of_ble_eq_true rfl, Nat.le_of_ble_eq_true rfl⟩) ?_
    refine bb_ne (tgt := 20) hx hb dX1_take_13 (by decide) (fun c_13 => ?_) (fun c_13 => ?_)
    · skip
      refine lv_iload_n hx hb dX1_take_20 rfl (lv_at hl 2 rfl) ?_
      refine lv_iload_n hx hb dX1_take_21 rfl (lv_at hl 3 rfl) ?_
      refine rd_call (va_runS (As := [.int (iI z1), .int (iI z2)]) (rest := [.ref m0]) ⟨hx, hb, hml, hown, hts⟩ (mX1_isForm l z1 z2 ⟨by omega, by omega⟩ ⟨by omega, by omega⟩) (va_cwS 2 hts gX1_take_X1_isForm rfl rfl rfl hdX1_isForm ⟨Nat.le_of_ble_eq_true rfl, Nat.le_of_ble_eq_true rfl⟩) tt_pre rfl rfl hl.1 rfl (lv_room (Nat.le_of_ble_eq_true rfl)) dX1_take_22 ⟨Nat.le_of_ble_eq_true rfl, Nat.le_of_ble_eq_true rfl⟩) ?_
      refine bb_eq (tgt := 32) hx hb dX1_take_25 (by decide) (fun c_25 => ?_) (fun c_25 => ?_)
      · skip
        refine ib_const hx hb dX1_take_32 ?_
        refine wr_call (va_runV (As := [.int (iI 2)]) (rest := []) ⟨hx, hb, hml, hown, hts⟩ (mX1_goesWell l dC dI cI m0 t0 k0 p0 a0 a1 K q th w h0 h1 hw hq 2 ⟨by omega, by omega⟩) (cwV 1 hts gX1_take_X1_goesWell rfl rfl rfl hvX1_goesWell ⟨Nat.le_of_ble_eq_true rfl, Nat.le_of_ble_eq_true rfl⟩) (bD_pre (ci := 1) (q0 := 0) hK hP hD rfl rfl rfl) rfl rfl hl.1 rfl (lv_room (Nat.le_of_ble_eq_true rfl)) dX1_take_33 ⟨Nat.le_of_ble_eq_true rfl, Nat.le_of_ble_eq_true rfl⟩) hS (fun q9 h => inW_same (w := [(m0, .inr (1, [.int th, .ref t0, .ref k0, .ref p0, .int (iI ((w : Nat) : Int))])), (t0, .inl (cI, 24, .inl (fun j => iI ((tb a0 a1 j : Nat) : Int)))), (k0, .inl (cI, 12, .inl (fun j => iI ((K j : Nat) : Int)))), (p0, .inl (cI, 12, .inl (fun j => iI ((q j : Nat) : Int))))]) (w' := [(m0, .inr (1, [.int th, .ref t0, .ref k0, .ref p0, .int (iI ((w : Nat) : Int))])), (t0, .inl (cI, 24, .inl (fun j => iI ((tb a0 a1 j : Nat) : Int)))), (k0, .inl (cI, 12, .inl (fun j => iI ((K j : Nat) : Int)))), (p0, .inl (cI, 12, .inl (fun j => iI ((q j : Nat) : Int))))]) rfl h) (fun H locs hP hz hk hS => ?_)
        have hD : va_D (inW [(m0, .inr (1, [.int th, .ref t0, .ref k0, .ref p0, .int (iI ((w : Nat) : Int))])), (t0, .inl (cI, 24, .inl (fun j => iI ((tb a0 a1 j : Nat) : Int)))), (k0, .inl (cI, 12, .inl (fun j => iI ((K j : Nat) : Int)))), (p0, .inl (cI, 12, .inl (fun j => iI ((q j : Nat) : Int))))]) [(m0, .inr (1, [.int (iI 2), .ref t0, .ref k0, .ref p0, .int (iI ((w : Nat) : Int))])), (t0, .inl (cI, 24, .inl (fun j => iI ((tb a0 a1 j : Nat) : Int)))), (k0, .inl (cI, 12, .inl (fun j => iI ((K j : Nat) : Int)))), (p0, .inl (cI, 12, .inl (fun j => iI ((q j : Nat) : Int))))] := va_D_same (w := [(m0, .inr (1, [.int th, .ref t0, .ref k0, .ref p0, .int (iI ((w : Nat) : Int))])), (t0, .inl (cI, 24, .inl (fun j => iI ((tb a0 a1 j : Nat) : Int)))), (k0, .inl (cI, 12, .inl (fun j => iI ((K j : Nat) : Int)))), (p0, .inl (cI, 12, .inl (fun j => iI ((q j : Nat) : Int))))]) rfl hD
        refine st_i (y := iI 0) (congrArg iI (bI_f (by decide))) ?_
        refine ib_if_ne (tgt := 41) hx hb dX1_take_36 (by decide) ⟨by omega, by omega⟩ (fun c_36 => absurd c_36 (by decide)) (fun c_36 => ?_)
        refine ib_const hx hb dX1_take_39 ?_
        exact W.iret hx hb hr (fun t ht _ => ⟨rfl, by rw [ht]; exact hP, hS.F ht⟩) hS.2.2 dX1_take_40
      · skip
        refine ib_const hx hb dX1_take_28 ?_
        refine lv_goto (tgt := 33) hx hb dX1_take_29 (by decide) ?_
        exfalso; omega
    · skip
      refine ib_const hx hb dX1_take_16 ?_
      refine lv_goto (tgt := 33) hx hb dX1_take_17 (by decide) ?_
      exfalso; omega

set_option maxHeartbeats 4000000 in
set_option maxRecDepth 100000 in
theorem mX1_multiply_ok (l : Launch) (dC : Nat → ClassId) (dI : Nat → Nat → Nat) (cI : ClassId) (m0 t0 k0 p0 : Nat) (a0 a1 K q : Nat → Nat) (th : Int32) (w : Nat) (h0 : lt12 a0) (h1 : lt12 a1) (hw : w ≤ 12) (hq : ∀ i, i < w → q i < 12) (r f : Nat) (hr9 : r < 2) (hf : f = 1 ∨ f = 5 ∨ f = 7 ∨ f = 11) : wr l yX1_multiply wsX1_multiply { frames := 2, cells := 0, slots := 0, locals := 44 } [.ref m0, .int (iI ((r : Nat) : Int)), .int (iI ((f : Nat) : Int))] (dC, dI) [(m0, .inr (1, [.int th, .ref t0, .ref k0, .ref p0, .int (iI ((w : Nat) : Int))])), (t0, .inl (cI, 24, .inl (fun j => iI ((tb a0 a1 j : Nat) : Int)))), (k0, .inl (cI, 12, .inl (fun j => iI ((K j : Nat) : Int)))), (p0, .inl (cI, 12, .inl (fun j => iI ((q j : Nat) : Int))))] [(cI, .int)] [(m0, .inr (1, [.int (iI 0), .ref t0, .ref k0, .ref p0, .int (iI ((w : Nat) : Int))])), (t0, .inl (cI, 24, .inl (fun j => iI ((tb (sr0 r (mulF (rw_ r a0 a1) f) a0) (sr1 r (mulF (rw_ r a0 a1) f) a1) j : Nat) : Int)))), (k0, .inl (cI, 12, .inl (fun j => iI (((mx (mulF (rw_ r a0 a1) f) K 12) j : Nat) : Int)))), (p0, .inl (cI, 12, .inl (fun j => iI ((q j : Nat) : Int))))] (some (.int (iI ((mulF (rw_ r a0 a1) f 0 : Nat) : Int)))) := by
  refine Met.ofW (cc := cX1_multiply) (maxL := 5) (ret := (some .int)) (by decide) rfl ?_
  intro P0 e s m args below meth c s₁ B hml hv
  obtain ⟨rfl, hP, hK, hD0⟩ := hv
  have hx := B.exec
  have hb := B.bytes
  have hr := B.returns
  have hts := atoms_spec (ws := wsX1_multiply) B.pre
  have hown : s.vm.findClass RX1 = some m.cls := findClass_of_methodNamed B.named
  have hlocks := B.notSynchronized
  have hinX : ∀ w ∈ u_ws RX1 TX1 5, w ∈ wsX1_multiply := by decide +kernel
  have hD : va_D (inW [(m0, .inr (1, [.int th, .ref t0, .ref k0, .ref p0, .int (iI ((w : Nat) : Int))])), (t0, .inl (cI, 24, .inl (fun j => iI ((tb a0 a1 j : Nat) : Int)))), (k0, .inl (cI, 12, .inl (fun j => iI ((K j : Nat) : Int)))), (p0, .inl (cI, 12, .inl (fun j => iI ((q j : Nat) : Int))))]) [(m0, .inr (1, [.int th, .ref t0, .ref k0, .ref p0, .int (iI ((w : Nat) : Int))])), (t0, .inl (cI, 24, .inl (fun j => iI ((tb a0 a1 j : Nat) : Int)))), (k0, .inl (cI, 12, .inl (fun j => iI ((K j : Nat) : Int)))), (p0, .inl (cI, 12, .inl (fun j => iI ((q j : Nat) : Int))))] := va_D_in hD0
  have hS : va_S (inW [(m0, .inr (1, [.int th, .ref t0, .ref k0, .ref p0, .int (iI ((w : Nat) : Int))])), (t0, .inl (cI, 24, .inl (fun j => iI ((tb a0 a1 j : Nat) : Int)))), (k0, .inl (cI, 12, .inl (fun j => iI ((K j : Nat) : Int)))), (p0, .inl (cI, 12, .inl (fun j => iI ((q j : Nat) : Int))))]) s.heap s.heap [] := va_S.rf
  have hl := lv_entry ([.ref m0, .int (iI ((r : Nat) : Int)), .int (iI ((f : Nat) : Int))]) (n := 5) (Nat.le_of_ble_eq_true rfl)
  rw [lg_entry_eq]
  generalize (lg_sl ([.ref m0, .int (iI ((r : Nat) : Int)), .int (iI ((f : Nat) : Int))]) ++ List.replicate (5 - (lg_sl ([.ref m0, .int (iI ((r : Nat) : Int)), .int (iI ((f : Nat) : Int))])).length) Slot.unset).toArray = ls at hl ⊢
  have hl : lv_has ls 5 [(0, .ref m0), (1, .int (iI ((r : Nat) : Int))), (2, .int (iI ((f : Nat) : Int)))] := hl
  have hf9 : f ≤ 11 := by omega
  rcases hf with hf | hf | hf | hf
  · skip
    refine lv_iload_n hx hb dX1_multiply_0 rfl (lv_at hl 2 rfl) ?_
    refine ib_const hx hb dX1_multiply_1 ?_
    refine ib_icmp_eq (tgt := 22) hx hb dX1_multiply_2 (by decide) ⟨by omega, by omega⟩ ⟨by omega, by omega⟩ (fun c_2 => ?_) (fun c_2 => absurd c_2 (by omega))
    refine ib_const hx hb dX1_multiply_22 ?_
    refine lv_goto (tgt := 27) hx hb dX1_multiply_23 (by decide) ?_
    refine lv_istore_n (lv' := [(3, .int (iI 1)), (0, .ref m0), (1, .int (iI ((r : Nat) : Int))), (2, .int (iI ((f : Nat) : Int)))]) hx hb dX1_multiply_27 rfl hl (by decide) rfl (fun ls hl => ?_)
    refine lv_aload_n hx hb dX1_multiply_28 rfl (lv_at hl 1 rfl) ?_
    refine lv_iload_n hx hb dX1_multiply_29 rfl (lv_at hl 2 rfl) ?_
    refine rd_call (va_runS (As := [.int (iI ((r : Nat) : Int))]) (rest := [.ref m0]) ⟨hx, hb, hml, hown, hts⟩ (mX1_isRow l ((r : Nat) : Int) ⟨by omega, by omega⟩) (va_cwS 1 hts gX1_multiply_X1_isRow rfl rfl rfl hdX1_isRow ⟨Nat.le_of_ble_eq_true rfl, Nat.le_of_ble_eq_true rfl⟩) tt_pre rfl rfl hl.1 rfl (lv_room (Nat.le_of_ble_eq_true rfl)) dX1_multiply_30 ⟨Nat.le_of_ble_eq_true rfl, Nat.le_of_ble_eq_true rfl⟩) ?_
    refine bb_ne (tgt := 40) hx hb dX1_multiply_33 (by decide) (fun c_33 => ?_) (fun c_33 => absurd c_33 (by omega))
    refine lv_iload_n hx hb dX1_multiply_40 rfl (lv_at hl 0 rfl) ?_
    refine ib_if_eq (tgt := 48) hx hb dX1_multiply_41 (by decide) ⟨by omega, by omega⟩ (fun c_41 => absurd c_41 (by decide)) (fun c_41 => ?_)
    refine ib_const hx hb dX1_multiply_44 ?_
    refine lv_goto (tgt := 49) hx hb dX1_multiply_45 (by decide) ?_
    refine wr_call (va_runV (As := [.int (iI 0)]) (rest := []) ⟨hx, hb, hml, hown, hts⟩ (mX1_goesWell l dC dI cI m0 t0 k0 p0 a0 a1 K q th w h0 h1 hw hq 0 ⟨by omega, by omega⟩) (cwV 1 hts gX1_multiply_X1_goesWell rfl rfl rfl hvX1_goesWell ⟨Nat.le_of_ble_eq_true rfl, Nat.le_of_ble_eq_true rfl⟩) (bD_pre (ci := 1) (q0 := 0) hK hP hD rfl rfl rfl) rfl rfl hl.1 rfl (lv_room (Nat.le_of_ble_eq_true rfl)) dX1_multiply_49 ⟨Nat.le_of_ble_eq_true rfl, Nat.le_of_ble_eq_true rfl⟩) hS (fun q9 h => inW_same (w := [(m0, .inr (1, [.int th, .ref t0, .ref k0, .ref p0, .int (iI ((w : Nat) : Int))])), (t0, .inl (cI, 24, .inl (fun j => iI ((tb a0 a1 j : Nat) : Int)))), (k0, .inl (cI, 12, .inl (fun j => iI ((K j : Nat) : Int)))), (p0, .inl (cI, 12, .inl (fun j => iI ((q j : Nat) : Int))))]) (w' := [(m0, .inr (1, [.int th, .ref t0, .ref k0, .ref p0, .int (iI ((w : Nat) : Int))])), (t0, .inl (cI, 24, .inl (fun j => iI ((tb a0 a1 j : Nat) : Int)))), (k0, .inl (cI, 12, .inl (fun j => iI ((K j : Nat) : Int)))), (p0, .inl (cI, 12, .inl (fun j => iI ((q j : Nat) : Int))))]) rfl h) (fun H locs hP hz hk hS => ?_)
    have hD : va_D (inW [(m0, .inr (1, [.int th, .ref t0, .ref k0, .ref p0, .int (iI ((w : Nat) : Int))])), (t0, .inl (cI, 24, .inl (fun j => iI ((tb a0 a1 j : Nat) : Int)))), (k0, .inl (cI, 12, .inl (fun j => iI ((K j : Nat) : Int)))), (p0, .inl (cI, 12, .inl (fun j => iI ((q j : Nat) : Int))))]) [(m0, .inr (1, [.int (iI 0), .ref t0, .ref k0, .ref p0, .int (iI ((w : Nat) : Int))])), (t0, .inl (cI, 24, .inl (fun j => iI ((tb a0 a1 j : Nat) : Int)))), (k0, .inl (cI, 12, .inl (fun j => iI ((K j : Nat) : Int)))), (p0, .inl (cI, 12, .inl (fun j => iI ((q j : Nat) : Int))))] := va_D_same (w := [(m0, .inr (1, [.int th, .ref t0, .ref k0, .ref p0, .int (iI ((w : Nat) : Int))])), (t0, .inl (cI, 24, .inl (fun j => iI ((tb a0 a1 j : Nat) : Int)))), (k0, .inl (cI, 12, .inl (fun j => iI ((K j : Nat) : Int)))), (p0, .inl (cI, 12, .inl (fun j => iI ((q j : Nat) : Int))))]) rfl hD
    refine st_i (y := iI 1) (congrArg iI (bI_t (by decide))) ?_
    refine ib_if_ne (tgt := 57) hx hb dX1_multiply_52 (by decide) ⟨by omega, by omega⟩ (fun c_52 => ?_) (fun c_52 => absurd c_52 (by decide))
    refine ib_const hx hb dX1_multiply_57 ?_
    refine lv_istore (lv' := [(4, .int (iI 0)), (3, .int (iI 1)), (0, .ref m0), (1, .int (iI ((r : Nat) : Int))), (2, .int (iI ((f : Nat) : Int)))]) hx hb dX1_multiply_58 hl (by decide) rfl (fun ls hl => ?_)
    have hP : va_P (dC, dI) vwCl [(m0, .inr (1, [.int (iI 0), .ref t0, .ref k0, .ref p0, .int (iI ((w : Nat) : Int))])), (t0, .inl (cI, 24, .inl (fun j => iI ((tb a0 a1 j : Nat) : Int)))), (k0, .inl (cI, 12, .inl (fun j => iI (((mx (mulF (rw_ r a0 a1) f) K 0) j : Nat) : Int)))), (p0, .inl (cI, 12, .inl (fun j => iI ((q j : Nat) : Int))))] H := va_P_arr (q0 := 2) (f := fun j => iI ((K j : Nat) : Int)) (g := fun j => iI (((mx (mulF (rw_ r a0 a1) f) K 0) j : Nat) : Int)) (fun j hj => by rw [mx_0]) rfl hP
    have hD : va_D (inW [(m0, .inr (1, [.int th, .ref t0, .ref k0, .ref p0, .int (iI ((w : Nat) : Int))])), (t0, .inl (cI, 24, .inl (fun j => iI ((tb a0 a1 j : Nat) : Int)))), (k0, .inl (cI, 12, .inl (fun j => iI ((K j : Nat) : Int)))), (p0, .inl (cI, 12, .inl (fun j => iI ((q j : Nat) : Int))))]) [(m0, .inr (1, [.int (iI 0), .ref t0, .ref k0, .ref p0, .int (iI ((w : Nat) : Int))])), (t0, .inl (cI, 24, .inl (fun j => iI ((tb a0 a1 j : Nat) : Int)))), (k0, .inl (cI, 12, .inl (fun j => iI (((mx (mulF (rw_ r a0 a1) f) K 0) j : Nat) : Int)))), (p0, .inl (cI, 12, .inl (fun j => iI ((q j : Nat) : Int))))] := va_D_same (w := [(m0, .inr (1, [.int (iI 0), .ref t0, .ref k0, .ref p0, .int (iI ((w : Nat) : Int))])), (t0, .inl (cI, 24, .inl (fun j => iI ((tb a0 a1 j : Nat) : Int)))), (k0, .inl (cI, 12, .inl (fun j => iI ((K j : Nat) : Int)))), (p0, .inl (cI, 12, .inl (fun j => iI ((q j : Nat) : Int))))]) rfl hD
    have lp_60_1 : ∀ (j n : Nat), n + j = 12 → ∀ (H : Heap) (locs : List Loc), va_P (dC, dI) vwCl [(m0, .inr (1, [.int (iI 0), .ref t0, .ref k0, .ref p0, .int (iI ((w : Nat) : Int))])), (t0, .inl (cI, 24, .inl (fun j => iI ((tb a0 a1 j : Nat) : Int)))), (k0, .inl (cI, 12, .inl (fun j => iI (((mx (mulF (rw_ r a0 a1) f) K n) j : Nat) : Int)))), (p0, .inl (cI, 12, .inl (fun j => iI ((q j : Nat) : Int))))] H → va_D (inW [(m0, .inr (1, [.int th, .ref t0, .ref k0, .ref p0, .int (iI ((w : Nat) : Int))])), (t0, .inl (cI, 24, .inl (fun j => iI ((tb a0 a1 j : Nat) : Int)))), (k0, .inl (cI, 12, .inl (fun j => iI ((K j : Nat) : Int)))), (p0, .inl (cI, 12, .inl (fun j => iI ((q j : Nat) : Int))))]) [(m0, .inr (1, [.int (iI 0), .ref t0, .ref k0, .ref p0, .int (iI ((w : Nat) : Int))])), (t0, .inl (cI, 24, .inl (fun j => iI ((tb a0 a1 j : Nat) : Int)))), (k0, .inl (cI, 12, .inl (fun j => iI (((mx (mulF (rw_ r a0 a1) f) K n) j : Nat) : Int)))), (p0, .inl (cI, 12, .inl (fun j => iI ((q j : Nat) : Int))))] → va_S (inW [(m0, .inr (1, [.int th, .ref t0, .ref k0, .ref p0, .int (iI ((w : Nat) : Int))])), (t0, .inl (cI, 24, .inl (fun j => iI ((tb a0 a1 j : Nat) : Int)))), (k0, .inl (cI, 12, .inl (fun j => iI ((K j : Nat) : Int)))), (p0, .inl (cI, 12, .inl (fun j => iI ((q j : Nat) : Int))))]) s.heap H locs → ∀ ls : Array Slot, lv_has ls 5 [(0, .ref m0), (1, .int (iI ((r : Nat) : Int))), (2, .int (iI ((f : Nat) : Int))), (4, .int (iI ((n : Nat) : Int)))] → W P0 l e (headSpec wsX1_multiply { frames := 2, cells := 0, slots := 0, locals := 44 }).room s m ([.ref m0, .int (iI ((r : Nat) : Int)), .int (iI ((f : Nat) : Int))] : List Value).toArray below meth c H locs 0 0 (MQ below (wrQ (dC, dI) (inW [(m0, .inr (1, [.int th, .ref t0, .ref k0, .ref p0, .int (iI ((w : Nat) : Int))])), (t0, .inl (cI, 24, .inl (fun j => iI ((tb a0 a1 j : Nat) : Int)))), (k0, .inl (cI, 12, .inl (fun j => iI ((K j : Nat) : Int)))), (p0, .inl (cI, 12, .inl (fun j => iI ((q j : Nat) : Int))))]) [(m0, .inr (1, [.int (iI 0), .ref t0, .ref k0, .ref p0, .int (iI ((w : Nat) : Int))])), (t0, .inl (cI, 24, .inl (fun j => iI ((tb (sr0 r (mulF (rw_ r a0 a1) f) a0) (sr1 r (mulF (rw_ r a0 a1) f) a1) j : Nat) : Int)))), (k0, .inl (cI, 12, .inl (fun j => iI (((mx (mulF (rw_ r a0 a1) f) K 12) j : Nat) : Int)))), (p0, .inl (cI, 12, .inl (fun j => iI ((q j : Nat) : Int))))] (some (.int (iI ((mulF (rw_ r a0 a1) f 0 : Nat) : Int))))) ([.ref m0, .int (iI ((r : Nat) : Int)), .int (iI ((f : Nat) : Int))] : List Value).toArray s 0 0 (inW [(m0, .inr (1, [.int th, .ref t0, .ref k0, .ref p0, .int (iI ((w : Nat) : Int))])), (t0, .inl (cI, 24, .inl (fun j => iI ((tb a0 a1 j : Nat) : Int)))), (k0, .inl (cI, 12, .inl (fun j => iI ((K j : Nat) : Int)))), (p0, .inl (cI, 12, .inl (fun j => iI ((q j : Nat) : Int))))])) (F0 m 60 ls []) := by
      intro j
      induction j with
      | zero =>
        intro n hn_60  H locs hP hD hS ls hl
        have hK12 : lt12 (mx (mulF (rw_ r a0 a1) f) K 12) := fun j hj => by rw [mx_in hj]; exact mulF_lt _ _ j hj
        refine lv_iload hx hb dX1_multiply_60 (lv_at hl 3 rfl) ?_
        refine ib_bi hx hb dX1_multiply_62 (by decide) ?_
        refine ib_icmp_ge (tgt := 92) hx hb dX1_multiply_64 (by decide) ⟨by omega, by omega⟩ ⟨by omega, by omega⟩ (fun c_64 => ?_) (fun c_64 => absurd c_64 (by omega))
        have hP : va_P (dC, dI) vwCl [(m0, .inr (1, [.int (iI 0), .ref t0, .ref k0, .ref p0, .int (iI ((w : Nat) : Int))])), (t0, .inl (cI, 24, .inl (fun j => iI ((tb a0 a1 j : Nat) : Int)))), (k0, .inl (cI, 12, .inl (fun j => iI (((mx (mulF (rw_ r a0 a1) f) K 12) j : Nat) : Int)))), (p0, .inl (cI, 12, .inl (fun j => iI ((q j : Nat) : Int))))] H := va_P_arr (q0 := 2) (f := fun j => iI (((mx (mulF (rw_ r a0 a1) f) K n) j : Nat) : Int)) (g := fun j => iI (((mx (mulF (rw_ r a0 a1) f) K 12) j : Nat) : Int)) (fun j hj => by rw [show n = 12 by omega]) rfl hP
        have hD : va_D (inW [(m0, .inr (1, [.int th, .ref t0, .ref k0, .ref p0, .int (iI ((w : Nat) : Int))])), (t0, .inl (cI, 24, .inl (fun j => iI ((tb a0 a1 j : Nat) : Int)))), (k0, .inl (cI, 12, .inl (fun j => iI ((K j : Nat) : Int)))), (p0, .inl (cI, 12, .inl (fun j => iI ((q j : Nat) : Int))))]) [(m0, .inr (1, [.int (iI 0), .ref t0, .ref k0, .ref p0, .int (iI ((w : Nat) : Int))])), (t0, .inl (cI, 24, .inl (fun j => iI ((tb a0 a1 j : Nat) : Int)))), (k0, .inl (cI, 12, .inl (fun j => iI (((mx (mulF (rw_ r a0 a1) f) K 12) j : Nat) : Int)))), (p0, .inl (cI, 12, .inl (fun j => iI ((q j : Nat) : Int))))] := va_D_same (w := [(m0, .inr (1, [.int (iI 0), .ref t0, .ref k0, .ref p0, .int (iI ((w : Nat) : Int))])), (t0, .inl (cI, 24, .inl (fun j => iI ((tb a0 a1 j : Nat) : Int)))), (k0, .inl (cI, 12, .inl (fun j => iI (((mx (mulF (rw_ r a0 a1) f) K n) j : Nat) : Int)))), (p0, .inl (cI, 12, .inl (fun j => iI ((q j : Nat) : Int))))]) rfl hD
        refine lv_aload_n hx hb dX1_multiply_92 rfl (lv_at hl 0 rfl) ?_
        refine lv_iload_n hx hb dX1_multiply_93 rfl (lv_at hl 1 rfl) ?_
        refine wr_call (va_runV (As := [.int (iI ((r : Nat) : Int))]) (rest := []) ⟨hx, hb, hml, hown, hts⟩ (mX1_lay l dC dI cI m0 t0 k0 p0 a0 a1 (mx (mulF (rw_ r a0 a1) f) K 12) q (iI 0) w h0 h1 hw hq r (by omega) hK12) (cwV 1 hts gX1_multiply_X1_lay rfl rfl rfl hvX1_lay ⟨Nat.le_of_ble_eq_true rfl, Nat.le_of_ble_eq_true rfl⟩) (bD_pre (ci := 1) (q0 := 0) hK hP hD rfl rfl rfl) rfl rfl hl.1 rfl (lv_room (Nat.le_of_ble_eq_true rfl)) dX1_multiply_94 ⟨Nat.le_of_ble_eq_true rfl, Nat.le_of_ble_eq_true rfl⟩) hS (fun q9 h => inW_same (w := [(m0, .inr (1, [.int (iI 0), .ref t0, .ref k0, .ref p0, .int (iI ((w : Nat) : Int))])), (t0, .inl (cI, 24, .inl (fun j => iI ((tb a0 a1 j : Nat) : Int)))), (k0, .inl (cI, 12, .inl (fun j => iI (((mx (mulF (rw_ r a0 a1) f) K 12) j : Nat) : Int)))), (p0, .inl (cI, 12, .inl (fun j => iI ((q j : Nat) : Int))))]) (w' := [(m0, .inr (1, [.int th, .ref t0, .ref k0, .ref p0, .int (iI ((w : Nat) : Int))])), (t0, .inl (cI, 24, .inl (fun j => iI ((tb a0 a1 j : Nat) : Int)))), (k0, .inl (cI, 12, .inl (fun j => iI ((K j : Nat) : Int)))), (p0, .inl (cI, 12, .inl (fun j => iI ((q j : Nat) : Int))))]) rfl h) (fun H locs hP hz hk hS => ?_)
        have hD : va_D (inW [(m0, .inr (1, [.int th, .ref t0, .ref k0, .ref p0, .int (iI ((w : Nat) : Int))])), (t0, .inl (cI, 24, .inl (fun j => iI ((tb a0 a1 j : Nat) : Int)))), (k0, .inl (cI, 12, .inl (fun j => iI ((K j : Nat) : Int)))), (p0, .inl (cI, 12, .inl (fun j => iI ((q j : Nat) : Int))))]) [(m0, .inr (1, [.int (iI 0), .ref t0, .ref k0, .ref p0, .int (iI ((w : Nat) : Int))])), (t0, .inl (cI, 24, .inl (fun j => iI ((tb (sr0 r (mx (mulF (rw_ r a0 a1) f) K 12) a0) (sr1 r (mx (mulF (rw_ r a0 a1) f) K 12) a1) j : Nat) : Int)))), (k0, .inl (cI, 12, .inl (fun j => iI (((mx (mulF (rw_ r a0 a1) f) K 12) j : Nat) : Int)))), (p0, .inl (cI, 12, .inl (fun j => iI ((q j : Nat) : Int))))] := va_D_same (w := [(m0, .inr (1, [.int (iI 0), .ref t0, .ref k0, .ref p0, .int (iI ((w : Nat) : Int))])), (t0, .inl (cI, 24, .inl (fun j => iI ((tb a0 a1 j : Nat) : Int)))), (k0, .inl (cI, 12, .inl (fun j => iI (((mx (mulF (rw_ r a0 a1) f) K 12) j : Nat) : Int)))), (p0, .inl (cI, 12, .inl (fun j => iI ((q j : Nat) : Int))))]) rfl hD
        refine st_i (y := iI (((mulF (rw_ r a0 a1) f) 0 : Nat) : Int)) (congrArg (fun z : Nat => iI ((z : Nat) : Int)) (mx_in (by decide))) ?_
        have hP : va_P (dC, dI) vwCl [(m0, .inr (1, [.int (iI 0), .ref t0, .ref k0, .ref p0, .int (iI ((w : Nat) : Int))])), (t0, .inl (cI, 24, .inl (fun j => iI ((tb (sr0 r (mulF (rw_ r a0 a1) f) a0) (sr1 r (mulF (rw_ r a0 a1) f) a1) j : Nat) : Int)))), (k0, .inl (cI, 12, .inl (fun j => iI (((mx (mulF (rw_ r a0 a1) f) K 12) j : Nat) : Int)))), (p0, .inl (cI, 12, .inl (fun j => iI ((q j : Nat) : Int))))] H := va_P_arr (q0 := 1) (f := fun j => iI ((tb (sr0 r (mx (mulF (rw_ r a0 a1) f) K 12) a0) (sr1 r (mx (mulF (rw_ r a0 a1) f) K 12) a1) j : Nat) : Int)) (g := fun j => iI ((tb (sr0 r (mulF (rw_ r a0 a1) f) a0) (sr1 r (mulF (rw_ r a0 a1) f) a1) j : Nat) : Int)) (fun j hj => tb_cg (fun i hi => mx_in hi) hj) rfl hP
        have hD : va_D (inW [(m0, .inr (1, [.int th, .ref t0, .ref k0, .ref p0, .int (iI ((w : Nat) : Int))])), (t0, .inl (cI, 24, .inl (fun j => iI ((tb a0 a1 j : Nat) : Int)))), (k0, .inl (cI, 12, .inl (fun j => iI ((K j : Nat) : Int)))), (p0, .inl (cI, 12, .inl (fun j => iI ((q j : Nat) : Int))))]) [(m0, .inr (1, [.int (iI 0), .ref t0, .ref k0, .ref p0, .int (iI ((w : Nat) : Int))])), (t0, .inl (cI, 24, .inl (fun j => iI ((tb (sr0 r (mulF (rw_ r a0 a1) f) a0) (sr1 r (mulF (rw_ r a0 a1) f) a1) j : Nat) : Int)))), (k0, .inl (cI, 12, .inl (fun j => iI (((mx (mulF (rw_ r a0 a1) f) K 12) j : Nat) : Int)))), (p0, .inl (cI, 12, .inl (fun j => iI ((q j : Nat) : Int))))] := va_D_same (w := [(m0, .inr (1, [.int (iI 0), .ref t0, .ref k0, .ref p0, .int (iI ((w : Nat) : Int))])), (t0, .inl (cI, 24, .inl (fun j => iI ((tb (sr0 r (mx (mulF (rw_ r a0 a1) f) K 12) a0) (sr1 r (mx (mulF (rw_ r a0 a1) f) K 12) a1) j : Nat) : Int)))), (k0, .inl (cI, 12, .inl (fun j => iI (((mx (mulF (rw_ r a0 a1) f) K 12) j : Nat) : Int)))), (p0, .inl (cI, 12, .inl (fun j => iI ((q j : Nat) : Int))))]) rfl hD
        refine st_i (y := iI ((mulF (rw_ r a0 a1) f 0 : Nat) : Int)) (congrArg iI (by omega)) ?_
        exact W.iret hx hb hr (fun t ht _ => ⟨rfl, by rw [ht]; exact hP, hS.F ht⟩) hS.2.2 dX1_multiply_97
      | succ j ih_60_1 =>
        intro n hn_60  H locs hP hD hS ls hl
        have hK12 : lt12 (mx (mulF (rw_ r a0 a1) f) K 12) := fun j hj => by rw [mx_in hj]; exact mulF_lt _ _ j hj
        refine lv_iload hx hb dX1_multiply_60 (lv_at hl 3 rfl) ?_
        refine ib_bi hx hb dX1_multiply_62 (by decide) ?_
        refine ib_icmp_ge (tgt := 92) hx hb dX1_multiply_64 (by decide) ⟨by omega, by omega⟩ ⟨by omega, by omega⟩ (fun c_64 => absurd c_64 (by omega)) (fun c_64 => ?_)
        refine lv_aload_n hx hb dX1_multiply_67 rfl (lv_at hl 0 rfl) ?_
        refine va_get (D := (dC, dI)) (ci := 1) (v := .ref k0) (C := RX1) (T := TX1) (N := 5) hx hb hts hinX hown hK hP 0 rfl rfl 2 (by decide) (hts (.fieldLink RX1 13 "ToneRowsModel" "kept" "[I") (by decide +kernel)) (fun _ h9 => h9) rfl dX1_multiply_68 ?_
        refine lv_iload hx hb dX1_multiply_71 (lv_at hl 3 rfl) ?_
        refine lv_aload_n hx hb dX1_multiply_73 rfl (lv_at hl 0 rfl) ?_
        refine lv_iload_n hx hb dX1_multiply_74 rfl (lv_at hl 1 rfl) ?_
        refine lv_iload hx hb dX1_multiply_75 (lv_at hl 3 rfl) ?_
        refine rd_call (va_runV (As := [.int (iI ((r : Nat) : Int)), .int (iI ((n : Nat) : Int))]) (rest := [.int (iI ((n : Nat) : Int)), .ref k0]) ⟨hx, hb, hml, hown, hts⟩ (mX1_at l dC dI cI m0 t0 k0 p0 a0 a1 (mx (mulF (rw_ r a0 a1) f) K n) q (iI 0) w h0 h1 hw hq r n (by omega) (by omega)) (cwV 2 hts gX1_multiply_X1_at rfl rfl rfl hvX1_at ⟨Nat.le_of_ble_eq_true rfl, Nat.le_of_ble_eq_true rfl⟩) (bW_pre (ci := 1) (q0 := 0) hK hP rfl rfl rfl) rfl rfl hl.1 rfl (lv_room (Nat.le_of_ble_eq_true rfl)) dX1_multiply_77 ⟨Nat.le_of_ble_eq_true rfl, Nat.le_of_ble_eq_true rfl⟩) ?_
        have hr_77 := rw_lt h0 h1 r (i := n) (by omega)
        refine lv_iload_n hx hb dX1_multiply_80 rfl (lv_at hl 2 rfl) ?_
        have hmu : rw_ r a0 a1 n * f ≤ 11 * 11 := Nat.mul_le_mul (by omega) hf9
        refine ib_mul (z := (((rw_ r a0 a1 n) * f : Nat) : Int)) hx hb dX1_multiply_81 (by first | omega | rfl | (push_cast; rfl)) ?_
        refine ib_bi hx hb dX1_multiply_82 (by decide) ?_
        refine ib_rem (z := ((((rw_ r a0 a1 n) * f) % 12 : Nat) : Int)) hx hb dX1_multiply_84 (by omega) (by omega) (by omega) (by omega) (by first | omega | rfl) ?_
        refine st_i (y := iI ((mulF (rw_ r a0 a1) f n : Nat) : Int)) (rfl) ?_
        refine ib_ast (f := fun j => iI (((mx (mulF (rw_ r a0 a1) f) K n) j : Nat) : Int)) (i := n) (x := iI ((mulF (rw_ r a0 a1) f n : Nat) : Int)) hx hb hK hP hD hS 2 0 (fun j => iI (((mx (mulF (rw_ r a0 a1) f) K (n + 1)) j : Nat) : Int)) rfl rfl (by first | rfl | omega) (by omega) (by omega) (fun j hj => mx_st) dX1_multiply_85 (fun H locs hP hD hS => ?_)
        have hP : va_P (dC, dI) vwCl [(m0, .inr (1, [.int (iI 0), .ref t0, .ref k0, .ref p0, .int (iI ((w : Nat) : Int))])), (t0, .inl (cI, 24, .inl (fun j => iI ((tb a0 a1 j : Nat) : Int)))), (k0, .inl (cI, 12, .inl (fun j => iI (((mx (mulF (rw_ r a0 a1) f) K (n + 1)) j : Nat) : Int)))), (p0, .inl (cI, 12, .inl (fun j => iI ((q j : Nat) : Int))))] H := hP
        have hD : va_D (inW [(m0, .inr (1, [.int th, .ref t0, .ref k0, .ref p0, .int (iI ((w : Nat) : Int))])), (t0, .inl (cI, 24, .inl (fun j => iI ((tb a0 a1 j : Nat) : Int)))), (k0, .inl (cI, 12, .inl (fun j => iI ((K j : Nat) : Int)))), (p0, .inl (cI, 12, .inl (fun j => iI ((q j : Nat) : Int))))]) [(m0, .inr (1, [.int (iI 0), .ref t0, .ref k0, .ref p0, .int (iI ((w : Nat) : Int))])), (t0, .inl (cI, 24, .inl (fun j => iI ((tb a0 a1 j : Nat) : Int)))), (k0, .inl (cI, 12, .inl (fun j => iI (((mx (mulF (rw_ r a0 a1) f) K (n + 1)) j : Nat) : Int)))), (p0, .inl (cI, 12, .inl (fun j => iI ((q j : Nat) : Int))))] := hD
        refine lv_iinc (v := iI ((n + 1 : Nat) : Int)) (lv' := [(4, .int (iI ((n + 1 : Nat) : Int))), (0, .ref m0), (1, .int (iI ((r : Nat) : Int))), (2, .int (iI ((f : Nat) : Int)))]) hx hb dX1_multiply_86 hl (k := 3) rfl (iI_inc (by omega)) (by decide) rfl (fun ls hl => ?_)
        refine lv_goto (tgt := 60) hx hb dX1_multiply_89 (by decide) ?_
        exact ih_60_1 (n + 1) (by omega)  _ _ hP hD hS _ (lv_sub hl [1, 2, 3, 0] rfl)
    exact lp_60_1 12 0 (by omega)  _ _ hP hD hS _ (lv_sub hl [2, 3, 4, 0] rfl)
  · skip
    refine lv_iload_n hx hb dX1_multiply_0 rfl (lv_at hl 2 rfl) ?_
    refine ib_const hx hb dX1_multiply_1 ?_
    refine ib_icmp_eq (tgt := 22) hx hb dX1_multiply_2 (by decide) ⟨by omega, by omega⟩ ⟨by omega, by omega⟩ (fun c_2 => absurd c_2 (by omega)) (fun c_2 => ?_)
    refine lv_iload_n hx hb dX1_multiply_5 rfl (lv_at hl 2 rfl) ?_
    refine ib_const hx hb dX1_multiply_6 ?_
    refine ib_icmp_eq (tgt := 22) hx hb dX1_multiply_7 (by decide) ⟨by omega, by omega⟩ ⟨by omega, by omega⟩ (fun c_7 => ?_) (fun c_7 => absurd c_7 (by omega))
    refine ib_const hx hb dX1_multiply_22 ?_
    refine lv_goto (tgt := 27) hx hb dX1_multiply_23 (by decide) ?_
    refine lv_istore_n (lv' := [(3, .int (iI 1)), (0, .ref m0), (1, .int (iI ((r : Nat) : Int))), (2, .int (iI ((f : Nat) : Int)))]) hx hb dX1_multiply_27 rfl hl (by decide) rfl (fun ls hl => ?_)
    refine lv_aload_n hx hb dX1_multiply_28 rfl (lv_at hl 1 rfl) ?_
    refine lv_iload_n hx hb dX1_multiply_29 rfl (lv_at hl 2 rfl) ?_
    refine rd_call (va_runS (As := [.int (iI ((r : Nat) : Int))]) (rest := [.ref m0]) ⟨hx, hb, hml, hown, hts⟩ (mX1_isRow l ((r : Nat) : Int) ⟨by omega, by omega⟩) (va_cwS 1 hts gX1_multiply_X1_isRow rfl rfl rfl hdX1_isRow ⟨Nat.le_of_ble_eq_true rfl, Nat.le_of_ble_eq_true rfl⟩) tt_pre rfl rfl hl.1 rfl (lv_room (Nat.le_of_ble_eq_true rfl)) dX1_multiply_30 ⟨Nat.le_of_ble_eq_true rfl, Nat.le_of_ble_eq_true rfl⟩) ?_
    refine bb_ne (tgt := 40) hx hb dX1_multiply_33 (by decide) (fun c_33 => ?_) (fun c_33 => absurd c_33 (by omega))
    refine lv_iload_n hx hb dX1_multiply_40 rfl (lv_at hl 0 rfl) ?_
    refine ib_if_eq (tgt := 48) hx hb dX1_multiply_41 (by decide) ⟨by omega, by omega⟩ (fun c_41 => absurd c_41 (by decide)) (fun c_41 => ?_)
    refine ib_const hx hb dX1_multiply_44 ?_
    refine lv_goto (tgt := 49) hx hb dX1_multiply_45 (by decide) ?_
    refine wr_call (va_runV (As := [.int (iI 0)]) (rest := []) ⟨hx, hb, hml, hown, hts⟩ (mX1_goesWell l dC dI cI m0 t0 k0 p0 a0 a1 K q th w h0 h1 hw hq 0 ⟨by omega, by omega⟩) (cwV 1 hts gX1_multiply_X1_goesWell rfl rfl rfl hvX1_goesWell ⟨Nat.le_of_ble_eq_true rfl, Nat.le_of_ble_eq_true rfl⟩) (bD_pre (ci := 1) (q0 := 0) hK hP hD rfl rfl rfl) rfl rfl hl.1 rfl (lv_room (Nat.le_of_ble_eq_true rfl)) dX1_multiply_49 ⟨Nat.le_of_ble_eq_true rfl, Nat.le_of_ble_eq_true rfl⟩) hS (fun q9 h => inW_same (w := [(m0, .inr (1, [.int th, .ref t0, .ref k0, .ref p0, .int (iI ((w : Nat) : Int))])), (t0, .inl (cI, 24, .inl (fun j => iI ((tb a0 a1 j : Nat) : Int)))), (k0, .inl (cI, 12, .inl (fun j => iI ((K j : Nat) : Int)))), (p0, .inl (cI, 12, .inl (fun j => iI ((q j : Nat) : Int))))]) (w' := [(m0, .inr (1, [.int th, .ref t0, .ref k0, .ref p0, .int (iI ((w : Nat) : Int))])), (t0, .inl (cI, 24, .inl (fun j => iI ((tb a0 a1 j : Nat) : Int)))), (k0, .inl (cI, 12, .inl (fun j => iI ((K j : Nat) : Int)))), (p0, .inl (cI, 12, .inl (fun j => iI ((q j : Nat) : Int))))]) rfl h) (fun H locs hP hz hk hS => ?_)
    have hD : va_D (inW [(m0, .inr (1, [.int th, .ref t0, .ref k0, .ref p0, .int (iI ((w : Nat) : Int))])), (t0, .inl (cI, 24, .inl (fun j => iI ((tb a0 a1 j : Nat) : Int)))), (k0, .inl (cI, 12, .inl (fun j => iI ((K j : Nat) : Int)))), (p0, .inl (cI, 12, .inl (fun j => iI ((q j : Nat) : Int))))]) [(m0, .inr (1, [.int (iI 0), .ref t0, .ref k0, .ref p0, .int (iI ((w : Nat) : Int))])), (t0, .inl (cI, 24, .inl (fun j => iI ((tb a0 a1 j : Nat) : Int)))), (k0, .inl (cI, 12, .inl (fun j => iI ((K j : Nat) : Int)))), (p0, .inl (cI, 12, .inl (fun j => iI ((q j : Nat) : Int))))] := va_D_same (w := [(m0, .inr (1, [.int th, .ref t0, .ref k0, .ref p0, .int (iI ((w : Nat) : Int))])), (t0, .inl (cI, 24, .inl (fun j => iI ((tb a0 a1 j : Nat) : Int)))), (k0, .inl (cI, 12, .inl (fun j => iI ((K j : Nat) : Int)))), (p0, .inl (cI, 12, .inl (fun j => iI ((q j : Nat) : Int))))]) rfl hD
    refine st_i (y := iI 1) (congrArg iI (bI_t (by decide))) ?_
    refine ib_if_ne (tgt := 57) hx hb dX1_multiply_52 (by decide) ⟨by omega, by omega⟩ (fun c_52 => ?_) (fun c_52 => absurd c_52 (by decide))
    refine ib_const hx hb dX1_multiply_57 ?_
    refine lv_istore (lv' := [(4, .int (iI 0)), (3, .int (iI 1)), (0, .ref m0), (1, .int (iI ((r : Nat) : Int))), (2, .int (iI ((f : Nat) : Int)))]) hx hb dX1_multiply_58 hl (by decide) rfl (fun ls hl => ?_)
    have hP : va_P (dC, dI) vwCl [(m0, .inr (1, [.int (iI 0), .ref t0, .ref k0, .ref p0, .int (iI ((w : Nat) : Int))])), (t0, .inl (cI, 24, .inl (fun j => iI ((tb a0 a1 j : Nat) : Int)))), (k0, .inl (cI, 12, .inl (fun j => iI (((mx (mulF (rw_ r a0 a1) f) K 0) j : Nat) : Int)))), (p0, .inl (cI, 12, .inl (fun j => iI ((q j : Nat) : Int))))] H := va_P_arr (q0 := 2) (f := fun j => iI ((K j : Nat) : Int)) (g := fun j => iI (((mx (mulF (rw_ r a0 a1) f) K 0) j : Nat) : Int)) (fun j hj => by rw [mx_0]) rfl hP
    have hD : va_D (inW [(m0, .inr (1, [.int th, .ref t0, .ref k0, .ref p0, .int (iI ((w : Nat) : Int))])), (t0, .inl (cI, 24, .inl (fun j => iI ((tb a0 a1 j : Nat) : Int)))), (k0, .inl (cI, 12, .inl (fun j => iI ((K j : Nat) : Int)))), (p0, .inl (cI, 12, .inl (fun j => iI ((q j : Nat) : Int))))]) [(m0, .inr (1, [.int (iI 0), .ref t0, .ref k0, .ref p0, .int (iI ((w : Nat) : Int))])), (t0, .inl (cI, 24, .inl (fun j => iI ((tb a0 a1 j : Nat) : Int)))), (k0, .inl (cI, 12, .inl (fun j => iI (((mx (mulF (rw_ r a0 a1) f) K 0) j : Nat) : Int)))), (p0, .inl (cI, 12, .inl (fun j => iI ((q j : Nat) : Int))))] := va_D_same (w := [(m0, .inr (1, [.int (iI 0), .ref t0, .ref k0, .ref p0, .int (iI ((w : Nat) : Int))])), (t0, .inl (cI, 24, .inl (fun j => iI ((tb a0 a1 j : Nat) : Int)))), (k0, .inl (cI, 12, .inl (fun j => iI ((K j : Nat) : Int)))), (p0, .inl (cI, 12, .inl (fun j => iI ((q j : Nat) : Int))))]) rfl hD
    have lp_60_2 : ∀ (j n : Nat), n + j = 12 → ∀ (H : Heap) (locs : List Loc), va_P (dC, dI) vwCl [(m0, .inr (1, [.int (iI 0), .ref t0, .ref k0, .ref p0, .int (iI ((w : Nat) : Int))])), (t0, .inl (cI, 24, .inl (fun j => iI ((tb a0 a1 j : Nat) : Int)))), (k0, .inl (cI, 12, .inl (fun j => iI (((mx (mulF (rw_ r a0 a1) f) K n) j : Nat) : Int)))), (p0, .inl (cI, 12, .inl (fun j => iI ((q j : Nat) : Int))))] H → va_D (inW [(m0, .inr (1, [.int th, .ref t0, .ref k0, .ref p0, .int (iI ((w : Nat) : Int))])), (t0, .inl (cI, 24, .inl (fun j => iI ((tb a0 a1 j : Nat) : Int)))), (k0, .inl (cI, 12, .inl (fun j => iI ((K j : Nat) : Int)))), (p0, .inl (cI, 12, .inl (fun j => iI ((q j : Nat) : Int))))]) [(m0, .inr (1, [.int (iI 0), .ref t0, .ref k0, .ref p0, .int (iI ((w : Nat) : Int))])), (t0, .inl (cI, 24, .inl (fun j => iI ((tb a0 a1 j : Nat) : Int)))), (k0, .inl (cI, 12, .inl (fun j => iI (((mx (mulF (rw_ r a0 a1) f) K n) j : Nat) : Int)))), (p0, .inl (cI, 12, .inl (fun j => iI ((q j : Nat) : Int))))] → va_S (inW [(m0, .inr (1, [.int th, .ref t0, .ref k0, .ref p0, .int (iI ((w : Nat) : Int))])), (t0, .inl (cI, 24, .inl (fun j => iI ((tb a0 a1 j : Nat) : Int)))), (k0, .inl (cI, 12, .inl (fun j => iI ((K j : Nat) : Int)))), (p0, .inl (cI, 12, .inl (fun j => iI ((q j : Nat) : Int))))]) s.heap H locs → ∀ ls : Array Slot, lv_has ls 5 [(0, .ref m0), (1, .int (iI ((r : Nat) : Int))), (2, .int (iI ((f : Nat) : Int))), (4, .int (iI ((n : Nat) : Int)))] → W P0 l e (headSpec wsX1_multiply { frames := 2, cells := 0, slots := 0, locals := 44 }).room s m ([.ref m0, .int (iI ((r : Nat) : Int)), .int (iI ((f : Nat) : Int))] : List Value).toArray below meth c H locs 0 0 (MQ below (wrQ (dC, dI) (inW [(m0, .inr (1, [.int th, .ref t0, .ref k0, .ref p0, .int (iI ((w : Nat) : Int))])), (t0, .inl (cI, 24, .inl (fun j => iI ((tb a0 a1 j : Nat) : Int)))), (k0, .inl (cI, 12, .inl (fun j => iI ((K j : Nat) : Int)))), (p0, .inl (cI, 12, .inl (fun j => iI ((q j : Nat) : Int))))]) [(m0, .inr (1, [.int (iI 0), .ref t0, .ref k0, .ref p0, .int (iI ((w : Nat) : Int))])), (t0, .inl (cI, 24, .inl (fun j => iI ((tb (sr0 r (mulF (rw_ r a0 a1) f) a0) (sr1 r (mulF (rw_ r a0 a1) f) a1) j : Nat) : Int)))), (k0, .inl (cI, 12, .inl (fun j => iI (((mx (mulF (rw_ r a0 a1) f) K 12) j : Nat) : Int)))), (p0, .inl (cI, 12, .inl (fun j => iI ((q j : Nat) : Int))))] (some (.int (iI ((mulF (rw_ r a0 a1) f 0 : Nat) : Int))))) ([.ref m0, .int (iI ((r : Nat) : Int)), .int (iI ((f : Nat) : Int))] : List Value).toArray s 0 0 (inW [(m0, .inr (1, [.int th, .ref t0, .ref k0, .ref p0, .int (iI ((w : Nat) : Int))])), (t0, .inl (cI, 24, .inl (fun j => iI ((tb a0 a1 j : Nat) : Int)))), (k0, .inl (cI, 12, .inl (fun j => iI ((K j : Nat) : Int)))), (p0, .inl (cI, 12, .inl (fun j => iI ((q j : Nat) : Int))))])) (F0 m 60 ls []) := by
      intro j
      induction j with
      | zero =>
        intro n hn_60  H locs hP hD hS ls hl
        have hK12 : lt12 (mx (mulF (rw_ r a0 a1) f) K 12) := fun j hj => by rw [mx_in hj]; exact mulF_lt _ _ j hj
        refine lv_iload hx hb dX1_multiply_60 (lv_at hl 3 rfl) ?_
        refine ib_bi hx hb dX1_multiply_62 (by decide) ?_
        refine ib_icmp_ge (tgt := 92) hx hb dX1_multiply_64 (by decide) ⟨by omega, by omega⟩ ⟨by omega, by omega⟩ (fun c_64 => ?_) (fun c_64 => absurd c_64 (by omega))
        have hP : va_P (dC, dI) vwCl [(m0, .inr (1, [.int (iI 0), .ref t0, .ref k0, .ref p0, .int (iI ((w : Nat) : Int))])), (t0, .inl (cI, 24, .inl (fun j => iI ((tb a0 a1 j : Nat) : Int)))), (k0, .inl (cI, 12, .inl (fun j => iI (((mx (mulF (rw_ r a0 a1) f) K 12) j : Nat) : Int)))), (p0, .inl (cI, 12, .inl (fun j => iI ((q j : Nat) : Int))))] H := va_P_arr (q0 := 2) (f := fun j => iI (((mx (mulF (rw_ r a0 a1) f) K n) j : Nat) : Int)) (g := fun j => iI (((mx (mulF (rw_ r a0 a1) f) K 12) j : Nat) : Int)) (fun j hj => by rw [show n = 12 by omega]) rfl hP
        have hD : va_D (inW [(m0, .inr (1, [.int th, .ref t0, .ref k0, .ref p0, .int (iI ((w : Nat) : Int))])), (t0, .inl (cI, 24, .inl (fun j => iI ((tb a0 a1 j : Nat) : Int)))), (k0, .inl (cI, 12, .inl (fun j => iI ((K j : Nat) : Int)))), (p0, .inl (cI, 12, .inl (fun j => iI ((q j : Nat) : Int))))]) [(m0, .inr (1, [.int (iI 0), .ref t0, .ref k0, .ref p0, .int (iI ((w : Nat) : Int))])), (t0, .inl (cI, 24, .inl (fun j => iI ((tb a0 a1 j : Nat) : Int)))), (k0, .inl (cI, 12, .inl (fun j => iI (((mx (mulF (rw_ r a0 a1) f) K 12) j : Nat) : Int)))), (p0, .inl (cI, 12, .inl (fun j => iI ((q j : Nat) : Int))))] := va_D_same (w := [(m0, .inr (1, [.int (iI 0), .ref t0, .ref k0, .ref p0, .int (iI ((w : Nat) : Int))])), (t0, .inl (cI, 24, .inl (fun j => iI ((tb a0 a1 j : Nat) : Int)))), (k0, .inl (cI, 12, .inl (fun j => iI (((mx (mulF (rw_ r a0 a1) f) K n) j : Nat) : Int)))), (p0, .inl (cI, 12, .inl (fun j => iI ((q j : Nat) : Int))))]) rfl hD
        refine lv_aload_n hx hb dX1_multiply_92 rfl (lv_at hl 0 rfl) ?_
        refine lv_iload_n hx hb dX1_multiply_93 rfl (lv_at hl 1 rfl) ?_
        refine wr_call (va_runV (As := [.int (iI ((r : Nat) : Int))]) (rest := []) ⟨hx, hb, hml, hown, hts⟩ (mX1_lay l dC dI cI m0 t0 k0 p0 a0 a1 (mx (mulF (rw_ r a0 a1) f) K 12) q (iI 0) w h0 h1 hw hq r (by omega) hK12) (cwV 1 hts gX1_multiply_X1_lay rfl rfl rfl hvX1_lay ⟨Nat.le_of_ble_eq_true rfl, Nat.le_of_ble_eq_true rfl⟩) (bD_pre (ci := 1) (q0 := 0) hK hP hD rfl rfl rfl) rfl rfl hl.1 rfl (lv_room (Nat.le_of_ble_eq_true rfl)) dX1_multiply_94 ⟨Nat.le_of_ble_eq_true rfl, Nat.le_of_ble_eq_true rfl⟩) hS (fun q9 h => inW_same (w := [(m0, .inr (1, [.int (iI 0), .ref t0, .ref k0, .ref p0, .int (iI ((w : Nat) : Int))])), (t0, .inl (cI, 24, .inl (fun j => iI ((tb a0 a1 j : Nat) : Int)))), (k0, .inl (cI, 12, .inl (fun j => iI (((mx (mulF (rw_ r a0 a1) f) K 12) j : Nat) : Int)))), (p0, .inl (cI, 12, .inl (fun j => iI ((q j : Nat) : Int))))]) (w' := [(m0, .inr (1, [.int th, .ref t0, .ref k0, .ref p0, .int (iI ((w : Nat) : Int))])), (t0, .inl (cI, 24, .inl (fun j => iI ((tb a0 a1 j : Nat) : Int)))), (k0, .inl (cI, 12, .inl (fun j => iI ((K j : Nat) : Int)))), (p0, .inl (cI, 12, .inl (fun j => iI ((q j : Nat) : Int))))]) rfl h) (fun H locs hP hz hk hS => ?_)
        have hD : va_D (inW [(m0, .inr (1, [.int th, .ref t0, .ref k0, .ref p0, .int (iI ((w : Nat) : Int))])), (t0, .inl (cI, 24, .inl (fun j => iI ((tb a0 a1 j : Nat) : Int)))), (k0, .inl (cI, 12, .inl (fun j => iI ((K j : Nat) : Int)))), (p0, .inl (cI, 12, .inl (fun j => iI ((q j : Nat) : Int))))]) [(m0, .inr (1, [.int (iI 0), .ref t0, .ref k0, .ref p0, .int (iI ((w : Nat) : Int))])), (t0, .inl (cI, 24, .inl (fun j => iI ((tb (sr0 r (mx (mulF (rw_ r a0 a1) f) K 12) a0) (sr1 r (mx (mulF (rw_ r a0 a1) f) K 12) a1) j : Nat) : Int)))), (k0, .inl (cI, 12, .inl (fun j => iI (((mx (mulF (rw_ r a0 a1) f) K 12) j : Nat) : Int)))), (p0, .inl (cI, 12, .inl (fun j => iI ((q j : Nat) : Int))))] := va_D_same (w := [(m0, .inr (1, [.int (iI 0), .ref t0, .ref k0, .ref p0, .int (iI ((w : Nat) : Int))])), (t0, .inl (cI, 24, .inl (fun j => iI ((tb a0 a1 j : Nat) : Int)))), (k0, .inl (cI, 12, .inl (fun j => iI (((mx (mulF (rw_ r a0 a1) f) K 12) j : Nat) : Int)))), (p0, .inl (cI, 12, .inl (fun j => iI ((q j : Nat) : Int))))]) rfl hD
        refine st_i (y := iI (((mulF (rw_ r a0 a1) f) 0 : Nat) : Int)) (congrArg (fun z : Nat => iI ((z : Nat) : Int)) (mx_in (by decide))) ?_
        have hP : va_P (dC, dI) vwCl [(m0, .inr (1, [.int (iI 0), .ref t0, .ref k0, .ref p0, .int (iI ((w : Nat) : Int))])), (t0, .inl (cI, 24, .inl (fun j => iI ((tb (sr0 r (mulF (rw_ r a0 a1) f) a0) (sr1 r (mulF (rw_ r a0 a1) f) a1) j : Nat) : Int)))), (k0, .inl (cI, 12, .inl (fun j => iI (((mx (mulF (rw_ r a0 a1) f) K 12) j : Nat) : Int)))), (p0, .inl (cI, 12, .inl (fun j => iI ((q j : Nat) : Int))))] H := va_P_arr (q0 := 1) (f := fun j => iI ((tb (sr0 r (mx (mulF (rw_ r a0 a1) f) K 12) a0) (sr1 r (mx (mulF (rw_ r a0 a1) f) K 12) a1) j : Nat) : Int)) (g := fun j => iI ((tb (sr0 r (mulF (rw_ r a0 a1) f) a0) (sr1 r (mulF (rw_ r a0 a1) f) a1) j : Nat) : Int)) (fun j hj => tb_cg (fun i hi => mx_in hi) hj) rfl hP
        have hD : va_D (inW [(m0, .inr (1, [.int th, .ref t0, .ref k0, .ref p0, .int (iI ((w : Nat) : Int))])), (t0, .inl (cI, 24, .inl (fun j => iI ((tb a0 a1 j : Nat) : Int)))), (k0, .inl (cI, 12, .inl (fun j => iI ((K j : Nat) : Int)))), (p0, .inl (cI, 12, .inl (fun j => iI ((q j : Nat) : Int))))]) [(m0, .inr (1, [.int (iI 0), .ref t0, .ref k0, .ref p0, .int (iI ((w : Nat) : Int))])), (t0, .inl (cI, 24, .inl (fun j => iI ((tb (sr0 r (mulF (rw_ r a0 a1) f) a0) (sr1 r (mulF (rw_ r a0 a1) f) a1) j : Nat) : Int)))), (k0, .inl (cI, 12, .inl (fun j => iI (((mx (mulF (rw_ r a0 a1) f) K 12) j : Nat) : Int)))), (p0, .inl (cI, 12, .inl (fun j => iI ((q j : Nat) : Int))))] := va_D_same (w := [(m0, .inr (1, [.int (iI 0), .ref t0, .ref k0, .ref p0, .int (iI ((w : Nat) : Int))])), (t0, .inl (cI, 24, .inl (fun j => iI ((tb (sr0 r (mx (mulF (rw_ r a0 a1) f) K 12) a0) (sr1 r (mx (mulF (rw_ r a0 a1) f) K 12) a1) j : Nat) : Int)))), (k0, .inl (cI, 12, .inl (fun j => iI (((mx (mulF (rw_ r a0 a1) f) K 12) j : Nat) : Int)))), (p0, .inl (cI, 12, .inl (fun j => iI ((q j : Nat) : Int))))]) rfl hD
        refine st_i (y := iI ((mulF (rw_ r a0 a1) f 0 : Nat) : Int)) (congrArg iI (by omega)) ?_
        exact W.iret hx hb hr (fun t ht _ => ⟨rfl, by rw [ht]; exact hP, hS.F ht⟩) hS.2.2 dX1_multiply_97
      | succ j ih_60_2 =>
        intro n hn_60  H locs hP hD hS ls hl
        have hK12 : lt12 (mx (mulF (rw_ r a0 a1) f) K 12) := fun j hj => by rw [mx_in hj]; exact mulF_lt _ _ j hj
        refine lv_iload hx hb dX1_multiply_60 (lv_at hl 3 rfl) ?_
        refine ib_bi hx hb dX1_multiply_62 (by decide) ?_
        refine ib_icmp_ge (tgt := 92) hx hb dX1_multiply_64 (by decide) ⟨by omega, by omega⟩ ⟨by omega, by omega⟩ (fun c_64 => absurd c_64 (by omega)) (fun c_64 => ?_)
        refine lv_aload_n hx hb dX1_multiply_67 rfl (lv_at hl 0 rfl) ?_
        refine va_get (D := (dC, dI)) (ci := 1) (v := .ref k0) (C := RX1) (T := TX1) (N := 5) hx hb hts hinX hown hK hP 0 rfl rfl 2 (by decide) (hts (.fieldLink RX1 13 "ToneRowsModel" "kept" "[I") (by decide +kernel)) (fun _ h9 => h9) rfl dX1_multiply_68 ?_
        refine lv_iload hx hb dX1_multiply_71 (lv_at hl 3 rfl) ?_
        refine lv_aload_n hx hb dX1_multiply_73 rfl (lv_at hl 0 rfl) ?_
        refine lv_iload_n hx hb dX1_multiply_74 rfl (lv_at hl 1 rfl) ?_
        refine lv_iload hx hb dX1_multiply_75 (lv_at hl 3 rfl) ?_
        refine rd_call (va_runV (As := [.int (iI ((r : Nat) : Int)), .int (iI ((n : Nat) : Int))]) (rest := [.int (iI ((n : Nat) : Int)), .ref k0]) ⟨hx, hb, hml, hown, hts⟩ (mX1_at l dC dI cI m0 t0 k0 p0 a0 a1 (mx (mulF (rw_ r a0 a1) f) K n) q (iI 0) w h0 h1 hw hq r n (by omega) (by omega)) (cwV 2 hts gX1_multiply_X1_at rfl rfl rfl hvX1_at ⟨Nat.le_of_ble_eq_true rfl, Nat.le_of_ble_eq_true rfl⟩) (bW_pre (ci := 1) (q0 := 0) hK hP rfl rfl rfl) rfl rfl hl.1 rfl (lv_room (Nat.le_of_ble_eq_true rfl)) dX1_multiply_77 ⟨Nat.le_of_ble_eq_true rfl, Nat.le_of_ble_eq_true rfl⟩) ?_
        have hr_77 := rw_lt h0 h1 r (i := n) (by omega)
        refine lv_iload_n hx hb dX1_multiply_80 rfl (lv_at hl 2 rfl) ?_
        have hmu : rw_ r a0 a1 n * f ≤ 11 * 11 := Nat.mul_le_mul (by omega) hf9
        refine ib_mul (z := (((rw_ r a0 a1 n) * f : Nat) : Int)) hx hb dX1_multiply_81 (by first | omega | rfl | (push_cast; rfl)) ?_
        refine ib_bi hx hb dX1_multiply_82 (by decide) ?_
        refine ib_rem (z := ((((rw_ r a0 a1 n) * f) % 12 : Nat) : Int)) hx hb dX1_multiply_84 (by omega) (by omega) (by omega) (by omega) (by first | omega | rfl) ?_
        refine st_i (y := iI ((mulF (rw_ r a0 a1) f n : Nat) : Int)) (rfl) ?_
        refine ib_ast (f := fun j => iI (((mx (mulF (rw_ r a0 a1) f) K n) j : Nat) : Int)) (i := n) (x := iI ((mulF (rw_ r a0 a1) f n : Nat) : Int)) hx hb hK hP hD hS 2 0 (fun j => iI (((mx (mulF (rw_ r a0 a1) f) K (n + 1)) j : Nat) : Int)) rfl rfl (by first | rfl | omega) (by omega) (by omega) (fun j hj => mx_st) dX1_multiply_85 (fun H locs hP hD hS => ?_)
        have hP : va_P (dC, dI) vwCl [(m0, .inr (1, [.int (iI 0), .ref t0, .ref k0, .ref p0, .int (iI ((w : Nat) : Int))])), (t0, .inl (cI, 24, .inl (fun j => iI ((tb a0 a1 j : Nat) : Int)))), (k0, .inl (cI, 12, .inl (fun j => iI (((mx (mulF (rw_ r a0 a1) f) K (n + 1)) j : Nat) : Int)))), (p0, .inl (cI, 12, .inl (fun j => iI ((q j : Nat) : Int))))] H := hP
        have hD : va_D (inW [(m0, .inr (1, [.int th, .ref t0, .ref k0, .ref p0, .int (iI ((w : Nat) : Int))])), (t0, .inl (cI, 24, .inl (fun j => iI ((tb a0 a1 j : Nat) : Int)))), (k0, .inl (cI, 12, .inl (fun j => iI ((K j : Nat) : Int)))), (p0, .inl (cI, 12, .inl (fun j => iI ((q j : Nat) : Int))))]) [(m0, .inr (1, [.int (iI 0), .ref t0, .ref k0, .ref p0, .int (iI ((w : Nat) : Int))])), (t0, .inl (cI, 24, .inl (fun j => iI ((tb a0 a1 j : Nat) : Int)))), (k0, .inl (cI, 12, .inl (fun j => iI (((mx (mulF (rw_ r a0 a1) f) K (n + 1)) j : Nat) : Int)))), (p0, .inl (cI, 12, .inl (fun j => iI ((q j : Nat) : Int))))] := hD
        refine lv_iinc (v := iI ((n + 1 : Nat) : Int)) (lv' := [(4, .int (iI ((n + 1 : Nat) : Int))), (0, .ref m0), (1, .int (iI ((r : Nat) : Int))), (2, .int (iI ((f : Nat) : Int)))]) hx hb dX1_multiply_86 hl (k := 3) rfl (iI_inc (by omega)) (by decide) rfl (fun ls hl => ?_)
        refine lv_goto (tgt := 60) hx hb dX1_multiply_89 (by decide) ?_
        exact ih_60_2 (n + 1) (by omega)  _ _ hP hD hS _ (lv_sub hl [1, 2, 3, 0] rfl)
    exact lp_60_2 12 0 (by omega)  _ _ hP hD hS _ (lv_sub hl [2, 3, 4, 0] rfl)
  · skip
    refine lv_iload_n hx hb dX1_multiply_0 rfl (lv_at hl 2 rfl) ?_
    refine ib_const hx hb dX1_multiply_1 ?_
    refine ib_icmp_eq (tgt := 22) hx hb dX1_multiply_2 (by decide) ⟨by omega, by omega⟩ ⟨by omega, by omega⟩ (fun c_2 => absurd c_2 (by omega)) (fun c_2 => ?_)
    refine lv_iload_n hx hb dX1_multiply_5 rfl (lv_at hl 2 rfl) ?_
    refine ib_const hx hb dX1_multiply_6 ?_
    refine ib_icmp_eq (tgt := 22) hx hb dX1_multiply_7 (by decide) ⟨by omega, by omega⟩ ⟨by omega, by omega⟩ (fun c_7 => absurd c_7 (by omega)) (fun c_7 => ?_)
    refine lv_iload_n hx hb dX1_multiply_10 rfl (lv_at hl 2 rfl) ?_
    refine ib_bi hx hb dX1_multiply_11 (by decide) ?_
    refine ib_icmp_eq (tgt := 22) hx hb dX1_multiply_13 (by decide) ⟨by omega, by omega⟩ ⟨by omega, by omega⟩ (fun c_13 => ?_) (fun c_13 => absurd c_13 (by omega))
    refine ib_const hx hb dX1_multiply_22 ?_
    refine lv_goto (tgt := 27) hx hb dX1_multiply_23 (by decide) ?_
    refine lv_istore_n (lv' := [(3, .int (iI 1)), (0, .ref m0), (1, .int (iI ((r : Nat) : Int))), (2, .int (iI ((f : Nat) : Int)))]) hx hb dX1_multiply_27 rfl hl (by decide) rfl (fun ls hl => ?_)
    refine lv_aload_n hx hb dX1_multiply_28 rfl (lv_at hl 1 rfl) ?_
    refine lv_iload_n hx hb dX1_multiply_29 rfl (lv_at hl 2 rfl) ?_
    refine rd_call (va_runS (As := [.int (iI ((r : Nat) : Int))]) (rest := [.ref m0]) ⟨hx, hb, hml, hown, hts⟩ (mX1_isRow l ((r : Nat) : Int) ⟨by omega, by omega⟩) (va_cwS 1 hts gX1_multiply_X1_isRow rfl rfl rfl hdX1_isRow ⟨Nat.le_of_ble_eq_true rfl, Nat.le_of_ble_eq_true rfl⟩) tt_pre rfl rfl hl.1 rfl (lv_room (Nat.le_of_ble_eq_true rfl)) dX1_multiply_30 ⟨Nat.le_of_ble_eq_true rfl, Nat.le_of_ble_eq_true rfl⟩) ?_
    refine bb_ne (tgt := 40) hx hb dX1_multiply_33 (by decide) (fun c_33 => ?_) (fun c_33 => absurd c_33 (by omega))
    refine lv_iload_n hx hb dX1_multiply_40 rfl (lv_at hl 0 rfl) ?_
    refine ib_if_eq (tgt := 48) hx hb dX1_multiply_41 (by decide) ⟨by omega, by omega⟩ (fun c_41 => absurd c_41 (by decide)) (fun c_41 => ?_)
    refine ib_const hx hb dX1_multiply_44 ?_
    refine lv_goto (tgt := 49) hx hb dX1_multiply_45 (by decide) ?_
    refine wr_call (va_runV (As := [.int (iI 0)]) (rest := []) ⟨hx, hb, hml, hown, hts⟩ (mX1_goesWell l dC dI cI m0 t0 k0 p0 a0 a1 K q th w h0 h1 hw hq 0 ⟨by omega, by omega⟩) (cwV 1 hts gX1_multiply_X1_goesWell rfl rfl rfl hvX1_goesWell ⟨Nat.le_of_ble_eq_true rfl, Nat.le_of_ble_eq_true rfl⟩) (bD_pre (ci := 1) (q0 := 0) hK hP hD rfl rfl rfl) rfl rfl hl.1 rfl (lv_room (Nat.le_of_ble_eq_true rfl)) dX1_multiply_49 ⟨Nat.le_of_ble_eq_true rfl, Nat.le_of_ble_eq_true rfl⟩) hS (fun q9 h => inW_same (w := [(m0, .inr (1, [.int th, .ref t0, .ref k0, .ref p0, .int (iI ((w : Nat) : Int))])), (t0, .inl (cI, 24, .inl (fun j => iI ((tb a0 a1 j : Nat) : Int)))), (k0, .inl (cI, 12, .inl (fun j => iI ((K j : Nat) : Int)))), (p0, .inl (cI, 12, .inl (fun j => iI ((q j : Nat) : Int))))]) (w' := [(m0, .inr (1, [.int th, .ref t0, .ref k0, .ref p0, .int (iI ((w : Nat) : Int))])), (t0, .inl (cI, 24, .inl (fun j => iI ((tb a0 a1 j : Nat) : Int)))), (k0, .inl (cI, 12, .inl (fun j => iI ((K j : Nat) : Int)))), (p0, .inl (cI, 12, .inl (fun j => iI ((q j : Nat) : Int))))]) rfl h) (fun H locs hP hz hk hS => ?_)
    have hD : va_D (inW [(m0, .inr (1, [.int th, .ref t0, .ref k0, .ref p0, .int (iI ((w : Nat) : Int))])), (t0, .inl (cI, 24, .inl (fun j => iI ((tb a0 a1 j : Nat) : Int)))), (k0, .inl (cI, 12, .inl (fun j => iI ((K j : Nat) : Int)))), (p0, .inl (cI, 12, .inl (fun j => iI ((q j : Nat) : Int))))]) [(m0, .inr (1, [.int (iI 0), .ref t0, .ref k0, .ref p0, .int (iI ((w : Nat) : Int))])), (t0, .inl (cI, 24, .inl (fun j => iI ((tb a0 a1 j : Nat) : Int)))), (k0, .inl (cI, 12, .inl (fun j => iI ((K j : Nat) : Int)))), (p0, .inl (cI, 12, .inl (fun j => iI ((q j : Nat) : Int))))] := va_D_same (w := [(m0, .inr (1, [.int th, .ref t0, .ref k0, .ref p0, .int (iI ((w : Nat) : Int))])), (t0, .inl (cI, 24, .inl (fun j => iI ((tb a0 a1 j : Nat) : Int)))), (k0, .inl (cI, 12, .inl (fun j => iI ((K j : Nat) : Int)))), (p0, .inl (cI, 12, .inl (fun j => iI ((q j : Nat) : Int))))]) rfl hD
    refine st_i (y := iI 1) (congrArg iI (bI_t (by decide))) ?_
    refine ib_if_ne (tgt := 57) hx hb dX1_multiply_52 (by decide) ⟨by omega, by omega⟩ (fun c_52 => ?_) (fun c_52 => absurd c_52 (by decide))
    refine ib_const hx hb dX1_multiply_57 ?_
    refine lv_istore (lv' := [(4, .int (iI 0)), (3, .int (iI 1)), (0, .ref m0), (1, .int (iI ((r : Nat) : Int))), (2, .int (iI ((f : Nat) : Int)))]) hx hb dX1_multiply_58 hl (by decide) rfl (fun ls hl => ?_)
    have hP : va_P (dC, dI) vwCl [(m0, .inr (1, [.int (iI 0), .ref t0, .ref k0, .ref p0, .int (iI ((w : Nat) : Int))])), (t0, .inl (cI, 24, .inl (fun j => iI ((tb a0 a1 j : Nat) : Int)))), (k0, .inl (cI, 12, .inl (fun j => iI (((mx (mulF (rw_ r a0 a1) f) K 0) j : Nat) : Int)))), (p0, .inl (cI, 12, .inl (fun j => iI ((q j : Nat) : Int))))] H := va_P_arr (q0 := 2) (f := fun j => iI ((K j : Nat) : Int)) (g := fun j => iI (((mx (mulF (rw_ r a0 a1) f) K 0) j : Nat) : Int)) (fun j hj => by rw [mx_0]) rfl hP
    have hD : va_D (inW [(m0, .inr (1, [.int th, .ref t0, .ref k0, .ref p0, .int (iI ((w : Nat) : Int))])), (t0, .inl (cI, 24, .inl (fun j => iI ((tb a0 a1 j : Nat) : Int)))), (k0, .inl (cI, 12, .inl (fun j => iI ((K j : Nat) : Int)))), (p0, .inl (cI, 12, .inl (fun j => iI ((q j : Nat) : Int))))]) [(m0, .inr (1, [.int (iI 0), .ref t0, .ref k0, .ref p0, .int (iI ((w : Nat) : Int))])), (t0, .inl (cI, 24, .inl (fun j => iI ((tb a0 a1 j : Nat) : Int)))), (k0, .inl (cI, 12, .inl (fun j => iI (((mx (mulF (rw_ r a0 a1) f) K 0) j : Nat) : Int)))), (p0, .inl (cI, 12, .inl (fun j => iI ((q j : Nat) : Int))))] := va_D_same (w := [(m0, .inr (1, [.int (iI 0), .ref t0, .ref k0, .ref p0, .int (iI ((w : Nat) : Int))])), (t0, .inl (cI, 24, .inl (fun j => iI ((tb a0 a1 j : Nat) : Int)))), (k0, .inl (cI, 12, .inl (fun j => iI ((K j : Nat) : Int)))), (p0, .inl (cI, 12, .inl (fun j => iI ((q j : Nat) : Int))))]) rfl hD
    have lp_60_3 : ∀ (j n : Nat), n + j = 12 → ∀ (H : Heap) (locs : List Loc), va_P (dC, dI) vwCl [(m0, .inr (1, [.int (iI 0), .ref t0, .ref k0, .ref p0, .int (iI ((w : Nat) : Int))])), (t0, .inl (cI, 24, .inl (fun j => iI ((tb a0 a1 j : Nat) : Int)))), (k0, .inl (cI, 12, .inl (fun j => iI (((mx (mulF (rw_ r a0 a1) f) K n) j : Nat) : Int)))), (p0, .inl (cI, 12, .inl (fun j => iI ((q j : Nat) : Int))))] H → va_D (inW [(m0, .inr (1, [.int th, .ref t0, .ref k0, .ref p0, .int (iI ((w : Nat) : Int))])), (t0, .inl (cI, 24, .inl (fun j => iI ((tb a0 a1 j : Nat) : Int)))), (k0, .inl (cI, 12, .inl (fun j => iI ((K j : Nat) : Int)))), (p0, .inl (cI, 12, .inl (fun j => iI ((q j : Nat) : Int))))]) [(m0, .inr (1, [.int (iI 0), .ref t0, .ref k0, .ref p0, .int (iI ((w : Nat) : Int))])), (t0, .inl (cI, 24, .inl (fun j => iI ((tb a0 a1 j : Nat) : Int)))), (k0, .inl (cI, 12, .inl (fun j => iI (((mx (mulF (rw_ r a0 a1) f) K n) j : Nat) : Int)))), (p0, .inl (cI, 12, .inl (fun j => iI ((q j : Nat) : Int))))] → va_S (inW [(m0, .inr (1, [.int th, .ref t0, .ref k0, .ref p0, .int (iI ((w : Nat) : Int))])), (t0, .inl (cI, 24, .inl (fun j => iI ((tb a0 a1 j : Nat) : Int)))), (k0, .inl (cI, 12, .inl (fun j => iI ((K j : Nat) : Int)))), (p0, .inl (cI, 12, .inl (fun j => iI ((q j : Nat) : Int))))]) s.heap H locs → ∀ ls : Array Slot, lv_has ls 5 [(0, .ref m0), (1, .int (iI ((r : Nat) : Int))), (2, .int (iI ((f : Nat) : Int))), (4, .int (iI ((n : Nat) : Int)))] → W P0 l e (headSpec wsX1_multiply { frames := 2, cells := 0, slots := 0, locals := 44 }).room s m ([.ref m0, .int (iI ((r : Nat) : Int)), .int (iI ((f : Nat) : Int))] : List Value).toArray below meth c H locs 0 0 (MQ below (wrQ (dC, dI) (inW [(m0, .inr (1, [.int th, .ref t0, .ref k0, .ref p0, .int (iI ((w : Nat) : Int))])), (t0, .inl (cI, 24, .inl (fun j => iI ((tb a0 a1 j : Nat) : Int)))), (k0, .inl (cI, 12, .inl (fun j => iI ((K j : Nat) : Int)))), (p0, .inl (cI, 12, .inl (fun j => iI ((q j : Nat) : Int))))]) [(m0, .inr (1, [.int (iI 0), .ref t0, .ref k0, .ref p0, .int (iI ((w : Nat) : Int))])), (t0, .inl (cI, 24, .inl (fun j => iI ((tb (sr0 r (mulF (rw_ r a0 a1) f) a0) (sr1 r (mulF (rw_ r a0 a1) f) a1) j : Nat) : Int)))), (k0, .inl (cI, 12, .inl (fun j => iI (((mx (mulF (rw_ r a0 a1) f) K 12) j : Nat) : Int)))), (p0, .inl (cI, 12, .inl (fun j => iI ((q j : Nat) : Int))))] (some (.int (iI ((mulF (rw_ r a0 a1) f 0 : Nat) : Int))))) ([.ref m0, .int (iI ((r : Nat) : Int)), .int (iI ((f : Nat) : Int))] : List Value).toArray s 0 0 (inW [(m0, .inr (1, [.int th, .ref t0, .ref k0, .ref p0, .int (iI ((w : Nat) : Int))])), (t0, .inl (cI, 24, .inl (fun j => iI ((tb a0 a1 j : Nat) : Int)))), (k0, .inl (cI, 12, .inl (fun j => iI ((K j : Nat) : Int)))), (p0, .inl (cI, 12, .inl (fun j => iI ((q j : Nat) : Int))))])) (F0 m 60 ls []) := by
      intro j
      induction j with
      | zero =>
        intro n hn_60  H locs hP hD hS ls hl
        have hK12 : lt12 (mx (mulF (rw_ r a0 a1) f) K 12) := fun j hj => by rw [mx_in hj]; exact mulF_lt _ _ j hj
        refine lv_iload hx hb dX1_multiply_60 (lv_at hl 3 rfl) ?_
        refine ib_bi hx hb dX1_multiply_62 (by decide) ?_
        refine ib_icmp_ge (tgt := 92) hx hb dX1_multiply_64 (by decide) ⟨by omega, by omega⟩ ⟨by omega, by omega⟩ (fun c_64 => ?_) (fun c_64 => absurd c_64 (by omega))
        have hP : va_P (dC, dI) vwCl [(m0, .inr (1, [.int (iI 0), .ref t0, .ref k0, .ref p0, .int (iI ((w : Nat) : Int))])), (t0, .inl (cI, 24, .inl (fun j => iI ((tb a0 a1 j : Nat) : Int)))), (k0, .inl (cI, 12, .inl (fun j => iI (((mx (mulF (rw_ r a0 a1) f) K 12) j : Nat) : Int)))), (p0, .inl (cI, 12, .inl (fun j => iI ((q j : Nat) : Int))))] H := va_P_arr (q0 := 2) (f := fun j => iI (((mx (mulF (rw_ r a0 a1) f) K n) j : Nat) : Int)) (g := fun j => iI (((mx (mulF (rw_ r a0 a1) f) K 12) j : Nat) : Int)) (fun j hj => by rw [show n = 12 by omega]) rfl hP
        have hD : va_D (inW [(m0, .inr (1, [.int th, .ref t0, .ref k0, .ref p0, .int (iI ((w : Nat) : Int))])), (t0, .inl (cI, 24, .inl (fun j => iI ((tb a0 a1 j : Nat) : Int)))), (k0, .inl (cI, 12, .inl (fun j => iI ((K j : Nat) : Int)))), (p0, .inl (cI, 12, .inl (fun j => iI ((q j : Nat) : Int))))]) [(m0, .inr (1, [.int (iI 0), .ref t0, .ref k0, .ref p0, .int (iI ((w : Nat) : Int))])), (t0, .inl (cI, 24, .inl (fun j => iI ((tb a0 a1 j : Nat) : Int)))), (k0, .inl (cI, 12, .inl (fun j => iI (((mx (mulF (rw_ r a0 a1) f) K 12) j : Nat) : Int)))), (p0, .inl (cI, 12, .inl (fun j => iI ((q j : Nat) : Int))))] := va_D_same (w := [(m0, .inr (1, [.int (iI 0), .ref t0, .ref k0, .ref p0, .int (iI ((w : Nat) : Int))])), (t0, .inl (cI, 24, .inl (fun j => iI ((tb a0 a1 j : Nat) : Int)))), (k0, .inl (cI, 12, .inl (fun j => iI (((mx (mulF (rw_ r a0 a1) f) K n) j : Nat) : Int)))), (p0, .inl (cI, 12, .inl (fun j => iI ((q j : Nat) : Int))))]) rfl hD
        refine lv_aload_n hx hb dX1_multiply_92 rfl (lv_at hl 0 rfl) ?_
        refine lv_iload_n hx hb dX1_multiply_93 rfl (lv_at hl 1 rfl) ?_
        refine wr_call (va_runV (As := [.int (iI ((r : Nat) : Int))]) (rest := []) ⟨hx, hb, hml, hown, hts⟩ (mX1_lay l dC dI cI m0 t0 k0 p0 a0 a1 (mx (mulF (rw_ r a0 a1) f) K 12) q (iI 0) w h0 h1 hw hq r (by omega) hK12) (cwV 1 hts gX1_multiply_X1_lay rfl rfl rfl hvX1_lay ⟨Nat.le_of_ble_eq_true rfl, Nat.le_of_ble_eq_true rfl⟩) (bD_pre (ci := 1) (q0 := 0) hK hP hD rfl rfl rfl) rfl rfl hl.1 rfl (lv_room (Nat.le_of_ble_eq_true rfl)) dX1_multiply_94 ⟨Nat.le_of_ble_eq_true rfl, Nat.le_of_ble_eq_true rfl⟩) hS (fun q9 h => inW_same (w := [(m0, .inr (1, [.int (iI 0), .ref t0, .ref k0, .ref p0, .int (iI ((w : Nat) : Int))])), (t0, .inl (cI, 24, .inl (fun j => iI ((tb a0 a1 j : Nat) : Int)))), (k0, .inl (cI, 12, .inl (fun j => iI (((mx (mulF (rw_ r a0 a1) f) K 12) j : Nat) : Int)))), (p0, .inl (cI, 12, .inl (fun j => iI ((q j : Nat) : Int))))]) (w' := [(m0, .inr (1, [.int th, .ref t0, .ref k0, .ref p0, .int (iI ((w : Nat) : Int))])), (t0, .inl (cI, 24, .inl (fun j => iI ((tb a0 a1 j : Nat) : Int)))), (k0, .inl (cI, 12, .inl (fun j => iI ((K j : Nat) : Int)))), (p0, .inl (cI, 12, .inl (fun j => iI ((q j : Nat) : Int))))]) rfl h) (fun H locs hP hz hk hS => ?_)
        have hD : va_D (inW [(m0, .inr (1, [.int th, .ref t0, .ref k0, .ref p0, .int (iI ((w : Nat) : Int))])), (t0, .inl (cI, 24, .inl (fun j => iI ((tb a0 a1 j : Nat) : Int)))), (k0, .inl (cI, 12, .inl (fun j => iI ((K j : Nat) : Int)))), (p0, .inl (cI, 12, .inl (fun j => iI ((q j : Nat) : Int))))]) [(m0, .inr (1, [.int (iI 0), .ref t0, .ref k0, .ref p0, .int (iI ((w : Nat) : Int))])), (t0, .inl (cI, 24, .inl (fun j => iI ((tb (sr0 r (mx (mulF (rw_ r a0 a1) f) K 12) a0) (sr1 r (mx (mulF (rw_ r a0 a1) f) K 12) a1) j : Nat) : Int)))), (k0, .inl (cI, 12, .inl (fun j => iI (((mx (mulF (rw_ r a0 a1) f) K 12) j : Nat) : Int)))), (p0, .inl (cI, 12, .inl (fun j => iI ((q j : Nat) : Int))))] := va_D_same (w := [(m0, .inr (1, [.int (iI 0), .ref t0, .ref k0, .ref p0, .int (iI ((w : Nat) : Int))])), (t0, .inl (cI, 24, .inl (fun j => iI ((tb a0 a1 j : Nat) : Int)))), (k0, .inl (cI, 12, .inl (fun j => iI (((mx (mulF (rw_ r a0 a1) f) K 12) j : Nat) : Int)))), (p0, .inl (cI, 12, .inl (fun j => iI ((q j : Nat) : Int))))]) rfl hD
        refine st_i (y := iI (((mulF (rw_ r a0 a1) f) 0 : Nat) : Int)) (congrArg (fun z : Nat => iI ((z : Nat) : Int)) (mx_in (by decide))) ?_
        have hP : va_P (dC, dI) vwCl [(m0, .inr (1, [.int (iI 0), .ref t0, .ref k0, .ref p0, .int (iI ((w : Nat) : Int))])), (t0, .inl (cI, 24, .inl (fun j => iI ((tb (sr0 r (mulF (rw_ r a0 a1) f) a0) (sr1 r (mulF (rw_ r a0 a1) f) a1) j : Nat) : Int)))), (k0, .inl (cI, 12, .inl (fun j => iI (((mx (mulF (rw_ r a0 a1) f) K 12) j : Nat) : Int)))), (p0, .inl (cI, 12, .inl (fun j => iI ((q j : Nat) : Int))))] H := va_P_arr (q0 := 1) (f := fun j => iI ((tb (sr0 r (mx (mulF (rw_ r a0 a1) f) K 12) a0) (sr1 r (mx (mulF (rw_ r a0 a1) f) K 12) a1) j : Nat) : Int)) (g := fun j => iI ((tb (sr0 r (mulF (rw_ r a0 a1) f) a0) (sr1 r (mulF (rw_ r a0 a1) f) a1) j : Nat) : Int)) (fun j hj => tb_cg (fun i hi => mx_in hi) hj) rfl hP
        have hD : va_D (inW [(m0, .inr (1, [.int th, .ref t0, .ref k0, .ref p0, .int (iI ((w : Nat) : Int))])), (t0, .inl (cI, 24, .inl (fun j => iI ((tb a0 a1 j : Nat) : Int)))), (k0, .inl (cI, 12, .inl (fun j => iI ((K j : Nat) : Int)))), (p0, .inl (cI, 12, .inl (fun j => iI ((q j : Nat) : Int))))]) [(m0, .inr (1, [.int (iI 0), .ref t0, .ref k0, .ref p0, .int (iI ((w : Nat) : Int))])), (t0, .inl (cI, 24, .inl (fun j => iI ((tb (sr0 r (mulF (rw_ r a0 a1) f) a0) (sr1 r (mulF (rw_ r a0 a1) f) a1) j : Nat) : Int)))), (k0, .inl (cI, 12, .inl (fun j => iI (((mx (mulF (rw_ r a0 a1) f) K 12) j : Nat) : Int)))), (p0, .inl (cI, 12, .inl (fun j => iI ((q j : Nat) : Int))))] := va_D_same (w := [(m0, .inr (1, [.int (iI 0), .ref t0, .ref k0, .ref p0, .int (iI ((w : Nat) : Int))])), (t0, .inl (cI, 24, .inl (fun j => iI ((tb (sr0 r (mx (mulF (rw_ r a0 a1) f) K 12) a0) (sr1 r (mx (mulF (rw_ r a0 a1) f) K 12) a1) j : Nat) : Int)))), (k0, .inl (cI, 12, .inl (fun j => iI (((mx (mulF (rw_ r a0 a1) f) K 12) j : Nat) : Int)))), (p0, .inl (cI, 12, .inl (fun j => iI ((q j : Nat) : Int))))]) rfl hD
        refine st_i (y := iI ((mulF (rw_ r a0 a1) f 0 : Nat) : Int)) (congrArg iI (by omega)) ?_
        exact W.iret hx hb hr (fun t ht _ => ⟨rfl, by rw [ht]; exact hP, hS.F ht⟩) hS.2.2 dX1_multiply_97
      | succ j ih_60_3 =>
        intro n hn_60  H locs hP hD hS ls hl
        have hK12 : lt12 (mx (mulF (rw_ r a0 a1) f) K 12) := fun j hj => by rw [mx_in hj]; exact mulF_lt _ _ j hj
        refine lv_iload hx hb dX1_multiply_60 (lv_at hl 3 rfl) ?_
        refine ib_bi hx hb dX1_multiply_62 (by decide) ?_
        refine ib_icmp_ge (tgt := 92) hx hb dX1_multiply_64 (by decide) ⟨by omega, by omega⟩ ⟨by omega, by omega⟩ (fun c_64 => absurd c_64 (by omega)) (fun c_64 => ?_)
        refine lv_aload_n hx hb dX1_multiply_67 rfl (lv_at hl 0 rfl) ?_
        refine va_get (D := (dC, dI)) (ci := 1) (v := .ref k0) (C := RX1) (T := TX1) (N := 5) hx hb hts hinX hown hK hP 0 rfl rfl 2 (by decide) (hts (.fieldLink RX1 13 "ToneRowsModel" "kept" "[I") (by decide +kernel)) (fun _ h9 => h9) rfl dX1_multiply_68 ?_
        refine lv_iload hx hb dX1_multiply_71 (lv_at hl 3 rfl) ?_
        refine lv_aload_n hx hb dX1_multiply_73 rfl (lv_at hl 0 rfl) ?_
        refine lv_iload_n hx hb dX1_multiply_74 rfl (lv_at hl 1 rfl) ?_
        refine lv_iload hx hb dX1_multiply_75 (lv_at hl 3 rfl) ?_
        refine rd_call (va_runV (As := [.int (iI ((r : Nat) : Int)), .int (iI ((n : Nat) : Int))]) (rest := [.int (iI ((n : Nat) : Int)), .ref k0]) ⟨hx, hb, hml, hown, hts⟩ (mX1_at l dC dI cI m0 t0 k0 p0 a0 a1 (mx (mulF (rw_ r a0 a1) f) K n) q (iI 0) w h0 h1 hw hq r n (by omega) (by omega)) (cwV 2 hts gX1_multiply_X1_at rfl rfl rfl hvX1_at ⟨Nat.le_of_ble_eq_true rfl, Nat.le_of_ble_eq_true rfl⟩) (bW_pre (ci := 1) (q0 := 0) hK hP rfl rfl rfl) rfl rfl hl.1 rfl (lv_room (Nat.le_of_ble_eq_true rfl)) dX1_multiply_77 ⟨Nat.le_of_ble_eq_true rfl, Nat.le_of_ble_eq_true rfl⟩) ?_
        have hr_77 := rw_lt h0 h1 r (i := n) (by omega)
        refine lv_iload_n hx hb dX1_multiply_80 rfl (lv_at hl 2 rfl) ?_
        have hmu : rw_ r a0 a1 n * f ≤ 11 * 11 := Nat.mul_le_mul (by omega) hf9
        refine ib_mul (z := (((rw_ r a0 a1 n) * f : Nat) : Int)) hx hb dX1_multiply_81 (by first | omega | rfl | (push_cast; rfl)) ?_
        refine ib_bi hx hb dX1_multiply_82 (by decide) ?_
        refine ib_rem (z := ((((rw_ r a0 a1 n) * f) % 12 : Nat) : Int)) hx hb dX1_multiply_84 (by omega) (by omega) (by omega) (by omega) (by first | omega | rfl) ?_
        refine st_i (y := iI ((mulF (rw_ r a0 a1) f n : Nat) : Int)) (rfl) ?_
        refine ib_ast (f := fun j => iI (((mx (mulF (rw_ r a0 a1) f) K n) j : Nat) : Int)) (i := n) (x := iI ((mulF (rw_ r a0 a1) f n : Nat) : Int)) hx hb hK hP hD hS 2 0 (fun j => iI (((mx (mulF (rw_ r a0 a1) f) K (n + 1)) j : Nat) : Int)) rfl rfl (by first | rfl | omega) (by omega) (by omega) (fun j hj => mx_st) dX1_multiply_85 (fun H locs hP hD hS => ?_)
        have hP : va_P (dC, dI) vwCl [(m0, .inr (1, [.int (iI 0), .ref t0, .ref k0, .ref p0, .int (iI ((w : Nat) : Int))])), (t0, .inl (cI, 24, .inl (fun j => iI ((tb a0 a1 j : Nat) : Int)))), (k0, .inl (cI, 12, .inl (fun j => iI (((mx (mulF (rw_ r a0 a1) f) K (n + 1)) j : Nat) : Int)))), (p0, .inl (cI, 12, .inl (fun j => iI ((q j : Nat) : Int))))] H := hP
        have hD : va_D (inW [(m0, .inr (1, [.int th, .ref t0, .ref k0, .ref p0, .int (iI ((w : Nat) : Int))])), (t0, .inl (cI, 24, .inl (fun j => iI ((tb a0 a1 j : Nat) : Int)))), (k0, .inl (cI, 12, .inl (fun j => iI ((K j : Nat) : Int)))), (p0, .inl (cI, 12, .inl (fun j => iI ((q j : Nat) : Int))))]) [(m0, .inr (1, [.int (iI 0), .ref t0, .ref k0, .ref p0, .int (iI ((w : Nat) : Int))])), (t0, .inl (cI, 24, .inl (fun j => iI ((tb a0 a1 j : Nat) : Int)))), (k0, .inl (cI, 12, .inl (fun j => iI (((mx (mulF (rw_ r a0 a1) f) K (n + 1)) j : Nat) : Int)))), (p0, .inl (cI, 12, .inl (fun j => iI ((q j : Nat) : Int))))] := hD
        refine lv_iinc (v := iI ((n + 1 : Nat) : Int)) (lv' := [(4, .int (iI ((n + 1 : Nat) : Int))), (0, .ref m0), (1, .int (iI ((r : Nat) : Int))), (2, .int (iI ((f : Nat) : Int)))]) hx hb dX1_multiply_86 hl (k := 3) rfl (iI_inc (by omega)) (by decide) rfl (fun ls hl => ?_)
        refine lv_goto (tgt := 60) hx hb dX1_multiply_89 (by decide) ?_
        exact ih_60_3 (n + 1) (by omega)  _ _ hP hD hS _ (lv_sub hl [1, 2, 3, 0] rfl)
    exact lp_60_3 12 0 (by omega)  _ _ hP hD hS _ (lv_sub hl [2, 3, 4, 0] rfl)
  · skip
    refine lv_iload_n hx hb dX1_multiply_0 rfl (lv_at hl 2 rfl) ?_
    refine ib_const hx hb dX1_multiply_1 ?_
    refine ib_icmp_eq (tgt := 22) hx hb dX1_multiply_2 (by decide) ⟨by omega, by omega⟩ ⟨by omega, by omega⟩ (fun c_2 => absurd c_2 (by omega)) (fun c_2 => ?_)
    refine lv_iload_n hx hb dX1_multiply_5 rfl (lv_at hl 2 rfl) ?_
    refine ib_const hx hb dX1_multiply_6 ?_
    refine ib_icmp_eq (tgt := 22) hx hb dX1_multiply_7 (by decide) ⟨by omega, by omega⟩ ⟨by omega, by omega⟩ (fun c_7 => absurd c_7 (by omega)) (fun c_7 => ?_)
    refine lv_iload_n hx hb dX1_multiply_10 rfl (lv_at hl 2 rfl) ?_
    refine ib_bi hx hb dX1_multiply_11 (by decide) ?_
    refine ib_icmp_eq (tgt := 22) hx hb dX1_multiply_13 (by decide) ⟨by omega, by omega⟩ ⟨by omega, by omega⟩ (fun c_13 => absurd c_13 (by omega)) (fun c_13 => ?_)
    refine lv_iload_n hx hb dX1_multiply_16 rfl (lv_at hl 2 rfl) ?_
    refine ib_bi hx hb dX1_multiply_17 (by decide) ?_
    refine ib_icmp_ne (tgt := 26) hx hb dX1_multiply_19 (by decide) ⟨by omega, by omega⟩ ⟨by omega, by omega⟩ (fun c_19 => absurd c_19 (by omega)) (fun c_19 => ?_)
    refine ib_const hx hb dX1_multiply_22 ?_
    refine lv_goto (tgt := 27) hx hb dX1_multiply_23 (by decide) ?_
    refine lv_istore_n (lv' := [(3, .int (iI 1)), (0, .ref m0), (1, .int (iI ((r : Nat) : Int))), (2, .int (iI ((f : Nat) : Int)))]) hx hb dX1_multiply_27 rfl hl (by decide) rfl (fun ls hl => ?_)
    refine lv_aload_n hx hb dX1_multiply_28 rfl (lv_at hl 1 rfl) ?_
    refine lv_iload_n hx hb dX1_multiply_29 rfl (lv_at hl 2 rfl) ?_
    refine rd_call (va_runS (As := [.int (iI ((r : Nat) : Int))]) (rest := [.ref m0]) ⟨hx, hb, hml, hown, hts⟩ (mX1_isRow l ((r : Nat) : Int) ⟨by omega, by omega⟩) (va_cwS 1 hts gX1_multiply_X1_isRow rfl rfl rfl hdX1_isRow ⟨Nat.le_of_ble_eq_true rfl, Nat.le_of_ble_eq_true rfl⟩) tt_pre rfl rfl hl.1 rfl (lv_room (Nat.le_of_ble_eq_true rfl)) dX1_multiply_30 ⟨Nat.le_of_ble_eq_true rfl, Nat.le_of_ble_eq_true rfl⟩) ?_
    refine bb_ne (tgt := 40) hx hb dX1_multiply_33 (by decide) (fun c_33 => ?_) (fun c_33 => absurd c_33 (by omega))
    refine lv_iload_n hx hb dX1_multiply_40 rfl (lv_at hl 0 rfl) ?_
    refine ib_if_eq (tgt := 48) hx hb dX1_multiply_41 (by decide) ⟨by omega, by omega⟩ (fun c_41 => absurd c_41 (by decide)) (fun c_41 => ?_)
    refine ib_const hx hb dX1_multiply_44 ?_
    refine lv_goto (tgt := 49) hx hb dX1_multiply_45 (by decide) ?_
    refine wr_call (va_runV (As := [.int (iI 0)]) (rest := []) ⟨hx, hb, hml, hown, hts⟩ (mX1_goesWell l dC dI cI m0 t0 k0 p0 a0 a1 K q th w h0 h1 hw hq 0 ⟨by omega, by omega⟩) (cwV 1 hts gX1_multiply_X1_goesWell rfl rfl rfl hvX1_goesWell ⟨Nat.le_of_ble_eq_true rfl, Nat.le_of_ble_eq_true rfl⟩) (bD_pre (ci := 1) (q0 := 0) hK hP hD rfl rfl rfl) rfl rfl hl.1 rfl (lv_room (Nat.le_of_ble_eq_true rfl)) dX1_multiply_49 ⟨Nat.le_of_ble_eq_true rfl, Nat.le_of_ble_eq_true rfl⟩) hS (fun q9 h => inW_same (w := [(m0, .inr (1, [.int th, .ref t0, .ref k0, .ref p0, .int (iI ((w : Nat) : Int))])), (t0, .inl (cI, 24, .inl (fun j => iI ((tb a0 a1 j : Nat) : Int)))), (k0, .inl (cI, 12, .inl (fun j => iI ((K j : Nat) : Int)))), (p0, .inl (cI, 12, .inl (fun j => iI ((q j : Nat) : Int))))]) (w' := [(m0, .inr (1, [.int th, .ref t0, .ref k0, .ref p0, .int (iI ((w : Nat) : Int))])), (t0, .inl (cI, 24, .inl (fun j => iI ((tb a0 a1 j : Nat) : Int)))), (k0, .inl (cI, 12, .inl (fun j => iI ((K j : Nat) : Int)))), (p0, .inl (cI, 12, .inl (fun j => iI ((q j : Nat) : Int))))]) rfl h) (fun H locs hP hz hk hS => ?_)
    have hD : va_D (inW [(m0, .inr (1, [.int th, .ref t0, .ref k0, .ref p0, .int (iI ((w : Nat) : Int))])), (t0, .inl (cI, 24, .inl (fun j => iI ((tb a0 a1 j : Nat) : Int)))), (k0, .inl (cI, 12, .inl (fun j => iI ((K j : Nat) : Int)))), (p0, .inl (cI, 12, .inl (fun j => iI ((q j : Nat) : Int))))]) [(m0, .inr (1, [.int (iI 0), .ref t0, .ref k0, .ref p0, .int (iI ((w : Nat) : Int))])), (t0, .inl (cI, 24, .inl (fun j => iI ((tb a0 a1 j : Nat) : Int)))), (k0, .inl (cI, 12, .inl (fun j => iI ((K j : Nat) : Int)))), (p0, .inl (cI, 12, .inl (fun j => iI ((q j : Nat) : Int))))] := va_D_same (w := [(m0, .inr (1, [.int th, .ref t0, .ref k0, .ref p0, .int (iI ((w : Nat) : Int))])), (t0, .inl (cI, 24, .inl (fun j => iI ((tb a0 a1 j : Nat) : Int)))), (k0, .inl (cI, 12, .inl (fun j => iI ((K j : Nat) : Int)))), (p0, .inl (cI, 12, .inl (fun j => iI ((q j : Nat) : Int))))]) rfl hD
    refine st_i (y := iI 1) (congrArg iI (bI_t (by decide))) ?_
    refine ib_if_ne (tgt := 57) hx hb dX1_multiply_52 (by decide) ⟨by omega, by omega⟩ (fun c_52 => ?_) (fun c_52 => absurd c_52 (by decide))
    refine ib_const hx hb dX1_multiply_57 ?_
    refine lv_istore (lv' := [(4, .int (iI 0)), (3, .int (iI 1)), (0, .ref m0), (1, .int (iI ((r : Nat) : Int))), (2, .int (iI ((f : Nat) : Int)))]) hx hb dX1_multiply_58 hl (by decide) rfl (fun ls hl => ?_)
    have hP : va_P (dC, dI) vwCl [(m0, .inr (1, [.int (iI 0), .ref t0, .ref k0, .ref p0, .int (iI ((w : Nat) : Int))])), (t0, .inl (cI, 24, .inl (fun j => iI ((tb a0 a1 j : Nat) : Int)))), (k0, .inl (cI, 12, .inl (fun j => iI (((mx (mulF (rw_ r a0 a1) f) K 0) j : Nat) : Int)))), (p0, .inl (cI, 12, .inl (fun j => iI ((q j : Nat) : Int))))] H := va_P_arr (q0 := 2) (f := fun j => iI ((K j : Nat) : Int)) (g := fun j => iI (((mx (mulF (rw_ r a0 a1) f) K 0) j : Nat) : Int)) (fun j hj => by rw [mx_0]) rfl hP
    have hD : va_D (inW [(m0, .inr (1, [.int th, .ref t0, .ref k0, .ref p0, .int (iI ((w : Nat) : Int))])), (t0, .inl (cI, 24, .inl (fun j => iI ((tb a0 a1 j : Nat) : Int)))), (k0, .inl (cI, 12, .inl (fun j => iI ((K j : Nat) : Int)))), (p0, .inl (cI, 12, .inl (fun j => iI ((q j : Nat) : Int))))]) [(m0, .inr (1, [.int (iI 0), .ref t0, .ref k0, .ref p0, .int (iI ((w : Nat) : Int))])), (t0, .inl (cI, 24, .inl (fun j => iI ((tb a0 a1 j : Nat) : Int)))), (k0, .inl (cI, 12, .inl (fun j => iI (((mx (mulF (rw_ r a0 a1) f) K 0) j : Nat) : Int)))), (p0, .inl (cI, 12, .inl (fun j => iI ((q j : Nat) : Int))))] := va_D_same (w := [(m0, .inr (1, [.int (iI 0), .ref t0, .ref k0, .ref p0, .int (iI ((w : Nat) : Int))])), (t0, .inl (cI, 24, .inl (fun j => iI ((tb a0 a1 j : Nat) : Int)))), (k0, .inl (cI, 12, .inl (fun j => iI ((K j : Nat) : Int)))), (p0, .inl (cI, 12, .inl (fun j => iI ((q j : Nat) : Int))))]) rfl hD
    have lp_60_4 : ∀ (j n : Nat), n + j = 12 → ∀ (H : Heap) (locs : List Loc), va_P (dC, dI) vwCl [(m0, .inr (1, [.int (iI 0), .ref t0, .ref k0, .ref p0, .int (iI ((w : Nat) : Int))])), (t0, .inl (cI, 24, .inl (fun j => iI ((tb a0 a1 j : Nat) : Int)))), (k0, .inl (cI, 12, .inl (fun j => iI (((mx (mulF (rw_ r a0 a1) f) K n) j : Nat) : Int)))), (p0, .inl (cI, 12, .inl (fun j => iI ((q j : Nat) : Int))))] H → va_D (inW [(m0, .inr (1, [.int th, .ref t0, .ref k0, .ref p0, .int (iI ((w : Nat) : Int))])), (t0, .inl (cI, 24, .inl (fun j => iI ((tb a0 a1 j : Nat) : Int)))), (k0, .inl (cI, 12, .inl (fun j => iI ((K j : Nat) : Int)))), (p0, .inl (cI, 12, .inl (fun j => iI ((q j : Nat) : Int))))]) [(m0, .inr (1, [.int (iI 0), .ref t0, .ref k0, .ref p0, .int (iI ((w : Nat) : Int))])), (t0, .inl (cI, 24, .inl (fun j => iI ((tb a0 a1 j : Nat) : Int)))), (k0, .inl (cI, 12, .inl (fun j => iI (((mx (mulF (rw_ r a0 a1) f) K n) j : Nat) : Int)))), (p0, .inl (cI, 12, .inl (fun j => iI ((q j : Nat) : Int))))] → va_S (inW [(m0, .inr (1, [.int th, .ref t0, .ref k0, .ref p0, .int (iI ((w : Nat) : Int))])), (t0, .inl (cI, 24, .inl (fun j => iI ((tb a0 a1 j : Nat) : Int)))), (k0, .inl (cI, 12, .inl (fun j => iI ((K j : Nat) : Int)))), (p0, .inl (cI, 12, .inl (fun j => iI ((q j : Nat) : Int))))]) s.heap H locs → ∀ ls : Array Slot, lv_has ls 5 [(0, .ref m0), (1, .int (iI ((r : Nat) : Int))), (2, .int (iI ((f : Nat) : Int))), (4, .int (iI ((n : Nat) : Int)))] → W P0 l e (headSpec wsX1_multiply { frames := 2, cells := 0, slots := 0, locals := 44 }).room s m ([.ref m0, .int (iI ((r : Nat) : Int)), .int (iI ((f : Nat) : Int))] : List Value).toArray below meth c H locs 0 0 (MQ below (wrQ (dC, dI) (inW [(m0, .inr (1, [.int th, .ref t0, .ref k0, .ref p0, .int (iI ((w : Nat) : Int))])), (t0, .inl (cI, 24, .inl (fun j => iI ((tb a0 a1 j : Nat) : Int)))), (k0, .inl (cI, 12, .inl (fun j => iI ((K j : Nat) : Int)))), (p0, .inl (cI, 12, .inl (fun j => iI ((q j : Nat) : Int))))]) [(m0, .inr (1, [.int (iI 0), .ref t0, .ref k0, .ref p0, .int (iI ((w : Nat) : Int))])), (t0, .inl (cI, 24, .inl (fun j => iI ((tb (sr0 r (mulF (rw_ r a0 a1) f) a0) (sr1 r (mulF (rw_ r a0 a1) f) a1) j : Nat) : Int)))), (k0, .inl (cI, 12, .inl (fun j => iI (((mx (mulF (rw_ r a0 a1) f) K 12) j : Nat) : Int)))), (p0, .inl (cI, 12, .inl (fun j => iI ((q j : Nat) : Int))))] (some (.int (iI ((mulF (rw_ r a0 a1) f 0 : Nat) : Int))))) ([.ref m0, .int (iI ((r : Nat) : Int)), .int (iI ((f : Nat) : Int))] : List Value).toArray s 0 0 (inW [(m0, .inr (1, [.int th, .ref t0, .ref k0, .ref p0, .int (iI ((w : Nat) : Int))])), (t0, .inl (cI, 24, .inl (fun j => iI ((tb a0 a1 j : Nat) : Int)))), (k0, .inl (cI, 12, .inl (fun j => iI ((K j : Nat) : Int)))), (p0, .inl (cI, 12, .inl (fun j => iI ((q j : Nat) : Int))))])) (F0 m 60 ls []) := by
      intro j
      induction j with
      | zero =>
        intro n hn_60  H locs hP hD hS ls hl
        have hK12 : lt12 (mx (mulF (rw_ r a0 a1) f) K 12) := fun j hj => by rw [mx_in hj]; exact mulF_lt _ _ j hj
        refine lv_iload hx hb dX1_multiply_60 (lv_at hl 3 rfl) ?_
        refine ib_bi hx hb dX1_multiply_62 (by decide) ?_
        refine ib_icmp_ge (tgt := 92) hx hb dX1_multiply_64 (by decide) ⟨by omega, by omega⟩ ⟨by omega, by omega⟩ (fun c_64 => ?_) (fun c_64 => absurd c_64 (by omega))
        have hP : va_P (dC, dI) vwCl [(m0, .inr (1, [.int (iI 0), .ref t0, .ref k0, .ref p0, .int (iI ((w : Nat) : Int))])), (t0, .inl (cI, 24, .inl (fun j => iI ((tb a0 a1 j : Nat) : Int)))), (k0, .inl (cI, 12, .inl (fun j => iI (((mx (mulF (rw_ r a0 a1) f) K 12) j : Nat) : Int)))), (p0, .inl (cI, 12, .inl (fun j => iI ((q j : Nat) : Int))))] H := va_P_arr (q0 := 2) (f := fun j => iI (((mx (mulF (rw_ r a0 a1) f) K n) j : Nat) : Int)) (g := fun j => iI (((mx (mulF (rw_ r a0 a1) f) K 12) j : Nat) : Int)) (fun j hj => by rw [show n = 12 by omega]) rfl hP
        have hD : va_D (inW [(m0, .inr (1, [.int th, .ref t0, .ref k0, .ref p0, .int (iI ((w : Nat) : Int))])), (t0, .inl (cI, 24, .inl (fun j => iI ((tb a0 a1 j : Nat) : Int)))), (k0, .inl (cI, 12, .inl (fun j => iI ((K j : Nat) : Int)))), (p0, .inl (cI, 12, .inl (fun j => iI ((q j : Nat) : Int))))]) [(m0, .inr (1, [.int (iI 0), .ref t0, .ref k0, .ref p0, .int (iI ((w : Nat) : Int))])), (t0, .inl (cI, 24, .inl (fun j => iI ((tb a0 a1 j : Nat) : Int)))), (k0, .inl (cI, 12, .inl (fun j => iI (((mx (mulF (rw_ r a0 a1) f) K 12) j : Nat) : Int)))), (p0, .inl (cI, 12, .inl (fun j => iI ((q j : Nat) : Int))))] := va_D_same (w := [(m0, .inr (1, [.int (iI 0), .ref t0, .ref k0, .ref p0, .int (iI ((w : Nat) : Int))])), (t0, .inl (cI, 24, .inl (fun j => iI ((tb a0 a1 j : Nat) : Int)))), (k0, .inl (cI, 12, .inl (fun j => iI (((mx (mulF (rw_ r a0 a1) f) K n) j : Nat) : Int)))), (p0, .inl (cI, 12, .inl (fun j => iI ((q j : Nat) : Int))))]) rfl hD
        refine lv_aload_n hx hb dX1_multiply_92 rfl (lv_at hl 0 rfl) ?_
        refine lv_iload_n hx hb dX1_multiply_93 rfl (lv_at hl 1 rfl) ?_
        refine wr_call (va_runV (As := [.int (iI ((r : Nat) : Int))]) (rest := []) ⟨hx, hb, hml, hown, hts⟩ (mX1_lay l dC dI cI m0 t0 k0 p0 a0 a1 (mx (mulF (rw_ r a0 a1) f) K 12) q (iI 0) w h0 h1 hw hq r (by omega) hK12) (cwV 1 hts gX1_multiply_X1_lay rfl rfl rfl hvX1_lay ⟨Nat.le_of_ble_eq_true rfl, Nat.le_of_ble_eq_true rfl⟩) (bD_pre (ci := 1) (q0 := 0) hK hP hD rfl rfl rfl) rfl rfl hl.1 rfl (lv_room (Nat.le_of_ble_eq_true rfl)) dX1_multiply_94 ⟨Nat.le_of_ble_eq_true rfl, Nat.le_of_ble_eq_true rfl⟩) hS (fun q9 h => inW_same (w := [(m0, .inr (1, [.int (iI 0), .ref t0, .ref k0, .ref p0, .int (iI ((w : Nat) : Int))])), (t0, .inl (cI, 24, .inl (fun j => iI ((tb a0 a1 j : Nat) : Int)))), (k0, .inl (cI, 12, .inl (fun j => iI (((mx (mulF (rw_ r a0 a1) f) K 12) j : Nat) : Int)))), (p0, .inl (cI, 12, .inl (fun j => iI ((q j : Nat) : Int))))]) (w' := [(m0, .inr (1, [.int th, .ref t0, .ref k0, .ref p0, .int (iI ((w : Nat) : Int))])), (t0, .inl (cI, 24, .inl (fun j => iI ((tb a0 a1 j : Nat) : Int)))), (k0, .inl (cI, 12, .inl (fun j => iI ((K j : Nat) : Int)))), (p0, .inl (cI, 12, .inl (fun j => iI ((q j : Nat) : Int))))]) rfl h) (fun H locs hP hz hk hS => ?_)
        have hD : va_D (inW [(m0, .inr (1, [.int th, .ref t0, .ref k0, .ref p0, .int (iI ((w : Nat) : Int))])), (t0, .inl (cI, 24, .inl (fun j => iI ((tb a0 a1 j : Nat) : Int)))), (k0, .inl (cI, 12, .inl (fun j => iI ((K j : Nat) : Int)))), (p0, .inl (cI, 12, .inl (fun j => iI ((q j : Nat) : Int))))]) [(m0, .inr (1, [.int (iI 0), .ref t0, .ref k0, .ref p0, .int (iI ((w : Nat) : Int))])), (t0, .inl (cI, 24, .inl (fun j => iI ((tb (sr0 r (mx (mulF (rw_ r a0 a1) f) K 12) a0) (sr1 r (mx (mulF (rw_ r a0 a1) f) K 12) a1) j : Nat) : Int)))), (k0, .inl (cI, 12, .inl (fun j => iI (((mx (mulF (rw_ r a0 a1) f) K 12) j : Nat) : Int)))), (p0, .inl (cI, 12, .inl (fun j => iI ((q j : Nat) : Int))))] := va_D_same (w := [(m0, .inr (1, [.int (iI 0), .ref t0, .ref k0, .ref p0, .int (iI ((w : Nat) : Int))])), (t0, .inl (cI, 24, .inl (fun j => iI ((tb a0 a1 j : Nat) : Int)))), (k0, .inl (cI, 12, .inl (fun j => iI (((mx (mulF (rw_ r a0 a1) f) K 12) j : Nat) : Int)))), (p0, .inl (cI, 12, .inl (fun j => iI ((q j : Nat) : Int))))]) rfl hD
        refine st_i (y := iI (((mulF (rw_ r a0 a1) f) 0 : Nat) : Int)) (congrArg (fun z : Nat => iI ((z : Nat) : Int)) (mx_in (by decide))) ?_
        have hP : va_P (dC, dI) vwCl [(m0, .inr (1, [.int (iI 0), .ref t0, .ref k0, .ref p0, .int (iI ((w : Nat) : Int))])), (t0, .inl (cI, 24, .inl (fun j => iI ((tb (sr0 r (mulF (rw_ r a0 a1) f) a0) (sr1 r (mulF (rw_ r a0 a1) f) a1) j : Nat) : Int)))), (k0, .inl (cI, 12, .inl (fun j => iI (((mx (mulF (rw_ r a0 a1) f) K 12) j : Nat) : Int)))), (p0, .inl (cI, 12, .inl (fun j => iI ((q j : Nat) : Int))))] H := va_P_arr (q0 := 1) (f := fun j => iI ((tb (sr0 r (mx (mulF (rw_ r a0 a1) f) K 12) a0) (sr1 r (mx (mulF (rw_ r a0 a1) f) K 12) a1) j : Nat) : Int)) (g := fun j => iI ((tb (sr0 r (mulF (rw_ r a0 a1) f) a0) (sr1 r (mulF (rw_ r a0 a1) f) a1) j : Nat) : Int)) (fun j hj => tb_cg (fun i hi => mx_in hi) hj) rfl hP
        have hD : va_D (inW [(m0, .inr (1, [.int th, .ref t0, .ref k0, .ref p0, .int (iI ((w : Nat) : Int))])), (t0, .inl (cI, 24, .inl (fun j => iI ((tb a0 a1 j : Nat) : Int)))), (k0, .inl (cI, 12, .inl (fun j => iI ((K j : Nat) : Int)))), (p0, .inl (cI, 12, .inl (fun j => iI ((q j : Nat) : Int))))]) [(m0, .inr (1, [.int (iI 0), .ref t0, .ref k0, .ref p0, .int (iI ((w : Nat) : Int))])), (t0, .inl (cI, 24, .inl (fun j => iI ((tb (sr0 r (mulF (rw_ r a0 a1) f) a0) (sr1 r (mulF (rw_ r a0 a1) f) a1) j : Nat) : Int)))), (k0, .inl (cI, 12, .inl (fun j => iI (((mx (mulF (rw_ r a0 a1) f) K 12) j : Nat) : Int)))), (p0, .inl (cI, 12, .inl (fun j => iI ((q j : Nat) : Int))))] := va_D_same (w := [(m0, .inr (1, [.int (iI 0), .ref t0, .ref k0, .ref p0, .int (iI ((w : Nat) : Int))])), (t0, .inl (cI, 24, .inl (fun j => iI ((tb (sr0 r (mx (mulF (rw_ r a0 a1) f) K 12) a0) (sr1 r (mx (mulF (rw_ r a0 a1) f) K 12) a1) j : Nat) : Int)))), (k0, .inl (cI, 12, .inl (fun j => iI (((mx (mulF (rw_ r a0 a1) f) K 12) j : Nat) : Int)))), (p0, .inl (cI, 12, .inl (fun j => iI ((q j : Nat) : Int))))]) rfl hD
        refine st_i (y := iI ((mulF (rw_ r a0 a1) f 0 : Nat) : Int)) (congrArg iI (by omega)) ?_
        exact W.iret hx hb hr (fun t ht _ => ⟨rfl, by rw [ht]; exact hP, hS.F ht⟩) hS.2.2 dX1_multiply_97
      | succ j ih_60_4 =>
        intro n hn_60  H locs hP hD hS ls hl
        have hK12 : lt12 (mx (mulF (rw_ r a0 a1) f) K 12) := fun j hj => by rw [mx_in hj]; exact mulF_lt _ _ j hj
        refine lv_iload hx hb dX1_multiply_60 (lv_at hl 3 rfl) ?_
        refine ib_bi hx hb dX1_multiply_62 (by decide) ?_
        refine ib_icmp_ge (tgt := 92) hx hb dX1_multiply_64 (by decide) ⟨by omega, by omega⟩ ⟨by omega, by omega⟩ (fun c_64 => absurd c_64 (by omega)) (fun c_64 => ?_)
        refine lv_aload_n hx hb dX1_multiply_67 rfl (lv_at hl 0 rfl) ?_
        refine va_get (D := (dC, dI)) (ci := 1) (v := .ref k0) (C := RX1) (T := TX1) (N := 5) hx hb hts hinX hown hK hP 0 rfl rfl 2 (by decide) (hts (.fieldLink RX1 13 "ToneRowsModel" "kept" "[I") (by decide +kernel)) (fun _ h9 => h9) rfl dX1_multiply_68 ?_
        refine lv_iload hx hb dX1_multiply_71 (lv_at hl 3 rfl) ?_
        refine lv_aload_n hx hb dX1_multiply_73 rfl (lv_at hl 0 rfl) ?_
        refine lv_iload_n hx hb dX1_multiply_74 rfl (lv_at hl 1 rfl) ?_
        refine lv_iload hx hb dX1_multiply_75 (lv_at hl 3 rfl) ?_
        refine rd_call (va_runV (As := [.int (iI ((r : Nat) : Int)), .int (iI ((n : Nat) : Int))]) (rest := [.int (iI ((n : Nat) : Int)), .ref k0]) ⟨hx, hb, hml, hown, hts⟩ (mX1_at l dC dI cI m0 t0 k0 p0 a0 a1 (mx (mulF (rw_ r a0 a1) f) K n) q (iI 0) w h0 h1 hw hq r n (by omega) (by omega)) (cwV 2 hts gX1_multiply_X1_at rfl rfl rfl hvX1_at ⟨Nat.le_of_ble_eq_true rfl, Nat.le_of_ble_eq_true rfl⟩) (bW_pre (ci := 1) (q0 := 0) hK hP rfl rfl rfl) rfl rfl hl.1 rfl (lv_room (Nat.le_of_ble_eq_true rfl)) dX1_multiply_77 ⟨Nat.le_of_ble_eq_true rfl, Nat.le_of_ble_eq_true rfl⟩) ?_
        have hr_77 := rw_lt h0 h1 r (i := n) (by omega)
        refine lv_iload_n hx hb dX1_multiply_80 rfl (lv_at hl 2 rfl) ?_
        have hmu : rw_ r a0 a1 n * f ≤ 11 * 11 := Nat.mul_le_mul (by omega) hf9
        refine ib_mul (z := (((rw_ r a0 a1 n) * f : Nat) : Int)) hx hb dX1_multiply_81 (by first | omega | rfl | (push_cast; rfl)) ?_
        refine ib_bi hx hb dX1_multiply_82 (by decide) ?_
        refine ib_rem (z := ((((rw_ r a0 a1 n) * f) % 12 : Nat) : Int)) hx hb dX1_multiply_84 (by omega) (by omega) (by omega) (by omega) (by first | omega | rfl) ?_
        refine st_i (y := iI ((mulF (rw_ r a0 a1) f n : Nat) : Int)) (rfl) ?_
        refine ib_ast (f := fun j => iI (((mx (mulF (rw_ r a0 a1) f) K n) j : Nat) : Int)) (i := n) (x := iI ((mulF (rw_ r a0 a1) f n : Nat) : Int)) hx hb hK hP hD hS 2 0 (fun j => iI (((mx (mulF (rw_ r a0 a1) f) K (n + 1)) j : Nat) : Int)) rfl rfl (by first | rfl | omega) (by omega) (by omega) (fun j hj => mx_st) dX1_multiply_85 (fun H locs hP hD hS => ?_)
        have hP : va_P (dC, dI) vwCl [(m0, .inr (1, [.int (iI 0), .ref t0, .ref k0, .ref p0, .int (iI ((w : Nat) : Int))])), (t0, .inl (cI, 24, .inl (fun j => iI ((tb a0 a1 j : Nat) : Int)))), (k0, .inl (cI, 12, .inl (fun j => iI (((mx (mulF (rw_ r a0 a1) f) K (n + 1)) j : Nat) : Int)))), (p0, .inl (cI, 12, .inl (fun j => iI ((q j : Nat) : Int))))] H := hP
        have hD : va_D (inW [(m0, .inr (1, [.int th, .ref t0, .ref k0, .ref p0, .int (iI ((w : Nat) : Int))])), (t0, .inl (cI, 24, .inl (fun j => iI ((tb a0 a1 j : Nat) : Int)))), (k0, .inl (cI, 12, .inl (fun j => iI ((K j : Nat) : Int)))), (p0, .inl (cI, 12, .inl (fun j => iI ((q j : Nat) : Int))))]) [(m0, .inr (1, [.int (iI 0), .ref t0, .ref k0, .ref p0, .int (iI ((w : Nat) : Int))])), (t0, .inl (cI, 24, .inl (fun j => iI ((tb a0 a1 j : Nat) : Int)))), (k0, .inl (cI, 12, .inl (fun j => iI (((mx (mulF (rw_ r a0 a1) f) K (n + 1)) j : Nat) : Int)))), (p0, .inl (cI, 12, .inl (fun j => iI ((q j : Nat) : Int))))] := hD
        refine lv_iinc (v := iI ((n + 1 : Nat) : Int)) (lv' := [(4, .int (iI ((n + 1 : Nat) : Int))), (0, .ref m0), (1, .int (iI ((r : Nat) : Int))), (2, .int (iI ((f : Nat) : Int)))]) hx hb dX1_multiply_86 hl (k := 3) rfl (iI_inc (by omega)) (by decide) rfl (fun ls hl => ?_)
        refine lv_goto (tgt := 60) hx hb dX1_multiply_89 (by decide) ?_
        exact ih_60_4 (n + 1) (by omega)  _ _ hP hD hS _ (lv_sub hl [1, 2, 3, 0] rfl)
    exact lp_60_4 12 0 (by omega)  _ _ hP hD hS _ (lv_sub hl [2, 3, 4, 0] rfl)

set_option maxHeartbeats 4000000 in
set_option maxRecDepth 100000 in
theorem mX1_multiply_x1 (l : Launch) (dC : Nat → ClassId) (dI : Nat → Nat → Nat) (cI : ClassId) (m0 t0 k0 p0 : Nat) (a0 a1 K q : Nat → Nat) (th : Int32) (w : Nat) (h0 : lt12 a0) (h1 : lt12 a1) (hw : w ≤ 12) (hq : ∀ i, i < w → q i < 12) (z0 z1 : Int) (hz0 : inI z0) (hz1 : inI z1) (hbad : ¬ (z0 = 0 ∨ z0 = 1)) : wr l yX1_multiply wsX1_multiply { frames := 1, cells := 0, slots := 0, locals := 21 } [.ref m0, .int (iI z0), .int (iI z1)] (dC, dI) [(m0, .inr (1, [.int th, .ref t0, .ref k0, .ref p0, .int (iI ((w : Nat) : Int))])), (t0, .inl (cI, 24, .inl (fun j => iI ((tb a0 a1 j : Nat) : Int)))), (k0, .inl (cI, 12, .inl (fun j => iI ((K j : Nat) : Int)))), (p0, .inl (cI, 12, .inl (fun j => iI ((q j : Nat) : Int))))] [(cI, .int)] [(m0, .inr (1, [.int (iI 1), .ref t0, .ref k0, .ref p0, .int (iI ((w : Nat) : Int))])), (t0, .inl (cI, 24, .inl (fun j => iI ((tb a0 a1 j : Nat) : Int)))), (k0, .inl (cI, 12, .inl (fun j => iI ((K j : Nat) : Int)))), (p0, .inl (cI, 12, .inl (fun j => iI ((q j : Nat) : Int))))] (some (.int (iI 0))) := by
  refine Met.ofW (cc := cX1_multiply) (maxL := 5) (ret := (some .int)) (by decide) rfl ?_
  intro P0 e s m args below meth c s₁ B hml hv
  obtain ⟨rfl, hP, hK, hD0⟩ := hv
  have hx := B.exec
  have hb := B.bytes
  have hr := B.returns
  have hts := atoms_spec (ws := wsX1_multiply) B.pre
  have hown : s.vm.findClass RX1 = some m.cls := findClass_of_methodNamed B.named
  have hlocks := B.notSynchronized
  have hinX : ∀ w ∈ u_ws RX1 TX1 5, w ∈ wsX1_multiply := by decide +kernel
  have hD : va_D (inW [(m0, .inr (1, [.int th, .ref t0, .ref k0, .ref p0, .int (iI ((w : Nat) : Int))])), (t0, .inl (cI, 24, .inl (fun j => iI ((tb a0 a1 j : Nat) : Int)))), (k0, .inl (cI, 12, .inl (fun j => iI ((K j : Nat) : Int)))), (p0, .inl (cI, 12, .inl (fun j => iI ((q j : Nat) : Int))))]) [(m0, .inr (1, [.int th, .ref t0, .ref k0, .ref p0, .int (iI ((w : Nat) : Int))])), (t0, .inl (cI, 24, .inl (fun j => iI ((tb a0 a1 j : Nat) : Int)))), (k0, .inl (cI, 12, .inl (fun j => iI ((K j : Nat) : Int)))), (p0, .inl (cI, 12, .inl (fun j => iI ((q j : Nat) : Int))))] := va_D_in hD0
  have hS : va_S (inW [(m0, .inr (1, [.int th, .ref t0, .ref k0, .ref p0, .int (iI ((w : Nat) : Int))])), (t0, .inl (cI, 24, .inl (fun j => iI ((tb a0 a1 j : Nat) : Int)))), (k0, .inl (cI, 12, .inl (fun j => iI ((K j : Nat) : Int)))), (p0, .inl (cI, 12, .inl (fun j => iI ((q j : Nat) : Int))))]) s.heap s.heap [] := va_S.rf
  have hl := lv_entry ([.ref m0, .int (iI z0), .int (iI z1)]) (n := 5) (Nat.le_of_ble_eq_true rfl)
  rw [lg_entry_eq]
  generalize (lg_sl ([.ref m0, .int (iI z0), .int (iI z1)]) ++ List.replicate (5 - (lg_sl ([.ref m0, .int (iI z0), .int (iI z1)])).length) Slot.unset).toArray = ls at hl ⊢
  have hl : lv_has ls 5 [(0, .ref m0), (1, .int (iI z0)), (2, .int (iI z1))] := hl
  have hza0 := hz0.1
  have hza1 := hz1.1
  have hzb0 := hz0.2
  have hzb1 := hz1.2
  refine lv_iload_n hx hb dX1_multiply_0 rfl (lv_at hl 2 rfl) ?_
  refine ib_const hx hb dX1_multiply_1 ?_
  refine ib_icmp_eq (tgt := 22) hx hb dX1_multiply_2 (by decide) ⟨by omega, by omega⟩ ⟨by omega, by omega⟩ (fun c_2 => ?_) (fun c_2 => ?_)
  · skip
    refine ib_const hx hb dX1_multiply_22 ?_
    refine lv_goto (tgt := 27) hx hb dX1_multiply_23 (by decide) ?_
    refine lv_istore_n (lv' := [(3, .int (iI 1)), (0, .ref m0), (1, .int (iI z0)), (2, .int (iI z1))]) hx hb dX1_multiply_27 rfl hl (by decide) rfl (fun ls hl => ?_)
    refine lv_aload_n hx hb dX1_multiply_28 rfl (lv_at hl 1 rfl) ?_
    refine lv_iload_n hx hb dX1_multiply_29 rfl (lv_at hl 2 rfl) ?_
    refine rd_call (va_runS (As := [.int (iI z0)]) (rest := [.ref m0]) ⟨hx, hb, hml, hown, hts⟩ (mX1_isRow l z0 ⟨by omega, by omega⟩) (va_cwS 1 hts gX1_multiply_X1_isRow rfl rfl rfl hdX1_isRow ⟨Nat.le_of_ble_eq_true rfl, Nat.le_of_ble_eq_true rfl⟩) tt_pre rfl rfl hl.1 rfl (lv_room (Nat.le_of_ble_eq_true rfl)) dX1_multiply_30 ⟨Nat.le_of_ble_eq_true rfl, Nat.le_of_ble_eq_true rfl⟩) ?_
    refine bb_ne (tgt := 40) hx hb dX1_multiply_33 (by decide) (fun c_33 => ?_) (fun c_33 => ?_)
    · skip
      refine lv_iload_n hx hb dX1_multiply_40 rfl (lv_at hl 0 rfl) ?_
      refine ib_if_eq (tgt := 48) hx hb dX1_multiply_41 (by decide) ⟨by omega, by omega⟩ (fun c_41 => absurd c_41 (by decide)) (fun c_41 => ?_)
      refine ib_const hx hb dX1_multiply_44 ?_
      refine lv_goto (tgt := 49) hx hb dX1_multiply_45 (by decide) ?_
      exfalso; omega
    · skip
      refine ib_const hx hb dX1_multiply_36 ?_
      refine lv_goto (tgt := 49) hx hb dX1_multiply_37 (by decide) ?_
      refine wr_call (va_runV (As := [.int (iI 1)]) (rest := []) ⟨hx, hb, hml, hown, hts⟩ (mX1_goesWell l dC dI cI m0 t0 k0 p0 a0 a1 K q th w h0 h1 hw hq 1 ⟨by omega, by omega⟩) (cwV 1 hts gX1_multiply_X1_goesWell rfl rfl rfl hvX1_goesWell ⟨Nat.le_of_ble_eq_true rfl, Nat.le_of_ble_eq_true rfl⟩) (bD_pre (ci := 1) (q0 := 0) hK hP hD rfl rfl rfl) rfl rfl hl.1 rfl (lv_room (Nat.le_of_ble_eq_true rfl)) dX1_multiply_49 ⟨Nat.le_of_ble_eq_true rfl, Nat.le_of_ble_eq_true rfl⟩) hS (fun q9 h => inW_same (w := [(m0, .inr (1, [.int th, .ref t0, .ref k0, .ref p0, .int (iI ((w : Nat) : Int))])), (t0, .inl (cI, 24, .inl (fun j => iI ((tb a0 a1 j : Nat) : Int)))), (k0, .inl (cI, 12, .inl (fun j => iI ((K j : Nat) : Int)))), (p0, .inl (cI, 12, .inl (fun j => iI ((q j : Nat) : Int))))]) (w' := [(m0, .inr (1, [.int th, .ref t0, .ref k0, .ref p0, .int (iI ((w : Nat) : Int))])), (t0, .inl (cI, 24, .inl (fun j => iI ((tb a0 a1 j : Nat) : Int)))), (k0, .inl (cI, 12, .inl (fun j => iI ((K j : Nat) : Int)))), (p0, .inl (cI, 12, .inl (fun j => iI ((q j : Nat) : Int))))]) rfl h) (fun H locs hP hz hk hS => ?_)
      have hD : va_D (inW [(m0, .inr (1, [.int th, .ref t0, .ref k0, .ref p0, .int (iI ((w : Nat) : Int))])), (t0, .inl (cI, 24, .inl (fun j => iI ((tb a0 a1 j : Nat) : Int)))), (k0, .inl (cI, 12, .inl (fun j => iI ((K j : Nat) : Int)))), (p0, .inl (cI, 12, .inl (fun j => iI ((q j : Nat) : Int))))]) [(m0, .inr (1, [.int (iI 1), .ref t0, .ref k0, .ref p0, .int (iI ((w : Nat) : Int))])), (t0, .inl (cI, 24, .inl (fun j => iI ((tb a0 a1 j : Nat) : Int)))), (k0, .inl (cI, 12, .inl (fun j => iI ((K j : Nat) : Int)))), (p0, .inl (cI, 12, .inl (fun j => iI ((q j : Nat) : Int))))] := va_D_same (w := [(m0, .inr (1, [.int th, .ref t0, .ref k0, .ref p0, .int (iI ((w : Nat) : Int))])), (t0, .inl (cI, 24, .inl (fun j => iI ((tb a0 a1 j : Nat) : Int)))), (k0, .inl (cI, 12, .inl (fun j => iI ((K j : Nat) : Int)))), (p0, .inl (cI, 12, .inl (fun j => iI ((q j : Nat) : Int))))]) rfl hD
      refine st_i (y := iI 0) (congrArg iI (bI_f (by decide))) ?_
      refine ib_if_ne (tgt := 57) hx hb dX1_multiply_52 (by decide) ⟨by omega, by omega⟩ (fun c_52 => absurd c_52 (by decide)) (fun c_52 => ?_)
      refine ib_const hx hb dX1_multiply_55 ?_
      exact W.iret hx hb hr (fun t ht _ => ⟨rfl, by rw [ht]; exact hP, hS.F ht⟩) hS.2.2 dX1_multiply_56
  · skip
    refine lv_iload_n hx hb dX1_multiply_5 rfl (lv_at hl 2 rfl) ?_
    refine ib_const hx hb dX1_multiply_6 ?_
    refine ib_icmp_eq (tgt := 22) hx hb dX1_multiply_7 (by decide) ⟨by omega, by omega⟩ ⟨by omega, by omega⟩ (fun c_7 => ?_) (fun c_7 => ?_)
    · skip
      refine ib_const hx hb dX1_multiply_22 ?_
      refine lv_goto (tgt := 27) hx hb dX1_multiply_23 (by decide) ?_
      refine lv_istore_n (lv' := [(3, .int (iI 1)), (0, .ref m0), (1, .int (iI z0)), (2, .int (iI z1))]) hx hb dX1_multiply_27 rfl hl (by decide) rfl (fun ls hl => ?_)
      refine lv_aload_n hx hb dX1_multiply_28 rfl (lv_at hl 1 rfl) ?_
      refine lv_iload_n hx hb dX1_multiply_29 rfl (lv_at hl 2 rfl) ?_
      refine rd_call (va_runS (As := [.int (iI z0)]) (rest := [.ref m0]) ⟨hx, hb, hml, hown, hts⟩ (mX1_isRow l z0 ⟨by omega, by omega⟩) (va_cwS 1 hts gX1_multiply_X1_isRow rfl rfl rfl hdX1_isRow ⟨Nat.le_of_ble_eq_true rfl, Nat.le_of_ble_eq_true rfl⟩) tt_pre rfl rfl hl.1 rfl (lv_room (Nat.le_of_ble_eq_true rfl)) dX1_multiply_30 ⟨Nat.le_of_ble_eq_true rfl, Nat.le_of_ble_eq_true rfl⟩) ?_
      refine bb_ne (tgt := 40) hx hb dX1_multiply_33 (by decide) (fun c_33 => ?_) (fun c_33 => ?_)
      · skip
        refine lv_iload_n hx hb dX1_multiply_40 rfl (lv_at hl 0 rfl) ?_
        refine ib_if_eq (tgt := 48) hx hb dX1_multiply_41 (by decide) ⟨by omega, by omega⟩ (fun c_41 => absurd c_41 (by decide)) (fun c_41 => ?_)
        refine ib_const hx hb dX1_multiply_44 ?_
        refine lv_goto (tgt := 49) hx hb dX1_multiply_45 (by decide) ?_
        exfalso; omega
      · skip
        refine ib_const hx hb dX1_multiply_36 ?_
        refine lv_goto (tgt := 49) hx hb dX1_multiply_37 (by decide) ?_
        refine wr_call (va_runV (As := [.int (iI 1)]) (rest := []) ⟨hx, hb, hml, hown, hts⟩ (mX1_goesWell l dC dI cI m0 t0 k0 p0 a0 a1 K q th w h0 h1 hw hq 1 ⟨by omega, by omega⟩) (cwV 1 hts gX1_multiply_X1_goesWell rfl rfl rfl hvX1_goesWell ⟨Nat.le_of_ble_eq_true rfl, Nat.le_of_ble_eq_true rfl⟩) (bD_pre (ci := 1) (q0 := 0) hK hP hD rfl rfl rfl) rfl rfl hl.1 rfl (lv_room (Nat.le_of_ble_eq_true rfl)) dX1_multiply_49 ⟨Nat.le_of_ble_eq_true rfl, Nat.le_of_ble_eq_true rfl⟩) hS (fun q9 h => inW_same (w := [(m0, .inr (1, [.int th, .ref t0, .ref k0, .ref p0, .int (iI ((w : Nat) : Int))])), (t0, .inl (cI, 24, .inl (fun j => iI ((tb a0 a1 j : Nat) : Int)))), (k0, .inl (cI, 12, .inl (fun j => iI ((K j : Nat) : Int)))), (p0, .inl (cI, 12, .inl (fun j => iI ((q j : Nat) : Int))))]) (w' := [(m0, .inr (1, [.int th, .ref t0, .ref k0, .ref p0, .int (iI ((w : Nat) : Int))])), (t0, .inl (cI, 24, .inl (fun j => iI ((tb a0 a1 j : Nat) : Int)))), (k0, .inl (cI, 12, .inl (fun j => iI ((K j : Nat) : Int)))), (p0, .inl (cI, 12, .inl (fun j => iI ((q j : Nat) : Int))))]) rfl h) (fun H locs hP hz hk hS => ?_)
        have hD : va_D (inW [(m0, .inr (1, [.int th, .ref t0, .ref k0, .ref p0, .int (iI ((w : Nat) : Int))])), (t0, .inl (cI, 24, .inl (fun j => iI ((tb a0 a1 j : Nat) : Int)))), (k0, .inl (cI, 12, .inl (fun j => iI ((K j : Nat) : Int)))), (p0, .inl (cI, 12, .inl (fun j => iI ((q j : Nat) : Int))))]) [(m0, .inr (1, [.int (iI 1), .ref t0, .ref k0, .ref p0, .int (iI ((w : Nat) : Int))])), (t0, .inl (cI, 24, .inl (fun j => iI ((tb a0 a1 j : Nat) : Int)))), (k0, .inl (cI, 12, .inl (fun j => iI ((K j : Nat) : Int)))), (p0, .inl (cI, 12, .inl (fun j => iI ((q j : Nat) : Int))))] := va_D_same (w := [(m0, .inr (1, [.int th, .ref t0, .ref k0, .ref p0, .int (iI ((w : Nat) : Int))])), (t0, .inl (cI, 24, .inl (fun j => iI ((tb a0 a1 j : Nat) : Int)))), (k0, .inl (cI, 12, .inl (fun j => iI ((K j : Nat) : Int)))), (p0, .inl (cI, 12, .inl (fun j => iI ((q j : Nat) : Int))))]) rfl hD
        refine st_i (y := iI 0) (congrArg iI (bI_f (by decide))) ?_
        refine ib_if_ne (tgt := 57) hx hb dX1_multiply_52 (by decide) ⟨by omega, by omega⟩ (fun c_52 => absurd c_52 (by decide)) (fun c_52 => ?_)
        refine ib_const hx hb dX1_multiply_55 ?_
        exact W.iret hx hb hr (fun t ht _ => ⟨rfl, by rw [ht]; exact hP, hS.F ht⟩) hS.2.2 dX1_multiply_56
    · skip
      refine lv_iload_n hx hb dX1_multiply_10 rfl (lv_at hl 2 rfl) ?_
      refine ib_bi hx hb dX1_multiply_11 (by decide) ?_
      refine ib_icmp_eq (tgt := 22) hx hb dX1_multiply_13 (by decide) ⟨by omega, by omega⟩ ⟨by omega, by omega⟩ (fun c_13 => ?_) (fun c_13 => ?_)
      · skip
        refine ib_const hx hb dX1_multiply_22 ?_
        refine lv_goto (tgt := 27) hx hb dX1_multiply_23 (by decide) ?_
        refine lv_istore_n (lv' := [(3, .int (iI 1)), (0, .ref m0), (1, .int (iI z0)), (2, .int (iI z1))]) hx hb dX1_multiply_27 rfl hl (by decide) rfl (fun ls hl => ?_)
        refine lv_aload_n hx hb dX1_multiply_28 rfl (lv_at hl 1 rfl) ?_
        refine lv_iload_n hx hb dX1_multiply_29 rfl (lv_at hl 2 rfl) ?_
        refine rd_call (va_runS (As := [.int (iI z0)]) (rest := [.ref m0]) ⟨hx, hb, hml, hown, hts⟩ (mX1_isRow l z0 ⟨by omega, by omega⟩) (va_cwS 1 hts gX1_multiply_X1_isRow rfl rfl rfl hdX1_isRow ⟨Nat.le_of_ble_eq_true rfl, Nat.le_of_ble_eq_true rfl⟩) tt_pre rfl rfl hl.1 rfl (lv_room (Nat.le_of_ble_eq_true rfl)) dX1_multiply_30 ⟨Nat.le_of_ble_eq_true rfl, Nat.le_of_ble_eq_true rfl⟩) ?_
        refine bb_ne (tgt := 40) hx hb dX1_multiply_33 (by decide) (fun c_33 => ?_) (fun c_33 => ?_)
        · skip
          refine lv_iload_n hx hb dX1_multiply_40 rfl (lv_at hl 0 rfl) ?_
          refine ib_if_eq (tgt := 48) hx hb dX1_multiply_41 (by decide) ⟨by omega, by omega⟩ (fun c_41 => absurd c_41 (by decide)) (fun c_41 => ?_)
          refine ib_const hx hb dX1_multiply_44 ?_
          refine lv_goto (tgt := 49) hx hb dX1_multiply_45 (by decide) ?_
          exfalso; omega
        · skip
          refine ib_const hx hb dX1_multiply_36 ?_
          refine lv_goto (tgt := 49) hx hb dX1_multiply_37 (by decide) ?_
          refine wr_call (va_runV (As := [.int (iI 1)]) (rest := []) ⟨hx, hb, hml, hown, hts⟩ (mX1_goesWell l dC dI cI m0 t0 k0 p0 a0 a1 K q th w h0 h1 hw hq 1 ⟨by omega, by omega⟩) (cwV 1 hts gX1_multiply_X1_goesWell rfl rfl rfl hvX1_goesWell ⟨Nat.le_of_ble_eq_true rfl, Nat.le_of_ble_eq_true rfl⟩) (bD_pre (ci := 1) (q0 := 0) hK hP hD rfl rfl rfl) rfl rfl hl.1 rfl (lv_room (Nat.le_of_ble_eq_true rfl)) dX1_multiply_49 ⟨Nat.le_of_ble_eq_true rfl, Nat.le_of_ble_eq_true rfl⟩) hS (fun q9 h => inW_same (w := [(m0, .inr (1, [.int th, .ref t0, .ref k0, .ref p0, .int (iI ((w : Nat) : Int))])), (t0, .inl (cI, 24, .inl (fun j => iI ((tb a0 a1 j : Nat) : Int)))), (k0, .inl (cI, 12, .inl (fun j => iI ((K j : Nat) : Int)))), (p0, .inl (cI, 12, .inl (fun j => iI ((q j : Nat) : Int))))]) (w' := [(m0, .inr (1, [.int th, .ref t0, .ref k0, .ref p0, .int (iI ((w : Nat) : Int))])), (t0, .inl (cI, 24, .inl (fun j => iI ((tb a0 a1 j : Nat) : Int)))), (k0, .inl (cI, 12, .inl (fun j => iI ((K j : Nat) : Int)))), (p0, .inl (cI, 12, .inl (fun j => iI ((q j : Nat) : Int))))]) rfl h) (fun H locs hP hz hk hS => ?_)
          have hD : va_D (inW [(m0, .inr (1, [.int th, .ref t0, .ref k0, .ref p0, .int (iI ((w : Nat) : Int))])), (t0, .inl (cI, 24, .inl (fun j => iI ((tb a0 a1 j : Nat) : Int)))), (k0, .inl (cI, 12, .inl (fun j => iI ((K j : Nat) : Int)))), (p0, .inl (cI, 12, .inl (fun j => iI ((q j : Nat) : Int))))]) [(m0, .inr (1, [.int (iI 1), .ref t0, .ref k0, .ref p0, .int (iI ((w : Nat) : Int))])), (t0, .inl (cI, 24, .inl (fun j => iI ((tb a0 a1 j : Nat) : Int)))), (k0, .inl (cI, 12, .inl (fun j => iI ((K j : Nat) : Int)))), (p0, .inl (cI, 12, .inl (fun j => iI ((q j : Nat) : Int))))] := va_D_same (w := [(m0, .inr (1, [.int th, .ref t0, .ref k0, .ref p0, .int (iI ((w : Nat) : Int))])), (t0, .inl (cI, 24, .inl (fun j => iI ((tb a0 a1 j : Nat) : Int)))), (k0, .inl (cI, 12, .inl (fun j => iI ((K j : Nat) : Int)))), (p0, .inl (cI, 12, .inl (fun j => iI ((q j : Nat) : Int))))]) rfl hD
          refine st_i (y := iI 0) (congrArg iI (bI_f (by decide))) ?_
          refine ib_if_ne (tgt := 57) hx hb dX1_multiply_52 (by decide) ⟨by omega, by omega⟩ (fun c_52 => absurd c_52 (by decide)) (fun c_52 => ?_)
          refine ib_const hx hb dX1_multiply_55 ?_
          exact W.iret hx hb hr (fun t ht _ => ⟨rfl, by rw [ht]; exact hP, hS.F ht⟩) hS.2.2 dX1_multiply_56
      · skip
        refine lv_iload_n hx hb dX1_multiply_16 rfl (lv_at hl 2 rfl) ?_
        refine ib_bi hx hb dX1_multiply_17 (by decide) ?_
        refine ib_icmp_ne (tgt := 26) hx hb dX1_multiply_19 (by decide) ⟨by omega, by omega⟩ ⟨by omega, by omega⟩ (fun c_19 => ?_) (fun c_19 => ?_)
        · skip
          refine ib_const hx hb dX1_multiply_26 ?_
          refine lv_istore_n (lv' := [(3, .int (iI 0)), (0, .ref m0), (1, .int (iI z0)), (2, .int (iI z1))]) hx hb dX1_multiply_27 rfl hl (by decide) rfl (fun ls hl => ?_)
          refine lv_aload_n hx hb dX1_multiply_28 rfl (lv_at hl 1 rfl) ?_
          refine lv_iload_n hx hb dX1_multiply_29 rfl (lv_at hl 2 rfl) ?_
          refine rd_call (va_runS (As := [.int (iI z0)]) (rest := [.ref m0]) ⟨hx, hb, hml, hown, hts⟩ (mX1_isRow l z0 ⟨by omega, by omega⟩) (va_cwS 1 hts gX1_multiply_X1_isRow rfl rfl rfl hdX1_isRow ⟨Nat.le_of_ble_eq_true rfl, Nat.le_of_ble_eq_true rfl⟩) tt_pre rfl rfl hl.1 rfl (lv_room (Nat.le_of_ble_eq_true rfl)) dX1_multiply_30 ⟨Nat.le_of_ble_eq_true rfl, Nat.le_of_ble_eq_true rfl⟩) ?_
          refine bb_ne (tgt := 40) hx hb dX1_multiply_33 (by decide) (fun c_33 => ?_) (fun c_33 => ?_)
          · skip
            refine lv_iload_n hx hb dX1_multiply_40 rfl (lv_at hl 0 rfl) ?_
            refine ib_if_eq (tgt := 48) hx hb dX1_multiply_41 (by decide) ⟨by omega, by omega⟩ (fun c_41 => ?_) (fun c_41 => absurd c_41 (by decide))
            refine ib_const hx hb dX1_multiply_48 ?_
            exfalso; omega
          · skip
            refine ib_const hx hb dX1_multiply_36 ?_
            refine lv_goto (tgt := 49) hx hb dX1_multiply_37 (by decide) ?_
            refine wr_call (va_runV (As := [.int (iI 1)]) (rest := []) ⟨hx, hb, hml, hown, hts⟩ (mX1_goesWell l dC dI cI m0 t0 k0 p0 a0 a1 K q th w h0 h1 hw hq 1 ⟨by omega, by omega⟩) (cwV 1 hts gX1_multiply_X1_goesWell rfl rfl rfl hvX1_goesWell ⟨Nat.le_of_ble_eq_true rfl, Nat.le_of_ble_eq_true rfl⟩) (bD_pre (ci := 1) (q0 := 0) hK hP hD rfl rfl rfl) rfl rfl hl.1 rfl (lv_room (Nat.le_of_ble_eq_true rfl)) dX1_multiply_49 ⟨Nat.le_of_ble_eq_true rfl, Nat.le_of_ble_eq_true rfl⟩) hS (fun q9 h => inW_same (w := [(m0, .inr (1, [.int th, .ref t0, .ref k0, .ref p0, .int (iI ((w : Nat) : Int))])), (t0, .inl (cI, 24, .inl (fun j => iI ((tb a0 a1 j : Nat) : Int)))), (k0, .inl (cI, 12, .inl (fun j => iI ((K j : Nat) : Int)))), (p0, .inl (cI, 12, .inl (fun j => iI ((q j : Nat) : Int))))]) (w' := [(m0, .inr (1, [.int th, .ref t0, .ref k0, .ref p0, .int (iI ((w : Nat) : Int))])), (t0, .inl (cI, 24, .inl (fun j => iI ((tb a0 a1 j : Nat) : Int)))), (k0, .inl (cI, 12, .inl (fun j => iI ((K j : Nat) : Int)))), (p0, .inl (cI, 12, .inl (fun j => iI ((q j : Nat) : Int))))]) rfl h) (fun H locs hP hz hk hS => ?_)
            have hD : va_D (inW [(m0, .inr (1, [.int th, .ref t0, .ref k0, .ref p0, .int (iI ((w : Nat) : Int))])), (t0, .inl (cI, 24, .inl (fun j => iI ((tb a0 a1 j : Nat) : Int)))), (k0, .inl (cI, 12, .inl (fun j => iI ((K j : Nat) : Int)))), (p0, .inl (cI, 12, .inl (fun j => iI ((q j : Nat) : Int))))]) [(m0, .inr (1, [.int (iI 1), .ref t0, .ref k0, .ref p0, .int (iI ((w : Nat) : Int))])), (t0, .inl (cI, 24, .inl (fun j => iI ((tb a0 a1 j : Nat) : Int)))), (k0, .inl (cI, 12, .inl (fun j => iI ((K j : Nat) : Int)))), (p0, .inl (cI, 12, .inl (fun j => iI ((q j : Nat) : Int))))] := va_D_same (w := [(m0, .inr (1, [.int th, .ref t0, .ref k0, .ref p0, .int (iI ((w : Nat) : Int))])), (t0, .inl (cI, 24, .inl (fun j => iI ((tb a0 a1 j : Nat) : Int)))), (k0, .inl (cI, 12, .inl (fun j => iI ((K j : Nat) : Int)))), (p0, .inl (cI, 12, .inl (fun j => iI ((q j : Nat) : Int))))]) rfl hD
            refine st_i (y := iI 0) (congrArg iI (bI_f (by decide))) ?_
            refine ib_if_ne (tgt := 57) hx hb dX1_multiply_52 (by decide) ⟨by omega, by omega⟩ (fun c_52 => absurd c_52 (by decide)) (fun c_52 => ?_)
            refine ib_const hx hb dX1_multiply_55 ?_
            exact W.iret hx hb hr (fun t ht _ => ⟨rfl, by rw [ht]; exact hP, hS.F ht⟩) hS.2.2 dX1_multiply_56
        · skip
          refine ib_const hx hb dX1_multiply_22 ?_
          refine lv_goto (tgt := 27) hx hb dX1_multiply_23 (by decide) ?_
          refine lv_istore_n (lv' := [(3, .int (iI 1)), (0, .ref m0), (1, .int (iI z0)), (2, .int (iI z1))]) hx hb dX1_multiply_27 rfl hl (by decide) rfl (fun ls hl => ?_)
          refine lv_aload_n hx hb dX1_multiply_28 rfl (lv_at hl 1 rfl) ?_
          refine lv_iload_n hx hb dX1_multiply_29 rfl (lv_at hl 2 rfl) ?_
          refine rd_call (va_runS (As := [.int (iI z0)]) (rest := [.ref m0]) ⟨hx, hb, hml, hown, hts⟩ (mX1_isRow l z0 ⟨by omega, by omega⟩) (va_cwS 1 hts gX1_multiply_X1_isRow rfl rfl rfl hdX1_isRow ⟨Nat.le_of_ble_eq_true rfl, Nat.le_of_ble_eq_true rfl⟩) tt_pre rfl rfl hl.1 rfl (lv_room (Nat.le_of_ble_eq_true rfl)) dX1_multiply_30 ⟨Nat.le_of_ble_eq_true rfl, Nat.le_of_ble_eq_true rfl⟩) ?_
          refine bb_ne (tgt := 40) hx hb dX1_multiply_33 (by decide) (fun c_33 => ?_) (fun c_33 => ?_)
          · skip
            refine lv_iload_n hx hb dX1_multiply_40 rfl (lv_at hl 0 rfl) ?_
            refine ib_if_eq (tgt := 48) hx hb dX1_multiply_41 (by decide) ⟨by omega, by omega⟩ (fun c_41 => absurd c_41 (by decide)) (fun c_41 => ?_)
            refine ib_const hx hb dX1_multiply_44 ?_
            refine lv_goto (tgt := 49) hx hb dX1_multiply_45 (by decide) ?_
            exfalso; omega
          · skip
            refine ib_const hx hb dX1_multiply_36 ?_
            refine lv_goto (tgt := 49) hx hb dX1_multiply_37 (by decide) ?_
            refine wr_call (va_runV (As := [.int (iI 1)]) (rest := []) ⟨hx, hb, hml, hown, hts⟩ (mX1_goesWell l dC dI cI m0 t0 k0 p0 a0 a1 K q th w h0 h1 hw hq 1 ⟨by omega, by omega⟩) (cwV 1 hts gX1_multiply_X1_goesWell rfl rfl rfl hvX1_goesWell ⟨Nat.le_of_ble_eq_true rfl, Nat.le_of_ble_eq_true rfl⟩) (bD_pre (ci := 1) (q0 := 0) hK hP hD rfl rfl rfl) rfl rfl hl.1 rfl (lv_room (Nat.le_of_ble_eq_true rfl)) dX1_multiply_49 ⟨Nat.le_of_ble_eq_true rfl, Nat.le_of_ble_eq_true rfl⟩) hS (fun q9 h => inW_same (w := [(m0, .inr (1, [.int th, .ref t0, .ref k0, .ref p0, .int (iI ((w : Nat) : Int))])), (t0, .inl (cI, 24, .inl (fun j => iI ((tb a0 a1 j : Nat) : Int)))), (k0, .inl (cI, 12, .inl (fun j => iI ((K j : Nat) : Int)))), (p0, .inl (cI, 12, .inl (fun j => iI ((q j : Nat) : Int))))]) (w' := [(m0, .inr (1, [.int th, .ref t0, .ref k0, .ref p0, .int (iI ((w : Nat) : Int))])), (t0, .inl (cI, 24, .inl (fun j => iI ((tb a0 a1 j : Nat) : Int)))), (k0, .inl (cI, 12, .inl (fun j => iI ((K j : Nat) : Int)))), (p0, .inl (cI, 12, .inl (fun j => iI ((q j : Nat) : Int))))]) rfl h) (fun H locs hP hz hk hS => ?_)
            have hD : va_D (inW [(m0, .inr (1, [.int th, .ref t0, .ref k0, .ref p0, .int (iI ((w : Nat) : Int))])), (t0, .inl (cI, 24, .inl (fun j => iI ((tb a0 a1 j : Nat) : Int)))), (k0, .inl (cI, 12, .inl (fun j => iI ((K j : Nat) : Int)))), (p0, .inl (cI, 12, .inl (fun j => iI ((q j : Nat) : Int))))]) [(m0, .inr (1, [.int (iI 1), .ref t0, .ref k0, .ref p0, .int (iI ((w : Nat) : Int))])), (t0, .inl (cI, 24, .inl (fun j => iI ((tb a0 a1 j : Nat) : Int)))), (k0, .inl (cI, 12, .inl (fun j => iI ((K j : Nat) : Int)))), (p0, .inl (cI, 12, .inl (fun j => iI ((q j : Nat) : Int))))] := va_D_same (w := [(m0, .inr (1, [.int th, .ref t0, .ref k0, .ref p0, .int (iI ((w : Nat) : Int))])), (t0, .inl (cI, 24, .inl (fun j => iI ((tb a0 a1 j : Nat) : Int)))), (k0, .inl (cI, 12, .inl (fun j => iI ((K j : Nat) : Int)))), (p0, .inl (cI, 12, .inl (fun j => iI ((q j : Nat) : Int))))]) rfl hD
            refine st_i (y := iI 0) (congrArg iI (bI_f (by decide))) ?_
            refine ib_if_ne (tgt := 57) hx hb dX1_multiply_52 (by decide) ⟨by omega, by omega⟩ (fun c_52 => absurd c_52 (by decide)) (fun c_52 => ?_)
            refine ib_const hx hb dX1_multiply_55 ?_
            exact W.iret hx hb hr (fun t ht _ => ⟨rfl, by rw [ht]; exact hP, hS.F ht⟩) hS.2.2 dX1_multiply_56

set_option maxHeartbeats 4000000 in
set_option maxRecDepth 100000 in
theorem mX1_multiply_x2 (l : Launch) (dC : Nat → ClassId) (dI : Nat → Nat → Nat) (cI : ClassId) (m0 t0 k0 p0 : Nat) (a0 a1 K q : Nat → Nat) (th : Int32) (w : Nat) (h0 : lt12 a0) (h1 : lt12 a1) (hw : w ≤ 12) (hq : ∀ i, i < w → q i < 12) (z0 z1 : Int) (hz0 : inI z0) (hz1 : inI z1) (hbad : (z0 = 0 ∨ z0 = 1) ∧ ¬ (z1 = 1 ∨ z1 = 5 ∨ z1 = 7 ∨ z1 = 11)) : wr l yX1_multiply wsX1_multiply { frames := 1, cells := 0, slots := 0, locals := 21 } [.ref m0, .int (iI z0), .int (iI z1)] (dC, dI) [(m0, .inr (1, [.int th, .ref t0, .ref k0, .ref p0, .int (iI ((w : Nat) : Int))])), (t0, .inl (cI, 24, .inl (fun j => iI ((tb a0 a1 j : Nat) : Int)))), (k0, .inl (cI, 12, .inl (fun j => iI ((K j : Nat) : Int)))), (p0, .inl (cI, 12, .inl (fun j => iI ((q j : Nat) : Int))))] [(cI, .int)] [(m0, .inr (1, [.int (iI 2), .ref t0, .ref k0, .ref p0, .int (iI ((w : Nat) : Int))])), (t0, .inl (cI, 24, .inl (fun j => iI ((tb a0 a1 j : Nat) : Int)))), (k0, .inl (cI, 12, .inl (fun j => iI ((K j : Nat) : Int)))), (p0, .inl (cI, 12, .inl (fun j => iI ((q j : Nat) : Int))))] (some (.int (iI 0))) := by
  refine Met.ofW (cc := cX1_multiply) (maxL := 5) (ret := (some .int)) (by decide) rfl ?_
  intro P0 e s m args below meth c s₁ B hml hv
  obtain ⟨rfl, hP, hK, hD0⟩ := hv
  have hx := B.exec
  have hb := B.bytes
  have hr := B.returns
  have hts := atoms_spec (ws := wsX1_multiply) B.pre
  have hown : s.vm.findClass RX1 = some m.cls := findClass_of_methodNamed B.named
  have hlocks := B.notSynchronized
  have hinX : ∀ w ∈ u_ws RX1 TX1 5, w ∈ wsX1_multiply := by decide +kernel
  have hD : va_D (inW [(m0, .inr (1, [.int th, .ref t0, .ref k0, .ref p0, .int (iI ((w : Nat) : Int))])), (t0, .inl (cI, 24, .inl (fun j => iI ((tb a0 a1 j : Nat) : Int)))), (k0, .inl (cI, 12, .inl (fun j => iI ((K j : Nat) : Int)))), (p0, .inl (cI, 12, .inl (fun j => iI ((q j : Nat) : Int))))]) [(m0, .inr (1, [.int th, .ref t0, .ref k0, .ref p0, .int (iI ((w : Nat) : Int))])), (t0, .inl (cI, 24, .inl (fun j => iI ((tb a0 a1 j : Nat) : Int)))), (k0, .inl (cI, 12, .inl (fun j => iI ((K j : Nat) : Int)))), (p0, .inl (cI, 12, .inl (fun j => iI ((q j : Nat) : Int))))] := va_D_in hD0
  have hS : va_S (inW [(m0, .inr (1, [.int th, .ref t0, .ref k0, .ref p0, .int (iI ((w : Nat) : Int))])), (t0, .inl (cI, 24, .inl (fun j => iI ((tb a0 a1 j : Nat) : Int)))), (k0, .inl (cI, 12, .inl (fun j => iI ((K j : Nat) : Int)))), (p0, .inl (cI, 12, .inl (fun j => iI ((q j : Nat) : Int))))]) s.heap s.heap [] := va_S.rf
  have hl := lv_entry ([.ref m0, .int (iI z0), .int (iI z1)]) (n := 5) (Nat.le_of_ble_eq_true rfl)
  rw [lg_entry_eq]
  generalize (lg_sl ([.ref m0, .int (iI z0), .int (iI z1)]) ++ List.replicate (5 - (lg_sl ([.ref m0, .int (iI z0), .int (iI z1)])).length) Slot.unset).toArray = ls at hl ⊢
  have hl : lv_has ls 5 [(0, .ref m0), (1, .int (iI z0)), (2, .int (iI z1))] := hl
  have hza0 := hz0.1
  have hza1 := hz1.1
  have hzb0 := hz0.2
  have hzb1 := hz1.2
  refine lv_iload_n hx hb dX1_multiply_0 rfl (lv_at hl 2 rfl) ?_
  refine ib_const hx hb dX1_multiply_1 ?_
  refine ib_icmp_eq (tgt := 22) hx hb dX1_multiply_2 (by decide) ⟨by omega, by omega⟩ ⟨by omega, by omega⟩ (fun c_2 => ?_) (fun c_2 => ?_)
  · skip
    refine ib_const hx hb dX1_multiply_22 ?_
    refine lv_goto (tgt := 27) hx hb dX1_multiply_23 (by decide) ?_
    refine lv_istore_n (lv' := [(3, .int (iI 1)), (0, .ref m0), (1, .int (iI z0)), (2, .int (iI z1))]) hx hb dX1_multiply_27 rfl hl (by decide) rfl (fun ls hl => ?_)
    refine lv_aload_n hx hb dX1_multiply_28 rfl (lv_at hl 1 rfl) ?_
    refine lv_iload_n hx hb dX1_multiply_29 rfl (lv_at hl 2 rfl) ?_
    refine rd_call (va_runS (As := [.int (iI z0)]) (rest := [.ref m0]) ⟨hx, hb, hml, hown, hts⟩ (mX1_isRow l z0 ⟨by omega, by omega⟩) (va_cwS 1 hts gX1_multiply_X1_isRow rfl rfl rfl hdX1_isRow ⟨Nat.le_of_ble_eq_true rfl, Nat.le_of_ble_eq_true rfl⟩) tt_pre rfl rfl hl.1 rfl (lv_room (Nat.le_of_ble_eq_true rfl)) dX1_multiply_30 ⟨Nat.le_of_ble_eq_true rfl, Nat.le_of_ble_eq_true rfl⟩) ?_
    refine bb_ne (tgt := 40) hx hb dX1_multiply_33 (by decide) (fun c_33 => ?_) (fun c_33 => ?_)
    · skip
      refine lv_iload_n hx hb dX1_multiply_40 rfl (lv_at hl 0 rfl) ?_
      refine ib_if_eq (tgt := 48) hx hb dX1_multiply_41 (by decide) ⟨by omega, by omega⟩ (fun c_41 => absurd c_41 (by decide)) (fun c_41 => ?_)
      refine ib_const hx hb dX1_multiply_44 ?_
      refine lv_goto (tgt := 49) hx hb dX1_multiply_45 (by decide) ?_
      exfalso; omega
    · skip
      refine ib_const hx hb dX1_multiply_36 ?_
      refine lv_goto (tgt := 49) hx hb dX1_multiply_37 (by decide) ?_
      exfalso; omega
  · skip
    refine lv_iload_n hx hb dX1_multiply_5 rfl (lv_at hl 2 rfl) ?_
    refine ib_const hx hb dX1_multiply_6 ?_
    refine ib_icmp_eq (tgt := 22) hx hb dX1_multiply_7 (by decide) ⟨by omega, by omega⟩ ⟨by omega, by omega⟩ (fun c_7 => ?_) (fun c_7 => ?_)
    · skip
      refine ib_const hx hb dX1_multiply_22 ?_
      refine lv_goto (tgt := 27) hx hb dX1_multiply_23 (by decide) ?_
      refine lv_istore_n (lv' := [(3, .int (iI 1)), (0, .ref m0), (1, .int (iI z0)), (2, .int (iI z1))]) hx hb dX1_multiply_27 rfl hl (by decide) rfl (fun ls hl => ?_)
      refine lv_aload_n hx hb dX1_multiply_28 rfl (lv_at hl 1 rfl) ?_
      refine lv_iload_n hx hb dX1_multiply_29 rfl (lv_at hl 2 rfl) ?_
      refine rd_call (va_runS (As := [.int (iI z0)]) (rest := [.ref m0]) ⟨hx, hb, hml, hown, hts⟩ (mX1_isRow l z0 ⟨by omega, by omega⟩) (va_cwS 1 hts gX1_multiply_X1_isRow rfl rfl rfl hdX1_isRow ⟨Nat.le_of_ble_eq_true rfl, Nat.le_of_ble_eq_true rfl⟩) tt_pre rfl rfl hl.1 rfl (lv_room (Nat.le_of_ble_eq_true rfl)) dX1_multiply_30 ⟨Nat.le_of_ble_eq_true rfl, Nat.le_of_ble_eq_true rfl⟩) ?_
      refine bb_ne (tgt := 40) hx hb dX1_multiply_33 (by decide) (fun c_33 => ?_) (fun c_33 => ?_)
      · skip
        refine lv_iload_n hx hb dX1_multiply_40 rfl (lv_at hl 0 rfl) ?_
        refine ib_if_eq (tgt := 48) hx hb dX1_multiply_41 (by decide) ⟨by omega, by omega⟩ (fun c_41 => absurd c_41 (by decide)) (fun c_41 => ?_)
        refine ib_const hx hb dX1_multiply_44 ?_
        refine lv_goto (tgt := 49) hx hb dX1_multiply_45 (by decide) ?_
        exfalso; omega
      · skip
        refine ib_const hx hb dX1_multiply_36 ?_
        refine lv_goto (tgt := 49) hx hb dX1_multiply_37 (by decide) ?_
        exfalso; omega
    · skip
      refine lv_iload_n hx hb dX1_multiply_10 rfl (lv_at hl 2 rfl) ?_
      refine ib_bi hx hb dX1_multiply_11 (by decide) ?_
      refine ib_icmp_eq (tgt := 22) hx hb dX1_multiply_13 (by decide) ⟨by omega, by omega⟩ ⟨by omega, by omega⟩ (fun c_13 => ?_) (fun c_13 => ?_)
      · skip
        refine ib_const hx hb dX1_multiply_22 ?_
        refine lv_goto (tgt := 27) hx hb dX1_multiply_23 (by decide) ?_
        refine lv_istore_n (lv' := [(3, .int (iI 1)), (0, .ref m0), (1, .int (iI z0)), (2, .int (iI z1))]) hx hb dX1_multiply_27 rfl hl (by decide) rfl (fun ls hl => ?_)
        refine lv_aload_n hx hb dX1_multiply_28 rfl (lv_at hl 1 rfl) ?_
        refine lv_iload_n hx hb dX1_multiply_29 rfl (lv_at hl 2 rfl) ?_
        refine rd_call (va_runS (As := [.int (iI z0)]) (rest := [.ref m0]) ⟨hx, hb, hml, hown, hts⟩ (mX1_isRow l z0 ⟨by omega, by omega⟩) (va_cwS 1 hts gX1_multiply_X1_isRow rfl rfl rfl hdX1_isRow ⟨Nat.le_of_ble_eq_true rfl, Nat.le_of_ble_eq_true rfl⟩) tt_pre rfl rfl hl.1 rfl (lv_room (Nat.le_of_ble_eq_true rfl)) dX1_multiply_30 ⟨Nat.le_of_ble_eq_true rfl, Nat.le_of_ble_eq_true rfl⟩) ?_
        refine bb_ne (tgt := 40) hx hb dX1_multiply_33 (by decide) (fun c_33 => ?_) (fun c_33 => ?_)
        · skip
          refine lv_iload_n hx hb dX1_multiply_40 rfl (lv_at hl 0 rfl) ?_
          refine ib_if_eq (tgt := 48) hx hb dX1_multiply_41 (by decide) ⟨by omega, by omega⟩ (fun c_41 => absurd c_41 (by decide)) (fun c_41 => ?_)
          refine ib_const hx hb dX1_multiply_44 ?_
          refine lv_goto (tgt := 49) hx hb dX1_multiply_45 (by decide) ?_
          exfalso; omega
        · skip
          refine ib_const hx hb dX1_multiply_36 ?_
          refine lv_goto (tgt := 49) hx hb dX1_multiply_37 (by decide) ?_
          exfalso; omega
      · skip
        refine lv_iload_n hx hb dX1_multiply_16 rfl (lv_at hl 2 rfl) ?_
        refine ib_bi hx hb dX1_multiply_17 (by decide) ?_
        refine ib_icmp_ne (tgt := 26) hx hb dX1_multiply_19 (by decide) ⟨by omega, by omega⟩ ⟨by omega, by omega⟩ (fun c_19 => ?_) (fun c_19 => ?_)
        · skip
          refine ib_const hx hb dX1_multiply_26 ?_
          refine lv_istore_n (lv' := [(3, .int (iI 0)), (0, .ref m0), (1, .int (iI z0)), (2, .int (iI z1))]) hx hb dX1_multiply_27 rfl hl (by decide) rfl (fun ls hl => ?_)
          refine lv_aload_n hx hb dX1_multiply_28 rfl (lv_at hl 1 rfl) ?_
          refine lv_iload_n hx hb dX1_multiply_29 rfl (lv_at hl 2 rfl) ?_
          refine rd_call (va_runS (As := [.int (iI z0)]) (rest := [.ref m0]) ⟨hx, hb, hml, hown, hts⟩ (mX1_isRow l z0 ⟨by omega, by omega⟩) (va_cwS 1 hts gX1_multiply_X1_isRow rfl rfl rfl hdX1_isRow ⟨Nat.le_of_ble_eq_true rfl, Nat.le_of_ble_eq_true rfl⟩) tt_pre rfl rfl hl.1 rfl (lv_room (Nat.le_of_ble_eq_true rfl)) dX1_multiply_30 ⟨Nat.le_of_ble_eq_true rfl, Nat.le_of_ble_eq_true rfl⟩) ?_
          refine bb_ne (tgt := 40) hx hb dX1_multiply_33 (by decide) (fun c_33 => ?_) (fun c_33 => ?_)
          · skip
            refine lv_iload_n hx hb dX1_multiply_40 rfl (lv_at hl 0 rfl) ?_
            refine ib_if_eq (tgt := 48) hx hb dX1_multiply_41 (by decide) ⟨by omega, by omega⟩ (fun c_41 => ?_) (fun c_41 => absurd c_41 (by decide))
            refine ib_const hx hb dX1_multiply_48 ?_
            refine wr_call (va_runV (As := [.int (iI 2)]) (rest := []) ⟨hx, hb, hml, hown, hts⟩ (mX1_goesWell l dC dI cI m0 t0 k0 p0 a0 a1 K q th w h0 h1 hw hq 2 ⟨by omega, by omega⟩) (cwV 1 hts gX1_multiply_X1_goesWell rfl rfl rfl hvX1_goesWell ⟨Nat.le_of_ble_eq_true rfl, Nat.le_of_ble_eq_true rfl⟩) (bD_pre (ci := 1) (q0 := 0) hK hP hD rfl rfl rfl) rfl rfl hl.1 rfl (lv_room (Nat.le_of_ble_eq_true rfl)) dX1_multiply_49 ⟨Nat.le_of_ble_eq_true rfl, Nat.le_of_ble_eq_true rfl⟩) hS (fun q9 h => inW_same (w := [(m0, .inr (1, [.int th, .ref t0, .ref k0, .ref p0, .int (iI ((w : Nat) : Int))])), (t0, .inl (cI, 24, .inl (fun j => iI ((tb a0 a1 j : Nat) : Int)))), (k0, .inl (cI, 12, .inl (fun j => iI ((K j : Nat) : Int)))), (p0, .inl (cI, 12, .inl (fun j => iI ((q j : Nat) : Int))))]) (w' := [(m0, .inr (1, [.int th, .ref t0, .ref k0, .ref p0, .int (iI ((w : Nat) : Int))])), (t0, .inl (cI, 24, .inl (fun j => iI ((tb a0 a1 j : Nat) : Int)))), (k0, .inl (cI, 12, .inl (fun j => iI ((K j : Nat) : Int)))), (p0, .inl (cI, 12, .inl (fun j => iI ((q j : Nat) : Int))))]) rfl h) (fun H locs hP hz hk hS => ?_)
            have hD : va_D (inW [(m0, .inr (1, [.int th, .ref t0, .ref k0, .ref p0, .int (iI ((w : Nat) : Int))])), (t0, .inl (cI, 24, .inl (fun j => iI ((tb a0 a1 j : Nat) : Int)))), (k0, .inl (cI, 12, .inl (fun j => iI ((K j : Nat) : Int)))), (p0, .inl (cI, 12, .inl (fun j => iI ((q j : Nat) : Int))))]) [(m0, .inr (1, [.int (iI 2), .ref t0, .ref k0, .ref p0, .int (iI ((w : Nat) : Int))])), (t0, .inl (cI, 24, .inl (fun j => iI ((tb a0 a1 j : Nat) : Int)))), (k0, .inl (cI, 12, .inl (fun j => iI ((K j : Nat) : Int)))), (p0, .inl (cI, 12, .inl (fun j => iI ((q j : Nat) : Int))))] := va_D_same (w := [(m0, .inr (1, [.int th, .ref t0, .ref k0, .ref p0, .int (iI ((w : Nat) : Int))])), (t0, .inl (cI, 24, .inl (fun j => iI ((tb a0 a1 j : Nat) : Int)))), (k0, .inl (cI, 12, .inl (fun j => iI ((K j : Nat) : Int)))), (p0, .inl (cI, 12, .inl (fun j => iI ((q j : Nat) : Int))))]) rfl hD
            refine st_i (y := iI 0) (congrArg iI (bI_f (by decide))) ?_
            refine ib_if_ne (tgt := 57) hx hb dX1_multiply_52 (by decide) ⟨by omega, by omega⟩ (fun c_52 => absurd c_52 (by decide)) (fun c_52 => ?_)
            refine ib_const hx hb dX1_multiply_55 ?_
            exact W.iret hx hb hr (fun t ht _ => ⟨rfl, by rw [ht]; exact hP, hS.F ht⟩) hS.2.2 dX1_multiply_56
          · skip
            refine ib_const hx hb dX1_multiply_36 ?_
            refine lv_goto (tgt := 49) hx hb dX1_multiply_37 (by decide) ?_
            exfalso; omega
        · skip
          refine ib_const hx hb dX1_multiply_22 ?_
          refine lv_goto (tgt := 27) hx hb dX1_multiply_23 (by decide) ?_
          refine lv_istore_n (lv' := [(3, .int (iI 1)), (0, .ref m0), (1, .int (iI z0)), (2, .int (iI z1))]) hx hb dX1_multiply_27 rfl hl (by decide) rfl (fun ls hl => ?_)
          refine lv_aload_n hx hb dX1_multiply_28 rfl (lv_at hl 1 rfl) ?_
          refine lv_iload_n hx hb dX1_multiply_29 rfl (lv_at hl 2 rfl) ?_
          refine rd_call (va_runS (As := [.int (iI z0)]) (rest := [.ref m0]) ⟨hx, hb, hml, hown, hts⟩ (mX1_isRow l z0 ⟨by omega, by omega⟩) (va_cwS 1 hts gX1_multiply_X1_isRow rfl rfl rfl hdX1_isRow ⟨Nat.le_of_ble_eq_true rfl, Nat.le_of_ble_eq_true rfl⟩) tt_pre rfl rfl hl.1 rfl (lv_room (Nat.le_of_ble_eq_true rfl)) dX1_multiply_30 ⟨Nat.le_of_ble_eq_true rfl, Nat.le_of_ble_eq_true rfl⟩) ?_
          refine bb_ne (tgt := 40) hx hb dX1_multiply_33 (by decide) (fun c_33 => ?_) (fun c_33 => ?_)
          · skip
            refine lv_iload_n hx hb dX1_multiply_40 rfl (lv_at hl 0 rfl) ?_
            refine ib_if_eq (tgt := 48) hx hb dX1_multiply_41 (by decide) ⟨by omega, by omega⟩ (fun c_41 => absurd c_41 (by decide)) (fun c_41 => ?_)
            refine ib_const hx hb dX1_multiply_44 ?_
            refine lv_goto (tgt := 49) hx hb dX1_multiply_45 (by decide) ?_
            exfalso; omega
          · skip
            refine ib_const hx hb dX1_multiply_36 ?_
            refine lv_goto (tgt := 49) hx hb dX1_multiply_37 (by decide) ?_
            exfalso; omega

set_option maxHeartbeats 4000000 in
set_option maxRecDepth 100000 in
theorem mX1_rotate_ok (l : Launch) (dC : Nat → ClassId) (dI : Nat → Nat → Nat) (cI : ClassId) (m0 t0 k0 p0 : Nat) (a0 a1 K q : Nat → Nat) (th : Int32) (w : Nat) (h0 : lt12 a0) (h1 : lt12 a1) (hw : w ≤ 12) (hq : ∀ i, i < w → q i < 12) (r b : Nat) (hr9 : r < 2) (hb9 : b < 12) : wr l yX1_rotate wsX1_rotate { frames := 2, cells := 0, slots := 0, locals := 44 } [.ref m0, .int (iI ((r : Nat) : Int)), .int (iI ((b : Nat) : Int))] (dC, dI) [(m0, .inr (1, [.int th, .ref t0, .ref k0, .ref p0, .int (iI ((w : Nat) : Int))])), (t0, .inl (cI, 24, .inl (fun j => iI ((tb a0 a1 j : Nat) : Int)))), (k0, .inl (cI, 12, .inl (fun j => iI ((K j : Nat) : Int)))), (p0, .inl (cI, 12, .inl (fun j => iI ((q j : Nat) : Int))))] [(cI, .int)] [(m0, .inr (1, [.int (iI 0), .ref t0, .ref k0, .ref p0, .int (iI ((w : Nat) : Int))])), (t0, .inl (cI, 24, .inl (fun j => iI ((tb (sr0 r (rotF (rw_ r a0 a1) b) a0) (sr1 r (rotF (rw_ r a0 a1) b) a1) j : Nat) : Int)))), (k0, .inl (cI, 12, .inl (fun j => iI (((mx (rotF (rw_ r a0 a1) b) K 12) j : Nat) : Int)))), (p0, .inl (cI, 12, .inl (fun j => iI ((q j : Nat) : Int))))] (some (.int (iI ((rotF (rw_ r a0 a1) b 0 : Nat) : Int)))) := by
  refine Met.ofW (cc := cX1_rotate) (maxL := 4) (ret := (some .int)) (by decide) rfl ?_
  intro P0 e s m args below meth c s₁ B hml hv
  obtain ⟨rfl, hP, hK, hD0⟩ := hv
  have hx := B.exec
  have hb := B.bytes
  have hr := B.returns
  have hts := atoms_spec (ws := wsX1_rotate) B.pre
  have hown : s.vm.findClass RX1 = some m.cls := findClass_of_methodNamed B.named
  have hlocks := B.notSynchronized
  have hinX : ∀ w ∈ u_ws RX1 TX1 5, w ∈ wsX1_rotate := by decide +kernel
  have hD : va_D (inW [(m0, .inr (1, [.int th, .ref t0, .ref k0, .ref p0, .int (iI ((w : Nat) : Int))])), (t0, .inl (cI, 24, .inl (fun j => iI ((tb a0 a1 j : Nat) : Int)))), (k0, .inl (cI, 12, .inl (fun j => iI ((K j : Nat) : Int)))), (p0, .inl (cI, 12, .inl (fun j => iI ((q j : Nat) : Int))))]) [(m0, .inr (1, [.int th, .ref t0, .ref k0, .ref p0, .int (iI ((w : Nat) : Int))])), (t0, .inl (cI, 24, .inl (fun j => iI ((tb a0 a1 j : Nat) : Int)))), (k0, .inl (cI, 12, .inl (fun j => iI ((K j : Nat) : Int)))), (p0, .inl (cI, 12, .inl (fun j => iI ((q j : Nat) : Int))))] := va_D_in hD0
  have hS : va_S (inW [(m0, .inr (1, [.int th, .ref t0, .ref k0, .ref p0, .int (iI ((w : Nat) : Int))])), (t0, .inl (cI, 24, .inl (fun j => iI ((tb a0 a1 j : Nat) : Int)))), (k0, .inl (cI, 12, .inl (fun j => iI ((K j : Nat) : Int)))), (p0, .inl (cI, 12, .inl (fun j => iI ((q j : Nat) : Int))))]) s.heap s.heap [] := va_S.rf
  have hl := lv_entry ([.ref m0, .int (iI ((r : Nat) : Int)), .int (iI ((b : Nat) : Int))]) (n := 4) (Nat.le_of_ble_eq_true rfl)
  rw [lg_entry_eq]
  generalize (lg_sl ([.ref m0, .int (iI ((r : Nat) : Int)), .int (iI ((b : Nat) : Int))]) ++ List.replicate (4 - (lg_sl ([.ref m0, .int (iI ((r : Nat) : Int)), .int (iI ((b : Nat) : Int))])).length) Slot.unset).toArray = ls at hl ⊢
  have hl : lv_has ls 4 [(0, .ref m0), (1, .int (iI ((r : Nat) : Int))), (2, .int (iI ((b : Nat) : Int)))] := hl
  refine lv_aload_n hx hb dX1_rotate_0 rfl (lv_at hl 0 rfl) ?_
  refine lv_iload_n hx hb dX1_rotate_1 rfl (lv_at hl 1 rfl) ?_
  refine rd_call (va_runS (As := [.int (iI ((r : Nat) : Int))]) (rest := [.ref m0]) ⟨hx, hb, hml, hown, hts⟩ (mX1_isRow l ((r : Nat) : Int) ⟨by omega, by omega⟩) (va_cwS 1 hts gX1_rotate_X1_isRow rfl rfl rfl hdX1_isRow ⟨Nat.le_of_ble_eq_true rfl, Nat.le_of_ble_eq_true rfl⟩) tt_pre rfl rfl hl.1 rfl (lv_room (Nat.le_of_ble_eq_true rfl)) dX1_rotate_2 ⟨Nat.le_of_ble_eq_true rfl, Nat.le_of_ble_eq_true rfl⟩) ?_
  refine bb_ne (tgt := 12) hx hb dX1_rotate_5 (by decide) (fun c_5 => ?_) (fun c_5 => absurd c_5 (by omega))
  refine lv_iload_n hx hb dX1_rotate_12 rfl (lv_at hl 2 rfl) ?_
  refine rd_call (va_runS (As := [.int (iI ((b : Nat) : Int))]) (rest := [.ref m0]) ⟨hx, hb, hml, hown, hts⟩ (mX1_isTone l ((b : Nat) : Int) ⟨by omega, by omega⟩) (va_cwS 1 hts gX1_rotate_X1_isTone rfl rfl rfl hdX1_isTone ⟨Nat.le_of_ble_eq_true rfl, Nat.le_of_ble_eq_true rfl⟩) tt_pre rfl rfl hl.1 rfl (lv_room (Nat.le_of_ble_eq_true rfl)) dX1_rotate_13 ⟨Nat.le_of_ble_eq_true rfl, Nat.le_of_ble_eq_true rfl⟩) ?_
  refine bb_eq (tgt := 23) hx hb dX1_rotate_16 (by decide) (fun c_16 => absurd c_16 (by omega)) (fun c_16 => ?_)
  refine ib_const hx hb dX1_rotate_19 ?_
  refine lv_goto (tgt := 24) hx hb dX1_rotate_20 (by decide) ?_
  refine wr_call (va_runV (As := [.int (iI 0)]) (rest := []) ⟨hx, hb, hml, hown, hts⟩ (mX1_goesWell l dC dI cI m0 t0 k0 p0 a0 a1 K q th w h0 h1 hw hq 0 ⟨by omega, by omega⟩) (cwV 1 hts gX1_rotate_X1_goesWell rfl rfl rfl hvX1_goesWell ⟨Nat.le_of_ble_eq_true rfl, Nat.le_of_ble_eq_true rfl⟩) (bD_pre (ci := 1) (q0 := 0) hK hP hD rfl rfl rfl) rfl rfl hl.1 rfl (lv_room (Nat.le_of_ble_eq_true rfl)) dX1_rotate_24 ⟨Nat.le_of_ble_eq_true rfl, Nat.le_of_ble_eq_true rfl⟩) hS (fun q9 h => inW_same (w := [(m0, .inr (1, [.int th, .ref t0, .ref k0, .ref p0, .int (iI ((w : Nat) : Int))])), (t0, .inl (cI, 24, .inl (fun j => iI ((tb a0 a1 j : Nat) : Int)))), (k0, .inl (cI, 12, .inl (fun j => iI ((K j : Nat) : Int)))), (p0, .inl (cI, 12, .inl (fun j => iI ((q j : Nat) : Int))))]) (w' := [(m0, .inr (1, [.int th, .ref t0, .ref k0, .ref p0, .int (iI ((w : Nat) : Int))])), (t0, .inl (cI, 24, .inl (fun j => iI ((tb a0 a1 j : Nat) : Int)))), (k0, .inl (cI, 12, .inl (fun j => iI ((K j : Nat) : Int)))), (p0, .inl (cI, 12, .inl (fun j => iI ((q j : Nat) : Int))))]) rfl h) (fun H locs hP hz hk hS => ?_)
  have hD : va_D (inW [(m0, .inr (1, [.int th, .ref t0, .ref k0, .ref p0, .int (iI ((w : Nat) : Int))])), (t0, .inl (cI, 24, .inl (fun j => iI ((tb a0 a1 j : Nat) : Int)))), (k0, .inl (cI, 12, .inl (fun j => iI ((K j : Nat) : Int)))), (p0, .inl (cI, 12, .inl (fun j => iI ((q j : Nat) : Int))))]) [(m0, .inr (1, [.int (iI 0), .ref t0, .ref k0, .ref p0, .int (iI ((w : Nat) : Int))])), (t0, .inl (cI, 24, .inl (fun j => iI ((tb a0 a1 j : Nat) : Int)))), (k0, .inl (cI, 12, .inl (fun j => iI ((K j : Nat) : Int)))), (p0, .inl (cI, 12, .inl (fun j => iI ((q j : Nat) : Int))))] := va_D_same (w := [(m0, .inr (1, [.int th, .ref t0, .ref k0, .ref p0, .int (iI ((w : Nat) : Int))])), (t0, .inl (cI, 24, .inl (fun j => iI ((tb a0 a1 j : Nat) : Int)))), (k0, .inl (cI, 12, .inl (fun j => iI ((K j : Nat) : Int)))), (p0, .inl (cI, 12, .inl (fun j => iI ((q j : Nat) : Int))))]) rfl hD
  refine st_i (y := iI 1) (congrArg iI (bI_t (by decide))) ?_
  refine ib_if_ne (tgt := 32) hx hb dX1_rotate_27 (by decide) ⟨by omega, by omega⟩ (fun c_27 => ?_) (fun c_27 => absurd c_27 (by decide))
  refine ib_const hx hb dX1_rotate_32 ?_
  refine lv_istore_n (lv' := [(3, .int (iI 0)), (0, .ref m0), (1, .int (iI ((r : Nat) : Int))), (2, .int (iI ((b : Nat) : Int)))]) hx hb dX1_rotate_33 rfl hl (by decide) rfl (fun ls hl => ?_)
  have hP : va_P (dC, dI) vwCl [(m0, .inr (1, [.int (iI 0), .ref t0, .ref k0, .ref p0, .int (iI ((w : Nat) : Int))])), (t0, .inl (cI, 24, .inl (fun j => iI ((tb a0 a1 j : Nat) : Int)))), (k0, .inl (cI, 12, .inl (fun j => iI (((mx (rotF (rw_ r a0 a1) b) K 0) j : Nat) : Int)))), (p0, .inl (cI, 12, .inl (fun j => iI ((q j : Nat) : Int))))] H := va_P_arr (q0 := 2) (f := fun j => iI ((K j : Nat) : Int)) (g := fun j => iI (((mx (rotF (rw_ r a0 a1) b) K 0) j : Nat) : Int)) (fun j hj => by rw [mx_0]) rfl hP
  have hD : va_D (inW [(m0, .inr (1, [.int th, .ref t0, .ref k0, .ref p0, .int (iI ((w : Nat) : Int))])), (t0, .inl (cI, 24, .inl (fun j => iI ((tb a0 a1 j : Nat) : Int)))), (k0, .inl (cI, 12, .inl (fun j => iI ((K j : Nat) : Int)))), (p0, .inl (cI, 12, .inl (fun j => iI ((q j : Nat) : Int))))]) [(m0, .inr (1, [.int (iI 0), .ref t0, .ref k0, .ref p0, .int (iI ((w : Nat) : Int))])), (t0, .inl (cI, 24, .inl (fun j => iI ((tb a0 a1 j : Nat) : Int)))), (k0, .inl (cI, 12, .inl (fun j => iI (((mx (rotF (rw_ r a0 a1) b) K 0) j : Nat) : Int)))), (p0, .inl (cI, 12, .inl (fun j => iI ((q j : Nat) : Int))))] := va_D_same (w := [(m0, .inr (1, [.int (iI 0), .ref t0, .ref k0, .ref p0, .int (iI ((w : Nat) : Int))])), (t0, .inl (cI, 24, .inl (fun j => iI ((tb a0 a1 j : Nat) : Int)))), (k0, .inl (cI, 12, .inl (fun j => iI ((K j : Nat) : Int)))), (p0, .inl (cI, 12, .inl (fun j => iI ((q j : Nat) : Int))))]) rfl hD
  have lp_34_1 : ∀ (j n : Nat), n + j = 12 → ∀ (H : Heap) (locs : List Loc), va_P (dC, dI) vwCl [(m0, .inr (1, [.int (iI 0), .ref t0, .ref k0, .ref p0, .int (iI ((w : Nat) : Int))])), (t0, .inl (cI, 24, .inl (fun j => iI ((tb a0 a1 j : Nat) : Int)))), (k0, .inl (cI, 12, .inl (fun j => iI (((mx (rotF (rw_ r a0 a1) b) K n) j : Nat) : Int)))), (p0, .inl (cI, 12, .inl (fun j => iI ((q j : Nat) : Int))))] H → va_D (inW [(m0, .inr (1, [.int th, .ref t0, .ref k0, .ref p0, .int (iI ((w : Nat) : Int))])), (t0, .inl (cI, 24, .inl (fun j => iI ((tb a0 a1 j : Nat) : Int)))), (k0, .inl (cI, 12, .inl (fun j => iI ((K j : Nat) : Int)))), (p0, .inl (cI, 12, .inl (fun j => iI ((q j : Nat) : Int))))]) [(m0, .inr (1, [.int (iI 0), .ref t0, .ref k0, .ref p0, .int (iI ((w : Nat) : Int))])), (t0, .inl (cI, 24, .inl (fun j => iI ((tb a0 a1 j : Nat) : Int)))), (k0, .inl (cI, 12, .inl (fun j => iI (((mx (rotF (rw_ r a0 a1) b) K n) j : Nat) : Int)))), (p0, .inl (cI, 12, .inl (fun j => iI ((q j : Nat) : Int))))] → va_S (inW [(m0, .inr (1, [.int th, .ref t0, .ref k0, .ref p0, .int (iI ((w : Nat) : Int))])), (t0, .inl (cI, 24, .inl (fun j => iI ((tb a0 a1 j : Nat) : Int)))), (k0, .inl (cI, 12, .inl (fun j => iI ((K j : Nat) : Int)))), (p0, .inl (cI, 12, .inl (fun j => iI ((q j : Nat) : Int))))]) s.heap H locs → ∀ ls : Array Slot, lv_has ls 4 [(0, .ref m0), (1, .int (iI ((r : Nat) : Int))), (2, .int (iI ((b : Nat) : Int))), (3, .int (iI ((n : Nat) : Int)))] → W P0 l e (headSpec wsX1_rotate { frames := 2, cells := 0, slots := 0, locals := 44 }).room s m ([.ref m0, .int (iI ((r : Nat) : Int)), .int (iI ((b : Nat) : Int))] : List Value).toArray below meth c H locs 0 0 (MQ below (wrQ (dC, dI) (inW [(m0, .inr (1, [.int th, .ref t0, .ref k0, .ref p0, .int (iI ((w : Nat) : Int))])), (t0, .inl (cI, 24, .inl (fun j => iI ((tb a0 a1 j : Nat) : Int)))), (k0, .inl (cI, 12, .inl (fun j => iI ((K j : Nat) : Int)))), (p0, .inl (cI, 12, .inl (fun j => iI ((q j : Nat) : Int))))]) [(m0, .inr (1, [.int (iI 0), .ref t0, .ref k0, .ref p0, .int (iI ((w : Nat) : Int))])), (t0, .inl (cI, 24, .inl (fun j => iI ((tb (sr0 r (rotF (rw_ r a0 a1) b) a0) (sr1 r (rotF (rw_ r a0 a1) b) a1) j : Nat) : Int)))), (k0, .inl (cI, 12, .inl (fun j => iI (((mx (rotF (rw_ r a0 a1) b) K 12) j : Nat) : Int)))), (p0, .inl (cI, 12, .inl (fun j => iI ((q j : Nat) : Int))))] (some (.int (iI ((rotF (rw_ r a0 a1) b 0 : Nat) : Int))))) ([.ref m0, .int (iI ((r : Nat) : Int)), .int (iI ((b : Nat) : Int))] : List Value).toArray s 0 0 (inW [(m0, .inr (1, [.int th, .ref t0, .ref k0, .ref p0, .int (iI ((w : Nat) : Int))])), (t0, .inl (cI, 24, .inl (fun j => iI ((tb a0 a1 j : Nat) : Int)))), (k0, .inl (cI, 12, .inl (fun j => iI ((K j : Nat) : Int)))), (p0, .inl (cI, 12, .inl (fun j => iI ((q j : Nat) : Int))))])) (F0 m 34 ls []) := by
    intro j
    induction j with
    | zero =>
      intro n hn_34  H locs hP hD hS ls hl
      have hK12 : lt12 (mx (rotF (rw_ r a0 a1) b) K 12) := fun j hj => by rw [mx_in hj]; exact rotF_lt b (rw_lt12 h0 h1 r) j hj
      refine lv_iload_n hx hb dX1_rotate_34 rfl (lv_at hl 3 rfl) ?_
      refine ib_bi hx hb dX1_rotate_35 (by decide) ?_
      refine ib_icmp_ge (tgt := 63) hx hb dX1_rotate_37 (by decide) ⟨by omega, by omega⟩ ⟨by omega, by omega⟩ (fun c_37 => ?_) (fun c_37 => absurd c_37 (by omega))
      have hP : va_P (dC, dI) vwCl [(m0, .inr (1, [.int (iI 0), .ref t0, .ref k0, .ref p0, .int (iI ((w : Nat) : Int))])), (t0, .inl (cI, 24, .inl (fun j => iI ((tb a0 a1 j : Nat) : Int)))), (k0, .inl (cI, 12, .inl (fun j => iI (((mx (rotF (rw_ r a0 a1) b) K 12) j : Nat) : Int)))), (p0, .inl (cI, 12, .inl (fun j => iI ((q j : Nat) : Int))))] H := va_P_arr (q0 := 2) (f := fun j => iI (((mx (rotF (rw_ r a0 a1) b) K n) j : Nat) : Int)) (g := fun j => iI (((mx (rotF (rw_ r a0 a1) b) K 12) j : Nat) : Int)) (fun j hj => by rw [show n = 12 by omega]) rfl hP
      have hD : va_D (inW [(m0, .inr (1, [.int th, .ref t0, .ref k0, .ref p0, .int (iI ((w : Nat) : Int))])), (t0, .inl (cI, 24, .inl (fun j => iI ((tb a0 a1 j : Nat) : Int)))), (k0, .inl (cI, 12, .inl (fun j => iI ((K j : Nat) : Int)))), (p0, .inl (cI, 12, .inl (fun j => iI ((q j : Nat) : Int))))]) [(m0, .inr (1, [.int (iI 0), .ref t0, .ref k0, .ref p0, .int (iI ((w : Nat) : Int))])), (t0, .inl (cI, 24, .inl (fun j => iI ((tb a0 a1 j : Nat) : Int)))), (k0, .inl (cI, 12, .inl (fun j => iI (((mx (rotF (rw_ r a0 a1) b) K 12) j : Nat) : Int)))), (p0, .inl (cI, 12, .inl (fun j => iI ((q j : Nat) : Int))))] := va_D_same (w := [(m0, .inr (1, [.int (iI 0), .ref t0, .ref k0, .ref p0, .int (iI ((w : Nat) : Int))])), (t0, .inl (cI, 24, .inl (fun j => iI ((tb a0 a1 j : Nat) : Int)))), (k0, .inl (cI, 12, .inl (fun j => iI (((mx (rotF (rw_ r a0 a1) b) K n) j : Nat) : Int)))), (p0, .inl (cI, 12, .inl (fun j => iI ((q j : Nat) : Int))))]) rfl hD
      refine lv_aload_n hx hb dX1_rotate_63 rfl (lv_at hl 0 rfl) ?_
      refine lv_iload_n hx hb dX1_rotate_64 rfl (lv_at hl 1 rfl) ?_
      refine wr_call (va_runV (As := [.int (iI ((r : Nat) : Int))]) (rest := []) ⟨hx, hb, hml, hown, hts⟩ (mX1_lay l dC dI cI m0 t0 k0 p0 a0 a1 (mx (rotF (rw_ r a0 a1) b) K 12) q (iI 0) w h0 h1 hw hq r (by omega) hK12) (cwV 1 hts gX1_rotate_X1_lay rfl rfl rfl hvX1_lay ⟨Nat.le_of_ble_eq_true rfl, Nat.le_of_ble_eq_true rfl⟩) (bD_pre (ci := 1) (q0 := 0) hK hP hD rfl rfl rfl) rfl rfl hl.1 rfl (lv_room (Nat.le_of_ble_eq_true rfl)) dX1_rotate_65 ⟨Nat.le_of_ble_eq_true rfl, Nat.le_of_ble_eq_true rfl⟩) hS (fun q9 h => inW_same (w := [(m0, .inr (1, [.int (iI 0), .ref t0, .ref k0, .ref p0, .int (iI ((w : Nat) : Int))])), (t0, .inl (cI, 24, .inl (fun j => iI ((tb a0 a1 j : Nat) : Int)))), (k0, .inl (cI, 12, .inl (fun j => iI (((mx (rotF (rw_ r a0 a1) b) K 12) j : Nat) : Int)))), (p0, .inl (cI, 12, .inl (fun j => iI ((q j : Nat) : Int))))]) (w' := [(m0, .inr (1, [.int th, .ref t0, .ref k0, .ref p0, .int (iI ((w : Nat) : Int))])), (t0, .inl (cI, 24, .inl (fun j => iI ((tb a0 a1 j : Nat) : Int)))), (k0, .inl (cI, 12, .inl (fun j => iI ((K j : Nat) : Int)))), (p0, .inl (cI, 12, .inl (fun j => iI ((q j : Nat) : Int))))]) rfl h) (fun H locs hP hz hk hS => ?_)
      have hD : va_D (inW [(m0, .inr (1, [.int th, .ref t0, .ref k0, .ref p0, .int (iI ((w : Nat) : Int))])), (t0, .inl (cI, 24, .inl (fun j => iI ((tb a0 a1 j : Nat) : Int)))), (k0, .inl (cI, 12, .inl (fun j => iI ((K j : Nat) : Int)))), (p0, .inl (cI, 12, .inl (fun j => iI ((q j : Nat) : Int))))]) [(m0, .inr (1, [.int (iI 0), .ref t0, .ref k0, .ref p0, .int (iI ((w : Nat) : Int))])), (t0, .inl (cI, 24, .inl (fun j => iI ((tb (sr0 r (mx (rotF (rw_ r a0 a1) b) K 12) a0) (sr1 r (mx (rotF (rw_ r a0 a1) b) K 12) a1) j : Nat) : Int)))), (k0, .inl (cI, 12, .inl (fun j => iI (((mx (rotF (rw_ r a0 a1) b) K 12) j : Nat) : Int)))), (p0, .inl (cI, 12, .inl (fun j => iI ((q j : Nat) : Int))))] := va_D_same (w := [(m0, .inr (1, [.int (iI 0), .ref t0, .ref k0, .ref p0, .int (iI ((w : Nat) : Int))])), (t0, .inl (cI, 24, .inl (fun j => iI ((tb a0 a1 j : Nat) : Int)))), (k0, .inl (cI, 12, .inl (fun j => iI (((mx (rotF (rw_ r a0 a1) b) K 12) j : Nat) : Int)))), (p0, .inl (cI, 12, .inl (fun j => iI ((q j : Nat) : Int))))]) rfl hD
      refine st_i (y := iI (((rotF (rw_ r a0 a1) b) 0 : Nat) : Int)) (congrArg (fun z : Nat => iI ((z : Nat) : Int)) (mx_in (by decide))) ?_
      have hP : va_P (dC, dI) vwCl [(m0, .inr (1, [.int (iI 0), .ref t0, .ref k0, .ref p0, .int (iI ((w : Nat) : Int))])), (t0, .inl (cI, 24, .inl (fun j => iI ((tb (sr0 r (rotF (rw_ r a0 a1) b) a0) (sr1 r (rotF (rw_ r a0 a1) b) a1) j : Nat) : Int)))), (k0, .inl (cI, 12, .inl (fun j => iI (((mx (rotF (rw_ r a0 a1) b) K 12) j : Nat) : Int)))), (p0, .inl (cI, 12, .inl (fun j => iI ((q j : Nat) : Int))))] H := va_P_arr (q0 := 1) (f := fun j => iI ((tb (sr0 r (mx (rotF (rw_ r a0 a1) b) K 12) a0) (sr1 r (mx (rotF (rw_ r a0 a1) b) K 12) a1) j : Nat) : Int)) (g := fun j => iI ((tb (sr0 r (rotF (rw_ r a0 a1) b) a0) (sr1 r (rotF (rw_ r a0 a1) b) a1) j : Nat) : Int)) (fun j hj => tb_cg (fun i hi => mx_in hi) hj) rfl hP
      have hD : va_D (inW [(m0, .inr (1, [.int th, .ref t0, .ref k0, .ref p0, .int (iI ((w : Nat) : Int))])), (t0, .inl (cI, 24, .inl (fun j => iI ((tb a0 a1 j : Nat) : Int)))), (k0, .inl (cI, 12, .inl (fun j => iI ((K j : Nat) : Int)))), (p0, .inl (cI, 12, .inl (fun j => iI ((q j : Nat) : Int))))]) [(m0, .inr (1, [.int (iI 0), .ref t0, .ref k0, .ref p0, .int (iI ((w : Nat) : Int))])), (t0, .inl (cI, 24, .inl (fun j => iI ((tb (sr0 r (rotF (rw_ r a0 a1) b) a0) (sr1 r (rotF (rw_ r a0 a1) b) a1) j : Nat) : Int)))), (k0, .inl (cI, 12, .inl (fun j => iI (((mx (rotF (rw_ r a0 a1) b) K 12) j : Nat) : Int)))), (p0, .inl (cI, 12, .inl (fun j => iI ((q j : Nat) : Int))))] := va_D_same (w := [(m0, .inr (1, [.int (iI 0), .ref t0, .ref k0, .ref p0, .int (iI ((w : Nat) : Int))])), (t0, .inl (cI, 24, .inl (fun j => iI ((tb (sr0 r (mx (rotF (rw_ r a0 a1) b) K 12) a0) (sr1 r (mx (rotF (rw_ r a0 a1) b) K 12) a1) j : Nat) : Int)))), (k0, .inl (cI, 12, .inl (fun j => iI (((mx (rotF (rw_ r a0 a1) b) K 12) j : Nat) : Int)))), (p0, .inl (cI, 12, .inl (fun j => iI ((q j : Nat) : Int))))]) rfl hD
      refine st_i (y := iI ((rotF (rw_ r a0 a1) b 0 : Nat) : Int)) (congrArg iI (by omega)) ?_
      exact W.iret hx hb hr (fun t ht _ => ⟨rfl, by rw [ht]; exact hP, hS.F ht⟩) hS.2.2 dX1_rotate_68
    | succ j ih_34_1 =>
      intro n hn_34  H locs hP hD hS ls hl
      have hK12 : lt12 (mx (rotF (rw_ r a0 a1) b) K 12) := fun j hj => by rw [mx_in hj]; exact rotF_lt b (rw_lt12 h0 h1 r) j hj
      refine lv_iload_n hx hb dX1_rotate_34 rfl (lv_at hl 3 rfl) ?_
      refine ib_bi hx hb dX1_rotate_35 (by decide) ?_
      refine ib_icmp_ge (tgt := 63) hx hb dX1_rotate_37 (by decide) ⟨by omega, by omega⟩ ⟨by omega, by omega⟩ (fun c_37 => absurd c_37 (by omega)) (fun c_37 => ?_)
      refine lv_aload_n hx hb dX1_rotate_40 rfl (lv_at hl 0 rfl) ?_
      refine va_get (D := (dC, dI)) (ci := 1) (v := .ref k0) (C := RX1) (T := TX1) (N := 5) hx hb hts hinX hown hK hP 0 rfl rfl 2 (by decide) (hts (.fieldLink RX1 13 "ToneRowsModel" "kept" "[I") (by decide +kernel)) (fun _ h9 => h9) rfl dX1_rotate_41 ?_
      refine lv_iload_n hx hb dX1_rotate_44 rfl (lv_at hl 3 rfl) ?_
      refine lv_aload_n hx hb dX1_rotate_45 rfl (lv_at hl 0 rfl) ?_
      refine lv_iload_n hx hb dX1_rotate_46 rfl (lv_at hl 1 rfl) ?_
      refine lv_iload_n hx hb dX1_rotate_47 rfl (lv_at hl 3 rfl) ?_
      refine lv_iload_n hx hb dX1_rotate_48 rfl (lv_at hl 2 rfl) ?_
      refine ib_add (z := ((n + b : Nat) : Int)) hx hb dX1_rotate_49 (by omega) ?_
      refine ib_bi hx hb dX1_rotate_50 (by decide) ?_
      refine ib_rem (z := (((n + b) % 12 : Nat) : Int)) hx hb dX1_rotate_52 (by omega) (by omega) (by omega) (by omega) (by first | omega | rfl) ?_
      refine rd_call (va_runV (As := [.int (iI ((r : Nat) : Int)), .int (iI (((n + b) % 12 : Nat) : Int))]) (rest := [.int (iI ((n : Nat) : Int)), .ref k0]) ⟨hx, hb, hml, hown, hts⟩ (mX1_at l dC dI cI m0 t0 k0 p0 a0 a1 (mx (rotF (rw_ r a0 a1) b) K n) q (iI 0) w h0 h1 hw hq r ((n + b) % 12) (by omega) (by omega)) (cwV 2 hts gX1_rotate_X1_at rfl rfl rfl hvX1_at ⟨Nat.le_of_ble_eq_true rfl, Nat.le_of_ble_eq_true rfl⟩) (bW_pre (ci := 1) (q0 := 0) hK hP rfl rfl rfl) rfl rfl hl.1 rfl (lv_room (Nat.le_of_ble_eq_true rfl)) dX1_rotate_53 ⟨Nat.le_of_ble_eq_true rfl, Nat.le_of_ble_eq_true rfl⟩) ?_
      have hr_53 := rw_lt h0 h1 r (i := (n + b) % 12) (by omega)
      refine st_i (y := iI ((rotF (rw_ r a0 a1) b n : Nat) : Int)) (rfl) ?_
      refine ib_ast (f := fun j => iI (((mx (rotF (rw_ r a0 a1) b) K n) j : Nat) : Int)) (i := n) (x := iI ((rotF (rw_ r a0 a1) b n : Nat) : Int)) hx hb hK hP hD hS 2 0 (fun j => iI (((mx (rotF (rw_ r a0 a1) b) K (n + 1)) j : Nat) : Int)) rfl rfl (by first | rfl | omega) (by omega) (by omega) (fun j hj => mx_st) dX1_rotate_56 (fun H locs hP hD hS => ?_)
      have hP : va_P (dC, dI) vwCl [(m0, .inr (1, [.int (iI 0), .ref t0, .ref k0, .ref p0, .int (iI ((w : Nat) : Int))])), (t0, .inl (cI, 24, .inl (fun j => iI ((tb a0 a1 j : Nat) : Int)))), (k0, .inl (cI, 12, .inl (fun j => iI (((mx (rotF (rw_ r a0 a1) b) K (n + 1)) j : Nat) : Int)))), (p0, .inl (cI, 12, .inl (fun j => iI ((q j : Nat) : Int))))] H := hP
      have hD : va_D (inW [(m0, .inr (1, [.int th, .ref t0, .ref k0, .ref p0, .int (iI ((w : Nat) : Int))])), (t0, .inl (cI, 24, .inl (fun j => iI ((tb a0 a1 j : Nat) : Int)))), (k0, .inl (cI, 12, .inl (fun j => iI ((K j : Nat) : Int)))), (p0, .inl (cI, 12, .inl (fun j => iI ((q j : Nat) : Int))))]) [(m0, .inr (1, [.int (iI 0), .ref t0, .ref k0, .ref p0, .int (iI ((w : Nat) : Int))])), (t0, .inl (cI, 24, .inl (fun j => iI ((tb a0 a1 j : Nat) : Int)))), (k0, .inl (cI, 12, .inl (fun j => iI (((mx (rotF (rw_ r a0 a1) b) K (n + 1)) j : Nat) : Int)))), (p0, .inl (cI, 12, .inl (fun j => iI ((q j : Nat) : Int))))] := hD
      refine lv_iinc (v := iI ((n + 1 : Nat) : Int)) (lv' := [(3, .int (iI ((n + 1 : Nat) : Int))), (0, .ref m0), (1, .int (iI ((r : Nat) : Int))), (2, .int (iI ((b : Nat) : Int)))]) hx hb dX1_rotate_57 hl (k := 3) rfl (iI_inc (by omega)) (by decide) rfl (fun ls hl => ?_)
      refine lv_goto (tgt := 34) hx hb dX1_rotate_60 (by decide) ?_
      exact ih_34_1 (n + 1) (by omega)  _ _ hP hD hS _ (lv_sub hl [1, 2, 3, 0] rfl)
  exact lp_34_1 12 0 (by omega)  _ _ hP hD hS _ (lv_sub hl [1, 2, 3, 0] rfl)

set_option maxHeartbeats 4000000 in
set_option maxRecDepth 100000 in
theorem mX1_rotate_x1 (l : Launch) (dC : Nat → ClassId) (dI : Nat → Nat → Nat) (cI : ClassId) (m0 t0 k0 p0 : Nat) (a0 a1 K q : Nat → Nat) (th : Int32) (w : Nat) (h0 : lt12 a0) (h1 : lt12 a1) (hw : w ≤ 12) (hq : ∀ i, i < w → q i < 12) (z0 z1 : Int) (hz0 : inI z0) (hz1 : inI z1) (hbad : ¬ (z0 = 0 ∨ z0 = 1)) : wr l yX1_rotate wsX1_rotate { frames := 2, cells := 0, slots := 0, locals := 42 } [.ref m0, .int (iI z0), .int (iI z1)] (dC, dI) [(m0, .inr (1, [.int th, .ref t0, .ref k0, .ref p0, .int (iI ((w : Nat) : Int))])), (t0, .inl (cI, 24, .inl (fun j => iI ((tb a0 a1 j : Nat) : Int)))), (k0, .inl (cI, 12, .inl (fun j => iI ((K j : Nat) : Int)))), (p0, .inl (cI, 12, .inl (fun j => iI ((q j : Nat) : Int))))] [(cI, .int)] [(m0, .inr (1, [.int (iI 1), .ref t0, .ref k0, .ref p0, .int (iI ((w : Nat) : Int))])), (t0, .inl (cI, 24, .inl (fun j => iI ((tb a0 a1 j : Nat) : Int)))), (k0, .inl (cI, 12, .inl (fun j => iI ((K j : Nat) : Int)))), (p0, .inl (cI, 12, .inl (fun j => iI ((q j : Nat) : Int))))] (some (.int (iI 0))) := by
  refine Met.ofW (cc := cX1_rotate) (maxL := 4) (ret := (some .int)) (by decide) rfl ?_
  intro P0 e s m args below meth c s₁ B hml hv
  obtain ⟨rfl, hP, hK, hD0⟩ := hv
  have hx := B.exec
  have hb := B.bytes
  have hr := B.returns
  have hts := atoms_spec (ws := wsX1_rotate) B.pre
  have hown : s.vm.findClass RX1 = some m.cls := findClass_of_methodNamed B.named
  have hlocks := B.notSynchronized
  have hinX : ∀ w ∈ u_ws RX1 TX1 5, w ∈ wsX1_rotate := by decide +kernel
  have hD : va_D (inW [(m0, .inr (1, [.int th, .ref t0, .ref k0, .ref p0, .int (iI ((w : Nat) : Int))])), (t0, .inl (cI, 24, .inl (fun j => iI ((tb a0 a1 j : Nat) : Int)))), (k0, .inl (cI, 12, .inl (fun j => iI ((K j : Nat) : Int)))), (p0, .inl (cI, 12, .inl (fun j => iI ((q j : Nat) : Int))))]) [(m0, .inr (1, [.int th, .ref t0, .ref k0, .ref p0, .int (iI ((w : Nat) : Int))])), (t0, .inl (cI, 24, .inl (fun j => iI ((tb a0 a1 j : Nat) : Int)))), (k0, .inl (cI, 12, .inl (fun j => iI ((K j : Nat) : Int)))), (p0, .inl (cI, 12, .inl (fun j => iI ((q j : Nat) : Int))))] := va_D_in hD0
  have hS : va_S (inW [(m0, .inr (1, [.int th, .ref t0, .ref k0, .ref p0, .int (iI ((w : Nat) : Int))])), (t0, .inl (cI, 24, .inl (fun j => iI ((tb a0 a1 j : Nat) : Int)))), (k0, .inl (cI, 12, .inl (fun j => iI ((K j : Nat) : Int)))), (p0, .inl (cI, 12, .inl (fun j => iI ((q j : Nat) : Int))))]) s.heap s.heap [] := va_S.rf
  have hl := lv_entry ([.ref m0, .int (iI z0), .int (iI z1)]) (n := 4) (Nat.le_of_ble_eq_true rfl)
  rw [lg_entry_eq]
  generalize (lg_sl ([.ref m0, .int (iI z0), .int (iI z1)]) ++ List.replicate (4 - (lg_sl ([.ref m0, .int (iI z0), .int (iI z1)])).length) Slot.unset).toArray = ls at hl ⊢
  have hl : lv_has ls 4 [(0, .ref m0), (1, .int (iI z0)), (2, .int (iI z1))] := hl
  have hza0 := hz0.1
  have hza1 := hz1.1
  have hzb0 := hz0.2
  have hzb1 := hz1.2
  refine lv_aload_n hx hb dX1_rotate_0 rfl (lv_at hl 0 rfl) ?_
  refine lv_iload_n hx hb dX1_rotate_1 rfl (lv_at hl 1 rfl) ?_
  refine rd_call (va_runS (As := [.int (iI z0)]) (rest := [.ref m0]) ⟨hx, hb, hml, hown, hts⟩ (mX1_isRow l z0 ⟨by omega, by omega⟩) (va_cwS 1 hts gX1_rotate_X1_isRow rfl rfl rfl hdX1_isRow ⟨Nat.le_of_ble_eq_true rfl, Nat.le_of_ble_eq_true rfl⟩) tt_pre rfl rfl hl.1 rfl (lv_room (Nat.le_of_ble_eq_true rfl)) dX1_rotate_2 ⟨Nat.le_of_ble_eq_true rfl, Nat.le_of_ble_eq_true rfl⟩) ?_
  refine bb_ne (tgt := 12) hx hb dX1_rotate_5 (by decide) (fun c_5 => ?_) (fun c_5 => ?_)
  · skip
    refine lv_iload_n hx hb dX1_rotate_12 rfl (lv_at hl 2 rfl) ?_
    refine rd_call (va_runS (As := [.int (iI z1)]) (rest := [.ref m0]) ⟨hx, hb, hml, hown, hts⟩ (mX1_isTone l z1 ⟨by omega, by omega⟩) (va_cwS 1 hts gX1_rotate_X1_isTone rfl rfl rfl hdX1_isTone ⟨Nat.le_of_ble_eq_true rfl, Nat.le_of_ble_eq_true rfl⟩) tt_pre rfl rfl hl.1 rfl (lv_room (Nat.le_of_ble_eq_true rfl)) dX1_rotate_13 ⟨Nat.le_of_ble_eq_true rfl, Nat.le_of_ble_eq_true rfl⟩) ?_
    refine bb_eq (tgt := 23) hx hb dX1_rotate_16 (by decide) (fun c_16 => ?_) (fun c_16 => ?_)
    · skip
      refine ib_const hx hb dX1_rotate_23 ?_
      exfalso; omega
    · skip
      refine ib_const hx hb dX1_rotate_19 ?_
      refine lv_goto (tgt := 24) hx hb dX1_rotate_20 (by decide) ?_
      exfalso; omega
  · skip
    refine ib_const hx hb dX1_rotate_8 ?_
    refine lv_goto (tgt := 24) hx hb dX1_rotate_9 (by decide) ?_
    refine wr_call (va_runV (As := [.int (iI 1)]) (rest := []) ⟨hx, hb, hml, hown, hts⟩ (mX1_goesWell l dC dI cI m0 t0 k0 p0 a0 a1 K q th w h0 h1 hw hq 1 ⟨by omega, by omega⟩) (cwV 1 hts gX1_rotate_X1_goesWell rfl rfl rfl hvX1_goesWell ⟨Nat.le_of_ble_eq_true rfl, Nat.le_of_ble_eq_true rfl⟩) (bD_pre (ci := 1) (q0 := 0) hK hP hD rfl rfl rfl) rfl rfl hl.1 rfl (lv_room (Nat.le_of_ble_eq_true rfl)) dX1_rotate_24 ⟨Nat.le_of_ble_eq_true rfl, Nat.le_of_ble_eq_true rfl⟩) hS (fun q9 h => inW_same (w := [(m0, .inr (1, [.int th, .ref t0, .ref k0, .ref p0, .int (iI ((w : Nat) : Int))])), (t0, .inl (cI, 24, .inl (fun j => iI ((tb a0 a1 j : Nat) : Int)))), (k0, .inl (cI, 12, .inl (fun j => iI ((K j : Nat) : Int)))), (p0, .inl (cI, 12, .inl (fun j => iI ((q j : Nat) : Int))))]) (w' := [(m0, .inr (1, [.int th, .ref t0, .ref k0, .ref p0, .int (iI ((w : Nat) : Int))])), (t0, .inl (cI, 24, .inl (fun j => iI ((tb a0 a1 j : Nat) : Int)))), (k0, .inl (cI, 12, .inl (fun j => iI ((K j : Nat) : Int)))), (p0, .inl (cI, 12, .inl (fun j => iI ((q j : Nat) : Int))))]) rfl h) (fun H locs hP hz hk hS => ?_)
    have hD : va_D (inW [(m0, .inr (1, [.int th, .ref t0, .ref k0, .ref p0, .int (iI ((w : Nat) : Int))])), (t0, .inl (cI, 24, .inl (fun j => iI ((tb a0 a1 j : Nat) : Int)))), (k0, .inl (cI, 12, .inl (fun j => iI ((K j : Nat) : Int)))), (p0, .inl (cI, 12, .inl (fun j => iI ((q j : Nat) : Int))))]) [(m0, .inr (1, [.int (iI 1), .ref t0, .ref k0, .ref p0, .int (iI ((w : Nat) : Int))])), (t0, .inl (cI, 24, .inl (fun j => iI ((tb a0 a1 j : Nat) : Int)))), (k0, .inl (cI, 12, .inl (fun j => iI ((K j : Nat) : Int)))), (p0, .inl (cI, 12, .inl (fun j => iI ((q j : Nat) : Int))))] := va_D_same (w := [(m0, .inr (1, [.int th, .ref t0, .ref k0, .ref p0, .int (iI ((w : Nat) : Int))])), (t0, .inl (cI, 24, .inl (fun j => iI ((tb a0 a1 j : Nat) : Int)))), (k0, .inl (cI, 12, .inl (fun j => iI ((K j : Nat) : Int)))), (p0, .inl (cI, 12, .inl (fun j => iI ((q j : Nat) : Int))))]) rfl hD
    refine st_i (y := iI 0) (congrArg iI (bI_f (by decide))) ?_
    refine ib_if_ne (tgt := 32) hx hb dX1_rotate_27 (by decide) ⟨by omega, by omega⟩ (fun c_27 => absurd c_27 (by decide)) (fun c_27 => ?_)
    refine ib_const hx hb dX1_rotate_30 ?_
    exact W.iret hx hb hr (fun t ht _ => ⟨rfl, by rw [ht]; exact hP, hS.F ht⟩) hS.2.2 dX1_rotate_31

set_option maxHeartbeats 4000000 in
set_option maxRecDepth 100000 in
theorem mX1_rotate_x2 (l : Launch) (dC : Nat → ClassId) (dI : Nat → Nat → Nat) (cI : ClassId) (m0 t0 k0 p0 : Nat) (a0 a1 K q : Nat → Nat) (th : Int32) (w : Nat) (h0 : lt12 a0) (h1 : lt12 a1) (hw : w ≤ 12) (hq : ∀ i, i < w → q i < 12) (z0 z1 : Int) (hz0 : inI z0) (hz1 : inI z1) (hbad : (z0 = 0 ∨ z0 = 1) ∧ ¬ (0 ≤ z1 ∧ z1 ≤ 11)) : wr l yX1_rotate wsX1_rotate { frames := 2, cells := 0, slots := 0, locals := 42 } [.ref m0, .int (iI z0), .int (iI z1)] (dC, dI) [(m0, .inr (1, [.int th, .ref t0, .ref k0, .ref p0, .int (iI ((w : Nat) : Int))])), (t0, .inl (cI, 24, .inl (fun j => iI ((tb a0 a1 j : Nat) : Int)))), (k0, .inl (cI, 12, .inl (fun j => iI ((K j : Nat) : Int)))), (p0, .inl (cI, 12, .inl (fun j => iI ((q j : Nat) : Int))))] [(cI, .int)] [(m0, .inr (1, [.int (iI 2), .ref t0, .ref k0, .ref p0, .int (iI ((w : Nat) : Int))])), (t0, .inl (cI, 24, .inl (fun j => iI ((tb a0 a1 j : Nat) : Int)))), (k0, .inl (cI, 12, .inl (fun j => iI ((K j : Nat) : Int)))), (p0, .inl (cI, 12, .inl (fun j => iI ((q j : Nat) : Int))))] (some (.int (iI 0))) := by
  refine Met.ofW (cc := cX1_rotate) (maxL := 4) (ret := (some .int)) (by decide) rfl ?_
  intro P0 e s m args below meth c s₁ B hml hv
  obtain ⟨rfl, hP, hK, hD0⟩ := hv
  have hx := B.exec
  have hb := B.bytes
  have hr := B.returns
  have hts := atoms_spec (ws := wsX1_rotate) B.pre
  have hown : s.vm.findClass RX1 = some m.cls := findClass_of_methodNamed B.named
  have hlocks := B.notSynchronized
  have hinX : ∀ w ∈ u_ws RX1 TX1 5, w ∈ wsX1_rotate := by decide +kernel
  have hD : va_D (inW [(m0, .inr (1, [.int th, .ref t0, .ref k0, .ref p0, .int (iI ((w : Nat) : Int))])), (t0, .inl (cI, 24, .inl (fun j => iI ((tb a0 a1 j : Nat) : Int)))), (k0, .inl (cI, 12, .inl (fun j => iI ((K j : Nat) : Int)))), (p0, .inl (cI, 12, .inl (fun j => iI ((q j : Nat) : Int))))]) [(m0, .inr (1, [.int th, .ref t0, .ref k0, .ref p0, .int (iI ((w : Nat) : Int))])), (t0, .inl (cI, 24, .inl (fun j => iI ((tb a0 a1 j : Nat) : Int)))), (k0, .inl (cI, 12, .inl (fun j => iI ((K j : Nat) : Int)))), (p0, .inl (cI, 12, .inl (fun j => iI ((q j : Nat) : Int))))] := va_D_in hD0
  have hS : va_S (inW [(m0, .inr (1, [.int th, .ref t0, .ref k0, .ref p0, .int (iI ((w : Nat) : Int))])), (t0, .inl (cI, 24, .inl (fun j => iI ((tb a0 a1 j : Nat) : Int)))), (k0, .inl (cI, 12, .inl (fun j => iI ((K j : Nat) : Int)))), (p0, .inl (cI, 12, .inl (fun j => iI ((q j : Nat) : Int))))]) s.heap s.heap [] := va_S.rf
  have hl := lv_entry ([.ref m0, .int (iI z0), .int (iI z1)]) (n := 4) (Nat.le_of_ble_eq_true rfl)
  rw [lg_entry_eq]
  generalize (lg_sl ([.ref m0, .int (iI z0), .int (iI z1)]) ++ List.replicate (4 - (lg_sl ([.ref m0, .int (iI z0), .int (iI z1)])).length) Slot.unset).toArray = ls at hl ⊢
  have hl : lv_has ls 4 [(0, .ref m0), (1, .int (iI z0)), (2, .int (iI z1))] := hl
  have hza0 := hz0.1
  have hza1 := hz1.1
  have hzb0 := hz0.2
  have hzb1 := hz1.2
  refine lv_aload_n hx hb dX1_rotate_0 rfl (lv_at hl 0 rfl) ?_
  refine lv_iload_n hx hb dX1_rotate_1 rfl (lv_at hl 1 rfl) ?_
  refine rd_call (va_runS (As := [.int (iI z0)]) (rest := [.ref m0]) ⟨hx, hb, hml, hown, hts⟩ (mX1_isRow l z0 ⟨by omega, by omega⟩) (va_cwS 1 hts gX1_rotate_X1_isRow rfl rfl rfl hdX1_isRow ⟨Nat.le_of_ble_eq_true rfl, Nat.le_of_ble_eq_true rfl⟩) tt_pre rfl rfl hl.1 rfl (lv_room (Nat.le_of_ble_eq_true rfl)) dX1_rotate_2 ⟨Nat.le_of_ble_eq_true rfl, Nat.le_of_ble_eq_true rfl⟩) ?_
  refine bb_ne (tgt := 12) hx hb dX1_rotate_5 (by decide) (fun c_5 => ?_) (fun c_5 => ?_)
  · skip
    refine lv_iload_n hx hb dX1_rotate_12 rfl (lv_at hl 2 rfl) ?_
    refine rd_call (va_runS (As := [.int (iI z1)]) (rest := [.ref m0]) ⟨hx, hb, hml, hown, hts⟩ (mX1_isTone l z1 ⟨by omega, by omega⟩) (va_cwS 1 hts gX1_rotate_X1_isTone rfl rfl rfl hdX1_isTone ⟨Nat.le_of_ble_eq_true rfl, Nat.le_of_ble_eq_true rfl⟩) tt_pre rfl rfl hl.1 rfl (lv_room (Nat.le_of_ble_eq_true rfl)) dX1_rotate_13 ⟨Nat.le_of_ble_eq_true rfl, Nat.le_of_ble_eq_true rfl⟩) ?_
    refine bb_eq (tgt := 23) hx hb dX1_rotate_16 (by decide) (fun c_16 => ?_) (fun c_16 => ?_)
    · skip
      refine ib_const hx hb dX1_rotate_23 ?_
      refine wr_call (va_runV (As := [.int (iI 2)]) (rest := []) ⟨hx, hb, hml, hown, hts⟩ (mX1_goesWell l dC dI cI m0 t0 k0 p0 a0 a1 K q th w h0 h1 hw hq 2 ⟨by omega, by omega⟩) (cwV 1 hts gX1_rotate_X1_goesWell rfl rfl rfl hvX1_goesWell ⟨Nat.le_of_ble_eq_true rfl, Nat.le_of_ble_eq_true rfl⟩) (bD_pre (ci := 1) (q0 := 0) hK hP hD rfl rfl rfl) rfl rfl hl.1 rfl (lv_room (Nat.le_of_ble_eq_true rfl)) dX1_rotate_24 ⟨Nat.le_of_ble_eq_true rfl, Nat.le_of_ble_eq_true rfl⟩) hS (fun q9 h => inW_same (w := [(m0, .inr (1, [.int th, .ref t0, .ref k0, .ref p0, .int (iI ((w : Nat) : Int))])), (t0, .inl (cI, 24, .inl (fun j => iI ((tb a0 a1 j : Nat) : Int)))), (k0, .inl (cI, 12, .inl (fun j => iI ((K j : Nat) : Int)))), (p0, .inl (cI, 12, .inl (fun j => iI ((q j : Nat) : Int))))]) (w' := [(m0, .inr (1, [.int th, .ref t0, .ref k0, .ref p0, .int (iI ((w : Nat) : Int))])), (t0, .inl (cI, 24, .inl (fun j => iI ((tb a0 a1 j : Nat) : Int)))), (k0, .inl (cI, 12, .inl (fun j => iI ((K j : Nat) : Int)))), (p0, .inl (cI, 12, .inl (fun j => iI ((q j : Nat) : Int))))]) rfl h) (fun H locs hP hz hk hS => ?_)
      have hD : va_D (inW [(m0, .inr (1, [.int th, .ref t0, .ref k0, .ref p0, .int (iI ((w : Nat) : Int))])), (t0, .inl (cI, 24, .inl (fun j => iI ((tb a0 a1 j : Nat) : Int)))), (k0, .inl (cI, 12, .inl (fun j => iI ((K j : Nat) : Int)))), (p0, .inl (cI, 12, .inl (fun j => iI ((q j : Nat) : Int))))]) [(m0, .inr (1, [.int (iI 2), .ref t0, .ref k0, .ref p0, .int (iI ((w : Nat) : Int))])), (t0, .inl (cI, 24, .inl (fun j => iI ((tb a0 a1 j : Nat) : Int)))), (k0, .inl (cI, 12, .inl (fun j => iI ((K j : Nat) : Int)))), (p0, .inl (cI, 12, .inl (fun j => iI ((q j : Nat) : Int))))] := va_D_same (w := [(m0, .inr (1, [.int th, .ref t0, .ref k0, .ref p0, .int (iI ((w : Nat) : Int))])), (t0, .inl (cI, 24, .inl (fun j => iI ((tb a0 a1 j : Nat) : Int)))), (k0, .inl (cI, 12, .inl (fun j => iI ((K j : Nat) : Int)))), (p0, .inl (cI, 12, .inl (fun j => iI ((q j : Nat) : Int))))]) rfl hD
      refine st_i (y := iI 0) (congrArg iI (bI_f (by decide))) ?_
      refine ib_if_ne (tgt := 32) hx hb dX1_rotate_27 (by decide) ⟨by omega, by omega⟩ (fun c_27 => absurd c_27 (by decide)) (fun c_27 => ?_)
      refine ib_const hx hb dX1_rotate_30 ?_
      exact W.iret hx hb hr (fun t ht _ => ⟨rfl, by rw [ht]; exact hP, hS.F ht⟩) hS.2.2 dX1_rotate_31
    · skip
      refine ib_const hx hb dX1_rotate_19 ?_
      refine lv_goto (tgt := 24) hx hb dX1_rotate_20 (by decide) ?_
      exfalso; omega
  · skip
    refine ib_const hx hb dX1_rotate_8 ?_
    refine lv_goto (tgt := 24) hx hb dX1_rotate_9 (by decide) ?_
    exfalso; omega

set_option maxHeartbeats 4000000 in
set_option maxRecDepth 100000 in
theorem mX1_tone_ok (l : Launch) (dC : Nat → ClassId) (dI : Nat → Nat → Nat) (cI : ClassId) (m0 t0 k0 p0 : Nat) (a0 a1 K q : Nat → Nat) (th : Int32) (w : Nat) (h0 : lt12 a0) (h1 : lt12 a1) (hw : w ≤ 12) (hq : ∀ i, i < w → q i < 12) (r i : Nat) (hr9 : r < 2) (hi : i < 12) : wr l yX1_tone wsX1_tone { frames := 2, cells := 0, slots := 0, locals := 42 } [.ref m0, .int (iI ((r : Nat) : Int)), .int (iI ((i : Nat) : Int))] (dC, dI) [(m0, .inr (1, [.int th, .ref t0, .ref k0, .ref p0, .int (iI ((w : Nat) : Int))])), (t0, .inl (cI, 24, .inl (fun j => iI ((tb a0 a1 j : Nat) : Int)))), (k0, .inl (cI, 12, .inl (fun j => iI ((K j : Nat) : Int)))), (p0, .inl (cI, 12, .inl (fun j => iI ((q j : Nat) : Int))))] [(cI, .int)] [(m0, .inr (1, [.int (iI 0), .ref t0, .ref k0, .ref p0, .int (iI ((w : Nat) : Int))])), (t0, .inl (cI, 24, .inl (fun j => iI ((tb a0 a1 j : Nat) : Int)))), (k0, .inl (cI, 12, .inl (fun j => iI ((K j : Nat) : Int)))), (p0, .inl (cI, 12, .inl (fun j => iI ((q j : Nat) : Int))))] (some (.int (iI ((rw_ r a0 a1 i : Nat) : Int)))) := by
  refine Met.ofW (cc := cX1_tone) (maxL := 3) (ret := (some .int)) (by decide) rfl ?_
  intro P0 e s m args below meth c s₁ B hml hv
  obtain ⟨rfl, hP, hK, hD0⟩ := hv
  have hx := B.exec
  have hb := B.bytes
  have hr := B.returns
  have hts := atoms_spec (ws := wsX1_tone) B.pre
  have hown : s.vm.findClass RX1 = some m.cls := findClass_of_methodNamed B.named
  have hlocks := B.notSynchronized
  have hinX : ∀ w ∈ u_ws RX1 TX1 5, w ∈ wsX1_tone := by decide +kernel
  have hD : va_D (inW [(m0, .inr (1, [.int th, .ref t0, .ref k0, .ref p0, .int (iI ((w : Nat) : Int))])), (t0, .inl (cI, 24, .inl (fun j => iI ((tb a0 a1 j : Nat) : Int)))), (k0, .inl (cI, 12, .inl (fun j => iI ((K j : Nat) : Int)))), (p0, .inl (cI, 12, .inl (fun j => iI ((q j : Nat) : Int))))]) [(m0, .inr (1, [.int th, .ref t0, .ref k0, .ref p0, .int (iI ((w : Nat) : Int))])), (t0, .inl (cI, 24, .inl (fun j => iI ((tb a0 a1 j : Nat) : Int)))), (k0, .inl (cI, 12, .inl (fun j => iI ((K j : Nat) : Int)))), (p0, .inl (cI, 12, .inl (fun j => iI ((q j : Nat) : Int))))] := va_D_in hD0
  have hS : va_S (inW [(m0, .inr (1, [.int th, .ref t0, .ref k0, .ref p0, .int (iI ((w : Nat) : Int))])), (t0, .inl (cI, 24, .inl (fun j => iI ((tb a0 a1 j : Nat) : Int)))), (k0, .inl (cI, 12, .inl (fun j => iI ((K j : Nat) : Int)))), (p0, .inl (cI, 12, .inl (fun j => iI ((q j : Nat) : Int))))]) s.heap s.heap [] := va_S.rf
  have hl := lv_entry ([.ref m0, .int (iI ((r : Nat) : Int)), .int (iI ((i : Nat) : Int))]) (n := 3) (Nat.le_of_ble_eq_true rfl)
  rw [lg_entry_eq]
  generalize (lg_sl ([.ref m0, .int (iI ((r : Nat) : Int)), .int (iI ((i : Nat) : Int))]) ++ List.replicate (3 - (lg_sl ([.ref m0, .int (iI ((r : Nat) : Int)), .int (iI ((i : Nat) : Int))])).length) Slot.unset).toArray = ls at hl ⊢
  have hl : lv_has ls 3 [(0, .ref m0), (1, .int (iI ((r : Nat) : Int))), (2, .int (iI ((i : Nat) : Int)))] := hl
  refine lv_aload_n hx hb dX1_tone_0 rfl (lv_at hl 0 rfl) ?_
  refine lv_iload_n hx hb dX1_tone_1 rfl (lv_at hl 1 rfl) ?_
  refine rd_call (va_runS (As := [.int (iI ((r : Nat) : Int))]) (rest := [.ref m0]) ⟨hx, hb, hml, hown, hts⟩ (mX1_isRow l ((r : Nat) : Int) ⟨by omega, by omega⟩) (va_cwS 1 hts gX1_tone_X1_isRow rfl rfl rfl hdX1_isRow ⟨Nat.le_of_ble_eq_true rfl, Nat.le_of_ble_eq_true rfl⟩) tt_pre rfl rfl hl.1 rfl (lv_room (Nat.le_of_ble_eq_true rfl)) dX1_tone_2 ⟨Nat.le_of_ble_eq_true rfl, Nat.le_of_ble_eq_true rfl⟩) ?_
  refine bb_eq (tgt := 19) hx hb dX1_tone_5 (by decide) (fun c_5 => absurd c_5 (by omega)) (fun c_5 => ?_)
  refine lv_iload_n hx hb dX1_tone_8 rfl (lv_at hl 2 rfl) ?_
  refine rd_call (va_runS (As := [.int (iI ((i : Nat) : Int))]) (rest := [.ref m0]) ⟨hx, hb, hml, hown, hts⟩ (mX1_isTone l ((i : Nat) : Int) ⟨by omega, by omega⟩) (va_cwS 1 hts gX1_tone_X1_isTone rfl rfl rfl hdX1_isTone ⟨Nat.le_of_ble_eq_true rfl, Nat.le_of_ble_eq_true rfl⟩) tt_pre rfl rfl hl.1 rfl (lv_room (Nat.le_of_ble_eq_true rfl)) dX1_tone_9 ⟨Nat.le_of_ble_eq_true rfl, Nat.le_of_ble_eq_true rfl⟩) ?_
  refine bb_eq (tgt := 19) hx hb dX1_tone_12 (by decide) (fun c_12 => absurd c_12 (by omega)) (fun c_12 => ?_)
  refine ib_const hx hb dX1_tone_15 ?_
  refine lv_goto (tgt := 20) hx hb dX1_tone_16 (by decide) ?_
  refine wr_call (va_runV (As := [.int (iI 0)]) (rest := []) ⟨hx, hb, hml, hown, hts⟩ (mX1_goesWell l dC dI cI m0 t0 k0 p0 a0 a1 K q th w h0 h1 hw hq 0 ⟨by omega, by omega⟩) (cwV 1 hts gX1_tone_X1_goesWell rfl rfl rfl hvX1_goesWell ⟨Nat.le_of_ble_eq_true rfl, Nat.le_of_ble_eq_true rfl⟩) (bD_pre (ci := 1) (q0 := 0) hK hP hD rfl rfl rfl) rfl rfl hl.1 rfl (lv_room (Nat.le_of_ble_eq_true rfl)) dX1_tone_20 ⟨Nat.le_of_ble_eq_true rfl, Nat.le_of_ble_eq_true rfl⟩) hS (fun q9 h => inW_same (w := [(m0, .inr (1, [.int th, .ref t0, .ref k0, .ref p0, .int (iI ((w : Nat) : Int))])), (t0, .inl (cI, 24, .inl (fun j => iI ((tb a0 a1 j : Nat) : Int)))), (k0, .inl (cI, 12, .inl (fun j => iI ((K j : Nat) : Int)))), (p0, .inl (cI, 12, .inl (fun j => iI ((q j : Nat) : Int))))]) (w' := [(m0, .inr (1, [.int th, .ref t0, .ref k0, .ref p0, .int (iI ((w : Nat) : Int))])), (t0, .inl (cI, 24, .inl (fun j => iI ((tb a0 a1 j : Nat) : Int)))), (k0, .inl (cI, 12, .inl (fun j => iI ((K j : Nat) : Int)))), (p0, .inl (cI, 12, .inl (fun j => iI ((q j : Nat) : Int))))]) rfl h) (fun H locs hP hz hk hS => ?_)
  have hD : va_D (inW [(m0, .inr (1, [.int th, .ref t0, .ref k0, .ref p0, .int (iI ((w : Nat) : Int))])), (t0, .inl (cI, 24, .inl (fun j => iI ((tb a0 a1 j : Nat) : Int)))), (k0, .inl (cI, 12, .inl (fun j => iI ((K j : Nat) : Int)))), (p0, .inl (cI, 12, .inl (fun j => iI ((q j : Nat) : Int))))]) [(m0, .inr (1, [.int (iI 0), .ref t0, .ref k0, .ref p0, .int (iI ((w : Nat) : Int))])), (t0, .inl (cI, 24, .inl (fun j => iI ((tb a0 a1 j : Nat) : Int)))), (k0, .inl (cI, 12, .inl (fun j => iI ((K j : Nat) : Int)))), (p0, .inl (cI, 12, .inl (fun j => iI ((q j : Nat) : Int))))] := va_D_same (w := [(m0, .inr (1, [.int th, .ref t0, .ref k0, .ref p0, .int (iI ((w : Nat) : Int))])), (t0, .inl (cI, 24, .inl (fun j => iI ((tb a0 a1 j : Nat) : Int)))), (k0, .inl (cI, 12, .inl (fun j => iI ((K j : Nat) : Int)))), (p0, .inl (cI, 12, .inl (fun j => iI ((q j : Nat) : Int))))]) rfl hD
  refine st_i (y := iI 1) (congrArg iI (bI_t (by decide))) ?_
  refine ib_if_eq (tgt := 35) hx hb dX1_tone_23 (by decide) ⟨by omega, by omega⟩ (fun c_23 => absurd c_23 (by decide)) (fun c_23 => ?_)
  refine lv_aload_n hx hb dX1_tone_26 rfl (lv_at hl 0 rfl) ?_
  refine lv_iload_n hx hb dX1_tone_27 rfl (lv_at hl 1 rfl) ?_
  refine lv_iload_n hx hb dX1_tone_28 rfl (lv_at hl 2 rfl) ?_
  refine rd_call (va_runV (As := [.int (iI ((r : Nat) : Int)), .int (iI ((i : Nat) : Int))]) (rest := []) ⟨hx, hb, hml, hown, hts⟩ (mX1_at l dC dI cI m0 t0 k0 p0 a0 a1 K q (iI 0) w h0 h1 hw hq r i (by omega) (by omega)) (cwV 2 hts gX1_tone_X1_at rfl rfl rfl hvX1_at ⟨Nat.le_of_ble_eq_true rfl, Nat.le_of_ble_eq_true rfl⟩) (bW_pre (ci := 1) (q0 := 0) hK hP rfl rfl rfl) rfl rfl hl.1 rfl (lv_room (Nat.le_of_ble_eq_true rfl)) dX1_tone_29 ⟨Nat.le_of_ble_eq_true rfl, Nat.le_of_ble_eq_true rfl⟩) ?_
  have hr_29 := rw_lt h0 h1 r (i := i) (by omega)
  refine lv_goto (tgt := 36) hx hb dX1_tone_32 (by decide) ?_
  exact W.iret hx hb hr (fun t ht _ => ⟨rfl, by rw [ht]; exact hP, hS.F ht⟩) hS.2.2 dX1_tone_36
