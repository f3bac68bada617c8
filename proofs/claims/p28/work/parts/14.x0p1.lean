theorem hdJ6_bitCount_0f7a4 : yJ6_bitCount_0f7a4.cls ≠ "java/lang/invoke/MethodHandle" ∧ yJ6_bitCount_0f7a4.cls ≠ "java/lang/invoke/VarHandle" ∧ (parseMethodDescriptor yJ6_bitCount_0f7a4.desc).map (fun d => d.parameters.length) = some 1 := by decide +kernel
theorem hdX0_codeOf : yX0_codeOf.cls ≠ "java/lang/invoke/MethodHandle" ∧ yX0_codeOf.cls ≠ "java/lang/invoke/VarHandle" ∧ (parseMethodDescriptor yX0_codeOf.desc).map (fun d => d.parameters.length) = some 2 := by decide +kernel
theorem hdX0_countKept : yX0_countKept.cls ≠ "java/lang/invoke/MethodHandle" ∧ yX0_countKept.cls ≠ "java/lang/invoke/VarHandle" ∧ (parseMethodDescriptor yX0_countKept.desc).map (fun d => d.parameters.length) = some 3 := by decide +kernel
theorem hdX0_formWith : yX0_formWith.cls ≠ "java/lang/invoke/MethodHandle" ∧ yX0_formWith.cls ≠ "java/lang/invoke/VarHandle" ∧ (parseMethodDescriptor yX0_formWith.desc).map (fun d => d.parameters.length) = some 2 := by decide +kernel
theorem hdX0_intervalAt : yX0_intervalAt.cls ≠ "java/lang/invoke/MethodHandle" ∧ yX0_intervalAt.cls ≠ "java/lang/invoke/VarHandle" ∧ (parseMethodDescriptor yX0_intervalAt.desc).map (fun d => d.parameters.length) = some 2 := by decide +kernel
theorem hdX0_leastLike : yX0_leastLike.cls ≠ "java/lang/invoke/MethodHandle" ∧ yX0_leastLike.cls ≠ "java/lang/invoke/VarHandle" ∧ (parseMethodDescriptor yX0_leastLike.desc).map (fun d => d.parameters.length) = some 1 := by decide +kernel
theorem hdX0_requireFactor : yX0_requireFactor.cls ≠ "java/lang/invoke/MethodHandle" ∧ yX0_requireFactor.cls ≠ "java/lang/invoke/VarHandle" ∧ (parseMethodDescriptor yX0_requireFactor.desc).map (fun d => d.parameters.length) = some 1 := by decide +kernel
theorem hdX0_requireForm : yX0_requireForm.cls ≠ "java/lang/invoke/MethodHandle" ∧ yX0_requireForm.cls ≠ "java/lang/invoke/VarHandle" ∧ (parseMethodDescriptor yX0_requireForm.desc).map (fun d => d.parameters.length) = some 2 := by decide +kernel
theorem hdX0_requirePlace : yX0_requirePlace.cls ≠ "java/lang/invoke/MethodHandle" ∧ yX0_requirePlace.cls ≠ "java/lang/invoke/VarHandle" ∧ (parseMethodDescriptor yX0_requirePlace.desc).map (fun d => d.parameters.length) = some 2 := by decide +kernel
theorem hdX0_requireRow : yX0_requireRow.cls ≠ "java/lang/invoke/MethodHandle" ∧ yX0_requireRow.cls ≠ "java/lang/invoke/VarHandle" ∧ (parseMethodDescriptor yX0_requireRow.desc).map (fun d => d.parameters.length) = some 1 := by decide +kernel
theorem hdX0_requireSize : yX0_requireSize.cls ≠ "java/lang/invoke/MethodHandle" ∧ yX0_requireSize.cls ≠ "java/lang/invoke/VarHandle" ∧ (parseMethodDescriptor yX0_requireSize.desc).map (fun d => d.parameters.length) = some 1 := by decide +kernel
theorem hdX0_setOf : yX0_setOf.cls ≠ "java/lang/invoke/MethodHandle" ∧ yX0_setOf.cls ≠ "java/lang/invoke/VarHandle" ∧ (parseMethodDescriptor yX0_setOf.desc).map (fun d => d.parameters.length) = some 3 := by decide +kernel
theorem hvX0_phraseBegin : yX0_phraseBegin.cls = RX0 ∧ yX0_phraseBegin.cls ≠ "java/lang/invoke/MethodHandle" ∧ yX0_phraseBegin.cls ≠ "java/lang/invoke/VarHandle" ∧ (parseMethodDescriptor yX0_phraseBegin.desc).map (fun d => d.parameters.length) = some 1 := by decide +kernel
theorem hvX0_phraseHas : yX0_phraseHas.cls = RX0 ∧ yX0_phraseHas.cls ≠ "java/lang/invoke/MethodHandle" ∧ yX0_phraseHas.cls ≠ "java/lang/invoke/VarHandle" ∧ (parseMethodDescriptor yX0_phraseHas.desc).map (fun d => d.parameters.length) = some 1 := by decide +kernel
theorem hvX0_replaceRow : yX0_replaceRow.cls = RX0 ∧ yX0_replaceRow.cls ≠ "java/lang/invoke/MethodHandle" ∧ yX0_replaceRow.cls ≠ "java/lang/invoke/VarHandle" ∧ (parseMethodDescriptor yX0_replaceRow.desc).map (fun d => d.parameters.length) = some 2 := by decide +kernel
theorem hvX0_rowAt : yX0_rowAt.cls = RX0 ∧ yX0_rowAt.cls ≠ "java/lang/invoke/MethodHandle" ∧ yX0_rowAt.cls ≠ "java/lang/invoke/VarHandle" ∧ (parseMethodDescriptor yX0_rowAt.desc).map (fun d => d.parameters.length) = some 1 := by decide +kernel
theorem hvX0_setRow : yX0_setRow.cls = RX0 ∧ yX0_setRow.cls ≠ "java/lang/invoke/MethodHandle" ∧ yX0_setRow.cls ≠ "java/lang/invoke/VarHandle" ∧ (parseMethodDescriptor yX0_setRow.desc).map (fun d => d.parameters.length) = some 2 := by decide +kernel
set_option maxHeartbeats 4000000 in
set_option maxRecDepth 100000 in
theorem mX0_rowAt (l : Launch) (dC : Nat → ClassId) (dI : Nat → Nat → Nat) (o0 : Nat) (a0 a1 q : Nat → Nat) (w : Nat) (hp0 : Pm a0) (hp1 : Pm a1) (hw : w ≤ 12) (hq : ∀ i, i < w → q i < 12) (hqd : ∀ i j, i < w → j < w → q i = q j → i = j) (r : Nat) (hr9 : r < 2) : rd l yX0_rowAt wsX0_rowAt { frames := 0, cells := 0, slots := 0, locals := 0 } [.ref o0, .int (iI ((r : Nat) : Int))] (bW (dC, dI) [(o0, .inr (0, [.long (pk a0), .long (pk a1), .long (pkn q w), .int (iI ((w : Nat) : Int))]))] []) (some (.long (pk (rw_ r a0 a1)))) := by
  refine Met.ofW (cc := cX0_rowAt) (maxL := 2) (ret := (some .long)) (by decide) rfl ?_
  intro P0 e s m args below meth c s₁ B hml hv
  obtain ⟨rfl, hP, hK⟩ := hv
  have hx := B.exec
  have hb := B.bytes
  have hr := B.returns
  have hts := atoms_spec (ws := wsX0_rowAt) B.pre
  have hown : s.vm.findClass RX0 = some m.cls := findClass_of_methodNamed B.named
  have hlocks := B.notSynchronized
  have hinX : ∀ w ∈ u_ws RX0 TX0 4, w ∈ wsX0_rowAt := by decide +kernel
  have hl := lv_entry ([.ref o0, .int (iI ((r : Nat) : Int))]) (n := 2) (Nat.le_of_ble_eq_true rfl)
  rw [lg_entry_eq]
  generalize (lg_sl ([.ref o0, .int (iI ((r : Nat) : Int))]) ++ List.replicate (2 - (lg_sl ([.ref o0, .int (iI ((r : Nat) : Int))])).length) Slot.unset).toArray = ls at hl ⊢
  have hl : lv_has ls 2 [(0, .ref o0), (1, .int (iI ((r : Nat) : Int)))] := hl
  refine lv_iload_n hx hb dX0_rowAt_0 rfl (lv_at hl 1 rfl) ?_
  refine ib_if_ne (tgt := 11) hx hb dX0_rowAt_1 (by decide) ⟨by omega, by omega⟩ (fun c_1 => ?_) (fun c_1 => ?_)
  · skip
    refine lv_aload_n hx hb dX0_rowAt_11 rfl (lv_at hl 0 rfl) ?_
    refine va_get (D := (dC, dI)) (ci := 0) (v := .long (pk a1)) (C := RX0) (T := TX0) (N := 4) hx hb hts hinX hown hK hP 0 rfl rfl 1 (by decide) (hts (.fieldLink RX0 17 "ToneRows" "row1" "J") (by decide +kernel)) (fun _ h9 => h9) rfl dX0_rowAt_12 ?_
    refine st_l (y := pk (rw_ r a0 a1)) (congrArg pk (if_neg (by omega)).symm) ?_
    exact W.lret hx hb hr (fun t ht _ => ⟨rfl, ht⟩) (fun _ h => nomatch h) dX0_rowAt_15
  · skip
    refine lv_aload_n hx hb dX0_rowAt_4 rfl (lv_at hl 0 rfl) ?_
    refine va_get (D := (dC, dI)) (ci := 0) (v := .long (pk a0)) (C := RX0) (T := TX0) (N := 4) hx hb hts hinX hown hK hP 0 rfl rfl 0 (by decide) (hts (.fieldLink RX0 13 "ToneRows" "row0" "J") (by decide +kernel)) (fun _ h9 => h9) rfl dX0_rowAt_5 ?_
    refine lv_goto (tgt := 15) hx hb dX0_rowAt_8 (by decide) ?_
    refine st_l (y := pk (rw_ r a0 a1)) (congrArg pk (if_pos (by omega)).symm) ?_
    exact W.lret hx hb hr (fun t ht _ => ⟨rfl, ht⟩) (fun _ h => nomatch h) dX0_rowAt_15

set_option maxHeartbeats 4000000 in
set_option maxRecDepth 100000 in
theorem mX0_setRow (l : Launch) (dC : Nat → ClassId) (dI : Nat → Nat → Nat) (o0 : Nat) (a0 a1 q : Nat → Nat) (w : Nat) (hp0 : Pm a0) (hp1 : Pm a1) (hw : w ≤ 12) (hq : ∀ i, i < w → q i < 12) (hqd : ∀ i j, i < w → j < w → q i = q j → i = j) (r : Nat) (hr9 : r < 2) (f : Nat → Nat) : wr l yX0_setRow wsX0_setRow { frames := 0, cells := 0, slots := 0, locals := 0 } [.ref o0, .int (iI ((r : Nat) : Int)), .long (pk f)] (dC, dI) [(o0, .inr (0, [.long (pk a0), .long (pk a1), .long (pkn q w), .int (iI ((w : Nat) : Int))]))] [] [(o0, .inr (0, [.long (pk (sr0 r f a0)), .long (pk (sr1 r f a1)), .long (pkn q w), .int (iI ((w : Nat) : Int))]))] (none) := by
  refine Met.ofW (cc := cX0_setRow) (maxL := 4) (ret := none) (by decide) rfl ?_
  intro P0 e s m args below meth c s₁ B hml hv
  obtain ⟨rfl, hP, hK, hD0⟩ := hv
  have hx := B.exec
  have hb := B.bytes
  have hr := B.returns
  have hts := atoms_spec (ws := wsX0_setRow) B.pre
  have hown : s.vm.findClass RX0 = some m.cls := findClass_of_methodNamed B.named
  have hlocks := B.notSynchronized
  have hinX : ∀ w ∈ u_ws RX0 TX0 4, w ∈ wsX0_setRow := by decide +kernel
  have hD : va_D (inW [(o0, .inr (0, [.long (pk a0), .long (pk a1), .long (pkn q w), .int (iI ((w : Nat) : Int))]))]) [(o0, .inr (0, [.long (pk a0), .long (pk a1), .long (pkn q w), .int (iI ((w : Nat) : Int))]))] := va_D_in hD0
  have hS : va_S (inW [(o0, .inr (0, [.long (pk a0), .long (pk a1), .long (pkn q w), .int (iI ((w : Nat) : Int))]))]) s.heap s.heap [] := va_S.rf
  have hl := lv_entry ([.ref o0, .int (iI ((r : Nat) : Int)), .long (pk f)]) (n := 4) (Nat.le_of_ble_eq_true rfl)
  rw [lg_entry_eq]
  generalize (lg_sl ([.ref o0, .int (iI ((r : Nat) : Int)), .long (pk f)]) ++ List.replicate (4 - (lg_sl ([.ref o0, .int (iI ((r : Nat) : Int)), .long (pk f)])).length) Slot.unset).toArray = ls at hl ⊢
  have hl : lv_has ls 4 [(0, .ref o0), (1, .int (iI ((r : Nat) : Int))), (2, .long (pk f))] := hl
  refine lv_iload_n hx hb dX0_setRow_0 rfl (lv_at hl 1 rfl) ?_
  refine ib_if_ne (tgt := 12) hx hb dX0_setRow_1 (by decide) ⟨by omega, by omega⟩ (fun c_1 => ?_) (fun c_1 => ?_)
  · skip
    refine lv_aload_n hx hb dX0_setRow_12 rfl (lv_at hl 0 rfl) ?_
    refine lv_lload_n hx hb dX0_setRow_13 rfl (lv_at hl 2 rfl) ?_
    refine va_put (D := (dC, dI)) (ci := 0) (v := .long (pk f)) (ty := .long) (C := RX0) (T := TX0) (N := 4) hx hb hts hinX tyX0 tyX0_ok nmX0 hown hK hP hD hS 0 rfl rfl 1 (by decide) (hts (.fieldLink RX0 17 "ToneRows" "row1" "J") (by decide +kernel)) (fun _ h9 => h9) rfl (by decide +kernel) rfl rfl (Nat.le_of_ble_eq_true rfl) dX0_setRow_14 (fun H locs hP hD hS => ?_)
    have hP : va_P (dC, dI) vwCl [(o0, .inr (0, [.long (pk a0), .long (pk f), .long (pkn q w), .int (iI ((w : Nat) : Int))]))] H := hP
    have hD : va_D (inW [(o0, .inr (0, [.long (pk a0), .long (pk a1), .long (pkn q w), .int (iI ((w : Nat) : Int))]))]) [(o0, .inr (0, [.long (pk a0), .long (pk f), .long (pkn q w), .int (iI ((w : Nat) : Int))]))] := hD
    have e0 : sr0 r f a0 = a0 := if_neg (by omega)
    have e1 : sr1 r f a1 = f := if_neg (by omega)
    have hP : va_P (dC, dI) vwCl [(o0, .inr (0, [.long (pk (sr0 r f a0)), .long (pk (sr1 r f a1)), .long (pkn q w), .int (iI ((w : Nat) : Int))]))] H := by rw [e0, e1]; exact hP
    exact W.vret hx hb hr (fun t ht _ => ⟨rfl, by rw [ht]; exact hP, hS.F ht⟩) hS.2.2 dX0_setRow_17
  · skip
    refine lv_aload_n hx hb dX0_setRow_4 rfl (lv_at hl 0 rfl) ?_
    refine lv_lload_n hx hb dX0_setRow_5 rfl (lv_at hl 2 rfl) ?_
    refine va_put (D := (dC, dI)) (ci := 0) (v := .long (pk f)) (ty := .long) (C := RX0) (T := TX0) (N := 4) hx hb hts hinX tyX0 tyX0_ok nmX0 hown hK hP hD hS 0 rfl rfl 0 (by decide) (hts (.fieldLink RX0 13 "ToneRows" "row0" "J") (by decide +kernel)) (fun _ h9 => h9) rfl (by decide +kernel) rfl rfl (Nat.le_of_ble_eq_true rfl) dX0_setRow_6 (fun H locs hP hD hS => ?_)
    have hP : va_P (dC, dI) vwCl [(o0, .inr (0, [.long (pk f), .long (pk a1), .long (pkn q w), .int (iI ((w : Nat) : Int))]))] H := hP
    have hD : va_D (inW [(o0, .inr (0, [.long (pk a0), .long (pk a1), .long (pkn q w), .int (iI ((w : Nat) : Int))]))]) [(o0, .inr (0, [.long (pk f), .long (pk a1), .long (pkn q w), .int (iI ((w : Nat) : Int))]))] := hD
    refine lv_goto (tgt := 17) hx hb dX0_setRow_9 (by decide) ?_
    have e0 : sr0 r f a0 = f := if_pos (by omega)
    have e1 : sr1 r f a1 = a1 := if_pos (by omega)
    have hP : va_P (dC, dI) vwCl [(o0, .inr (0, [.long (pk (sr0 r f a0)), .long (pk (sr1 r f a1)), .long (pkn q w), .int (iI ((w : Nat) : Int))]))] H := by rw [e0, e1]; exact hP
    exact W.vret hx hb hr (fun t ht _ => ⟨rfl, by rw [ht]; exact hP, hS.F ht⟩) hS.2.2 dX0_setRow_17

set_option maxHeartbeats 4000000 in
set_option maxRecDepth 100000 in
theorem mX0_replaceRow (l : Launch) (dC : Nat → ClassId) (dI : Nat → Nat → Nat) (o0 : Nat) (a0 a1 q : Nat → Nat) (w : Nat) (hp0 : Pm a0) (hp1 : Pm a1) (hw : w ≤ 12) (hq : ∀ i, i < w → q i < 12) (hqd : ∀ i j, i < w → j < w → q i = q j → i = j) (r : Nat) (hr9 : r < 2) (f : Nat → Nat) (hf : lt12 f) : wr l yX0_replaceRow wsX0_replaceRow { frames := 1, cells := 0, slots := 0, locals := 23 } [.ref o0, .int (iI ((r : Nat) : Int)), .long (pk f)] (dC, dI) [(o0, .inr (0, [.long (pk a0), .long (pk a1), .long (pkn q w), .int (iI ((w : Nat) : Int))]))] [] [(o0, .inr (0, [.long (pk (sr0 r f a0)), .long (pk (sr1 r f a1)), .long (pkn q w), .int (iI ((w : Nat) : Int))]))] (some (.int (iI ((f 0 : Nat) : Int)))) := by
  refine Met.ofW (cc := cX0_replaceRow) (maxL := 4) (ret := (some .int)) (by decide) rfl ?_
  intro P0 e s m args below meth c s₁ B hml hv
  obtain ⟨rfl, hP, hK, hD0⟩ := hv
  have hx := B.exec
  have hb := B.bytes
  have hr := B.returns
  have hts := atoms_spec (ws := wsX0_replaceRow) B.pre
  have hown : s.vm.findClass RX0 = some m.cls := findClass_of_methodNamed B.named
  have hlocks := B.notSynchronized
  have hD : va_D (inW [(o0, .inr (0, [.long (pk a0), .long (pk a1), .long (pkn q w), .int (iI ((w : Nat) : Int))]))]) [(o0, .inr (0, [.long (pk a0), .long (pk a1), .long (pkn q w), .int (iI ((w : Nat) : Int))]))] := va_D_in hD0
  have hS : va_S (inW [(o0, .inr (0, [.long (pk a0), .long (pk a1), .long (pkn q w), .int (iI ((w : Nat) : Int))]))]) s.heap s.heap [] := va_S.rf
  have hl := lv_entry ([.ref o0, .int (iI ((r : Nat) : Int)), .long (pk f)]) (n := 4) (Nat.le_of_ble_eq_true rfl)
  rw [lg_entry_eq]
  generalize (lg_sl ([.ref o0, .int (iI ((r : Nat) : Int)), .long (pk f)]) ++ List.replicate (4 - (lg_sl ([.ref o0, .int (iI ((r : Nat) : Int)), .long (pk f)])).length) Slot.unset).toArray = ls at hl ⊢
  have hl : lv_has ls 4 [(0, .ref o0), (1, .int (iI ((r : Nat) : Int))), (2, .long (pk f))] := hl
  refine lv_aload_n hx hb dX0_replaceRow_0 rfl (lv_at hl 0 rfl) ?_
  refine lv_iload_n hx hb dX0_replaceRow_1 rfl (lv_at hl 1 rfl) ?_
  refine lv_lload_n hx hb dX0_replaceRow_2 rfl (lv_at hl 2 rfl) ?_
  refine wr_call (va_runV (As := [.int (iI ((r : Nat) : Int)), .long (pk f)]) (rest := []) ⟨hx, hb, hml, hown, hts⟩ (mX0_setRow l dC dI o0 a0 a1 q w hp0 hp1 hw hq hqd r (by omega) f) (cwV 2 hts gX0_replaceRow_X0_setRow rfl rfl rfl hvX0_setRow ⟨Nat.le_of_ble_eq_true rfl, Nat.le_of_ble_eq_true rfl⟩) (bD_pre (ci := 0) (q0 := 0) hK hP hD rfl rfl rfl) rfl rfl hl.1 rfl (lv_room (Nat.le_of_ble_eq_true rfl)) dX0_replaceRow_3 ⟨Nat.le_of_ble_eq_true rfl, Nat.le_of_ble_eq_true rfl⟩) hS (fun q9 h => inW_same (w := [(o0, .inr (0, [.long (pk a0), .long (pk a1), .long (pkn q w), .int (iI ((w : Nat) : Int))]))]) (w' := [(o0, .inr (0, [.long (pk a0), .long (pk a1), .long (pkn q w), .int (iI ((w : Nat) : Int))]))]) (Eq.trans (b := [o0]) rfl rfl) h) (fun H locs hP hz hk hS => ?_)
  have hD : va_D (inW [(o0, .inr (0, [.long (pk a0), .long (pk a1), .long (pkn q w), .int (iI ((w : Nat) : Int))]))]) [(o0, .inr (0, [.long (pk (sr0 r f a0)), .long (pk (sr1 r f a1)), .long (pkn q w), .int (iI ((w : Nat) : Int))]))] := va_D_same (w := [(o0, .inr (0, [.long (pk a0), .long (pk a1), .long (pkn q w), .int (iI ((w : Nat) : Int))]))]) (Eq.trans (b := [o0]) rfl rfl) hD
  refine lv_lload_n hx hb dX0_replaceRow_6 rfl (lv_at hl 2 rfl) ?_
  refine ib_const hx hb dX0_replaceRow_7 ?_
  refine rd_call (va_runS (As := [.long (pk f), .int (iI 0)]) (rest := []) ⟨hx, hb, hml, hown, hts⟩ (mX0_entryAt l (pk f) 0 (by omega)) (va_cwS 2 hts gX0_replaceRow_X0_entryAt rfl rfl rfl hdX0_entryAt ⟨Nat.le_of_ble_eq_true rfl, Nat.le_of_ble_eq_true rfl⟩) tt_pre rfl rfl hl.1 rfl (lv_room (Nat.le_of_ble_eq_true rfl)) dX0_replaceRow_8 ⟨Nat.le_of_ble_eq_true rfl, Nat.le_of_ble_eq_true rfl⟩) ?_
  have he_8 := ent_lt (pk f) 0
  refine st_i (y := iI ((f 0 : Nat) : Int)) (congrArg (fun z : Nat => iI ((z : Nat) : Int)) (ent_pk hf (by decide))) ?_
  exact W.iret hx hb hr (fun t ht _ => ⟨rfl, by rw [ht]; exact hP, hS.F ht⟩) hS.2.2 dX0_replaceRow_11

set_option maxHeartbeats 4000000 in
set_option maxRecDepth 100000 in
theorem mX0_phraseHas (l : Launch) (dC : Nat → ClassId) (dI : Nat → Nat → Nat) (o0 : Nat) (a0 a1 q : Nat → Nat) (w : Nat) (hp0 : Pm a0) (hp1 : Pm a1) (hw : w ≤ 12) (hq : ∀ i, i < w → q i < 12) (hqd : ∀ i j, i < w → j < w → q i = q j → i = j) (t : Nat) (ht : t < 12) : rd l yX0_phraseHas wsX0_phraseHas { frames := 2, cells := 0, slots := 0, locals := 47 } [.ref o0, .int (iI ((t : Nat) : Int))] (bW (dC, dI) [(o0, .inr (0, [.long (pk a0), .long (pk a1), .long (pkn q w), .int (iI ((w : Nat) : Int))]))] []) (some (.int (iI (bI (orN (wtB q t) w = true))))) := by
  refine Met.ofW (cc := cX0_phraseHas) (maxL := 2) (ret := (some .boolean)) (by decide) rfl ?_
  intro P0 e s m args below meth c s₁ B hml hv
  obtain ⟨rfl, hP, hK⟩ := hv
  have hx := B.exec
  have hb := B.bytes
  have hr := B.returns
  have hts := atoms_spec (ws := wsX0_phraseHas) B.pre
  have hown : s.vm.findClass RX0 = some m.cls := findClass_of_methodNamed B.named
  have hlocks := B.notSynchronized
  have hinX : ∀ w ∈ u_ws RX0 TX0 4, w ∈ wsX0_phraseHas := by decide +kernel
  have hl := lv_entry ([.ref o0, .int (iI ((t : Nat) : Int))]) (n := 2) (Nat.le_of_ble_eq_true rfl)
  rw [lg_entry_eq]
  generalize (lg_sl ([.ref o0, .int (iI ((t : Nat) : Int))]) ++ List.replicate (2 - (lg_sl ([.ref o0, .int (iI ((t : Nat) : Int))])).length) Slot.unset).toArray = ls at hl ⊢
  have hl : lv_has ls 2 [(0, .ref o0), (1, .int (iI ((t : Nat) : Int)))] := hl
  refine lv_aload_n hx hb dX0_phraseHas_0 rfl (lv_at hl 0 rfl) ?_
  refine va_get (D := (dC, dI)) (ci := 0) (v := .long (pkn q w)) (C := RX0) (T := TX0) (N := 4) hx hb hts hinX hown hK hP 0 rfl rfl 2 (by decide) (hts (.fieldLink RX0 114 "ToneRows" "phrase" "J") (by decide +kernel)) (fun _ h9 => h9) rfl dX0_phraseHas_1 ?_
  refine ib_const hx hb dX0_phraseHas_4 ?_
  refine lv_aload_n hx hb dX0_phraseHas_5 rfl (lv_at hl 0 rfl) ?_
  refine va_get (D := (dC, dI)) (ci := 0) (v := .int (iI ((w : Nat) : Int))) (C := RX0) (T := TX0) (N := 4) hx hb hts hinX hown hK hP 0 rfl rfl 3 (by decide) (hts (.fieldLink RX0 117 "ToneRows" "phraseLength" "I") (by decide +kernel)) (fun _ h9 => h9) rfl dX0_phraseHas_6 ?_
  refine rd_call (va_runS (As := [.long (pkn q w), .int (iI 0), .int (iI ((w : Nat) : Int))]) (rest := []) ⟨hx, hb, hml, hown, hts⟩ (mX0_setOf l (pkn q w) 0 w (by omega)) (va_cwS 3 hts gX0_phraseHas_X0_setOf rfl rfl rfl hdX0_setOf ⟨Nat.le_of_ble_eq_true rfl, Nat.le_of_ble_eq_true rfl⟩) tt_pre rfl rfl hl.1 rfl (lv_room (Nat.le_of_ble_eq_true rfl)) dX0_phraseHas_9 ⟨Nat.le_of_ble_eq_true rfl, Nat.le_of_ble_eq_true rfl⟩) ?_
  have hs_9 := setN_lt (pkn q w) 0 w
  refine lv_iload_n hx hb dX0_phraseHas_12 rfl (lv_at hl 1 rfl) ?_
  refine lv_ishr hx hb dX0_phraseHas_13 ?_
  refine st_i (y := iI ((setN (pkn q w) 0 w / 2 ^ t : Nat) : Int)) (ir_shr (by omega) (by omega)) ?_
  refine ib_const hx hb dX0_phraseHas_14 ?_
  refine lv_iand hx hb dX0_phraseHas_15 ?_
  refine st_i (y := iI ((setN (pkn q w) 0 w / 2 ^ t &&& 1 : Nat) : Int)) (ir_and _ 1) ?_
  have han := Nat.and_le_right (n := setN (pkn q w) 0 w / 2 ^ t) (m := 1)
  refine ib_if_eq (tgt := 23) hx hb dX0_phraseHas_16 (by decide) ⟨by omega, by omega⟩ (fun c_16 => ?_) (fun c_16 => ?_)
  · skip
    refine ib_const hx hb dX0_phraseHas_23 ?_
    refine st_i (y := iI (bI (orN (wtB q t) w = true))) (congrArg iI (bI_f (fun q9 => by have q8 := (phs_iff hw hq ht).mpr q9; omega)).symm) ?_
    exact W.zret hx hb hr (bI_nar _) (fun t ht _ => ⟨rfl, ht⟩) (fun _ h => nomatch h) dX0_phraseHas_24
  · skip
    refine ib_const hx hb dX0_phraseHas_19 ?_
    refine lv_goto (tgt := 24) hx hb dX0_phraseHas_20 (by decide) ?_
    refine st_i (y := iI (bI (orN (wtB q t) w = true))) (congrArg iI (bI_t ((phs_iff hw hq ht).mp (by omega))).symm) ?_
    exact W.zret hx hb hr (bI_nar _) (fun t ht _ => ⟨rfl, ht⟩) (fun _ h => nomatch h) dX0_phraseHas_24

set_option maxHeartbeats 4000000 in
set_option maxRecDepth 100000 in
theorem mX0_phraseBegin (l : Launch) (dC : Nat → ClassId) (dI : Nat → Nat → Nat) (o0 : Nat) (a0 a1 q : Nat → Nat) (w : Nat) (hp0 : Pm a0) (hp1 : Pm a1) (hw : w ≤ 12) (hq : ∀ i, i < w → q i < 12) (hqd : ∀ i j, i < w → j < w → q i = q j → i = j) (f : Nat → Nat) (hf : Pm f) (hw0 : 0 < w) : rd l yX0_phraseBegin wsX0_phraseBegin { frames := 2, cells := 0, slots := 0, locals := 45 } [.ref o0, .long (pk f)] (bW (dC, dI) [(o0, .inr (0, [.long (pk a0), .long (pk a1), .long (pkn q w), .int (iI ((w : Nat) : Int))]))] []) (some (.int (iI (phF f q w)))) := by
  refine Met.ofW (cc := cX0_phraseBegin) (maxL := 5) (ret := (some .int)) (by decide) rfl ?_
  intro P0 e s m args below meth c s₁ B hml hv
  obtain ⟨rfl, hP, hK⟩ := hv
  have hx := B.exec
  have hb := B.bytes
  have hr := B.returns
  have hts := atoms_spec (ws := wsX0_phraseBegin) B.pre
  have hown : s.vm.findClass RX0 = some m.cls := findClass_of_methodNamed B.named
  have hlocks := B.notSynchronized
  have hinX : ∀ w ∈ u_ws RX0 TX0 4, w ∈ wsX0_phraseBegin := by decide +kernel
  have hl := lv_entry ([.ref o0, .long (pk f)]) (n := 5) (Nat.le_of_ble_eq_true rfl)
  rw [lg_entry_eq]
  generalize (lg_sl ([.ref o0, .long (pk f)]) ++ List.replicate (5 - (lg_sl ([.ref o0, .long (pk f)])).length) Slot.unset).toArray = ls at hl ⊢
  have hl : lv_has ls 5 [(0, .ref o0), (1, .long (pk f))] := hl
  have hf1 := hf.1
  have hq0 := hq 0 hw0
  have hpn := pn_lt (pk f) (q 0)
  refine lv_lload_n hx hb dX0_phraseBegin_0 rfl (lv_at hl 1 rfl) ?_
  refine lv_aload_n hx hb dX0_phraseBegin_1 rfl (lv_at hl 0 rfl) ?_
  refine va_get (D := (dC, dI)) (ci := 0) (v := .long (pkn q w)) (C := RX0) (T := TX0) (N := 4) hx hb hts hinX hown hK hP 0 rfl rfl 2 (by decide) (hts (.fieldLink RX0 114 "ToneRows" "phrase" "J") (by decide +kernel)) (fun _ h9 => h9) rfl dX0_phraseBegin_2 ?_
  refine ib_const hx hb dX0_phraseBegin_5 ?_
  refine rd_call (va_runS (As := [.long (pkn q w), .int (iI 0)]) (rest := [.long (pk f)]) ⟨hx, hb, hml, hown, hts⟩ (mX0_entryAt l (pkn q w) 0 (by omega)) (va_cwS 2 hts gX0_phraseBegin_X0_entryAt rfl rfl rfl hdX0_entryAt ⟨Nat.le_of_ble_eq_true rfl, Nat.le_of_ble_eq_true rfl⟩) tt_pre rfl rfl hl.1 rfl (lv_room (Nat.le_of_ble_eq_true rfl)) dX0_phraseBegin_6 ⟨Nat.le_of_ble_eq_true rfl, Nat.le_of_ble_eq_true rfl⟩) ?_
  have he_6 := ent_lt (pkn q w) 0
  refine st_i (y := iI ((q 0 : Nat) : Int)) (congrArg (fun z : Nat => iI ((z : Nat) : Int)) (ent_pkn (fun i hi => by have := hq i hi; omega) hw hw0)) ?_
  refine rd_call (va_runS (As := [.long (pk f), .int (iI ((q 0 : Nat) : Int))]) (rest := []) ⟨hx, hb, hml, hown, hts⟩ (mX0_placeIn l (pk f) (q 0) (by omega)) (va_cwS 2 hts gX0_phraseBegin_X0_placeIn rfl rfl rfl hdX0_placeIn ⟨Nat.le_of_ble_eq_true rfl, Nat.le_of_ble_eq_true rfl⟩) tt_pre rfl rfl hl.1 rfl (lv_room (Nat.le_of_ble_eq_true rfl)) dX0_phraseBegin_9 ⟨Nat.le_of_ble_eq_true rfl, Nat.le_of_ble_eq_true rfl⟩) ?_
  have hi_9 := pin_in (pk f) (q 0)
  refine st_i (y := iI ((pn (pk f) (q 0) : Nat) : Int)) (congrArg iI (pn_eq (pin_pk hf hq0))) ?_
  refine lv_istore_n (lv' := [(3, .int (iI ((pn (pk f) (q 0) : Nat) : Int))), (0, .ref o0), (1, .long (pk f))]) hx hb dX0_phraseBegin_12 rfl hl (by decide) rfl (fun ls hl => ?_)
  refine lv_iload_n hx hb dX0_phraseBegin_13 rfl (lv_at hl 0 rfl) ?_
  refine lv_aload_n hx hb dX0_phraseBegin_14 rfl (lv_at hl 1 rfl) ?_
  refine va_get (D := (dC, dI)) (ci := 0) (v := .int (iI ((w : Nat) : Int))) (C := RX0) (T := TX0) (N := 4) hx hb hts hinX hown hK hP 0 rfl rfl 3 (by decide) (hts (.fieldLink RX0 117 "ToneRows" "phraseLength" "I") (by decide +kernel)) (fun _ h9 => h9) rfl dX0_phraseBegin_15 ?_
  refine ib_add (z := (((pn (pk f) (q 0)) + w : Nat) : Int)) hx hb dX0_phraseBegin_18 (by omega) ?_
  refine ib_bi hx hb dX0_phraseBegin_19 (by decide) ?_
  refine ib_icmp_le (tgt := 26) hx hb dX0_phraseBegin_21 (by decide) ⟨by omega, by omega⟩ ⟨by omega, by omega⟩ (fun c_21 => ?_) (fun c_21 => ?_)
  · skip
    refine ib_const hx hb dX0_phraseBegin_26 ?_
    refine lv_istore (lv' := [(4, .int (iI 1)), (3, .int (iI ((pn (pk f) (q 0) : Nat) : Int))), (0, .ref o0), (1, .long (pk f))]) hx hb dX0_phraseBegin_27 hl (by decide) rfl (fun ls hl => ?_)
    have lp_29_1 : ∀ (j n : Nat), n + j = w → 1 ≤ n → (∀ i, i < n → f (pn (pk f) (q 0) + i) = q i) → ∀ ls : Array Slot, lv_has ls 5 [(0, .ref o0), (1, .long (pk f)), (3, .int (iI ((pn (pk f) (q 0) : Nat) : Int))), (4, .int (iI ((n : Nat) : Int)))] → W P0 l e (headSpec wsX0_phraseBegin { frames := 2, cells := 0, slots := 0, locals := 45 }).room s m ([.ref o0, .long (pk f)] : List Value).toArray below meth c s.heap [] 0 0 (MQ below (rdQ (some (.int (iI (phF f q w))))) ([.ref o0, .long (pk f)] : List Value).toArray s 0 0 (fun _ => False)) (F0 m 29 ls []) := by
      intro j
      induction j with
      | zero =>
        intro n hn_29 hn1 hmt ls hl
        refine lv_iload hx hb dX0_phraseBegin_29 (lv_at hl 3 rfl) ?_
        refine lv_aload_n hx hb dX0_phraseBegin_31 rfl (lv_at hl 0 rfl) ?_
        refine va_get (D := (dC, dI)) (ci := 0) (v := .int (iI ((w : Nat) : Int))) (C := RX0) (T := TX0) (N := 4) hx hb hts hinX hown hK hP 0 rfl rfl 3 (by decide) (hts (.fieldLink RX0 117 "ToneRows" "phraseLength" "I") (by decide +kernel)) (fun _ h9 => h9) rfl dX0_phraseBegin_32 ?_
        refine ib_icmp_ge (tgt := 66) hx hb dX0_phraseBegin_35 (by decide) ⟨by omega, by omega⟩ ⟨by omega, by omega⟩ (fun c_35 => ?_) (fun c_35 => absurd c_35 (by omega))
        refine lv_iload_n hx hb dX0_phraseBegin_66 rfl (lv_at hl 2 rfl) ?_
        refine st_i (y := iI (phF f q w)) (congrArg iI (ph_yes hf hq hw0 (show n = w by omega) (by omega) hmt).symm) ?_
        exact W.iret hx hb hr (fun t ht _ => ⟨rfl, ht⟩) (fun _ h => nomatch h) dX0_phraseBegin_67
      | succ j ih_29_1 =>
        intro n hn_29 hn1 hmt ls hl
        refine lv_iload hx hb dX0_phraseBegin_29 (lv_at hl 3 rfl) ?_
        refine lv_aload_n hx hb dX0_phraseBegin_31 rfl (lv_at hl 0 rfl) ?_
        refine va_get (D := (dC, dI)) (ci := 0) (v := .int (iI ((w : Nat) : Int))) (C := RX0) (T := TX0) (N := 4) hx hb hts hinX hown hK hP 0 rfl rfl 3 (by decide) (hts (.fieldLink RX0 117 "ToneRows" "phraseLength" "I") (by decide +kernel)) (fun _ h9 => h9) rfl dX0_phraseBegin_32 ?_
        refine ib_icmp_ge (tgt := 66) hx hb dX0_phraseBegin_35 (by decide) ⟨by omega, by omega⟩ ⟨by omega, by omega⟩ (fun c_35 => absurd c_35 (by omega)) (fun c_35 => ?_)
        refine lv_lload_n hx hb dX0_phraseBegin_38 rfl (lv_at hl 1 rfl) ?_
        refine lv_iload_n hx hb dX0_phraseBegin_39 rfl (lv_at hl 2 rfl) ?_
        refine lv_iload hx hb dX0_phraseBegin_40 (lv_at hl 3 rfl) ?_
        refine ib_add (z := (((pn (pk f) (q 0)) + n : Nat) : Int)) hx hb dX0_phraseBegin_42 (by omega) ?_
        refine rd_call (va_runS (As := [.long (pk f), .int (iI (((pn (pk f) (q 0)) + n : Nat) : Int))]) (rest := []) ⟨hx, hb, hml, hown, hts⟩ (mX0_entryAt l (pk f) ((pn (pk f) (q 0)) + n) (by omega)) (va_cwS 2 hts gX0_phraseBegin_X0_entryAt rfl rfl rfl hdX0_entryAt ⟨Nat.le_of_ble_eq_true rfl, Nat.le_of_ble_eq_true rfl⟩) tt_pre rfl rfl hl.1 rfl (lv_room (Nat.le_of_ble_eq_true rfl)) dX0_phraseBegin_43 ⟨Nat.le_of_ble_eq_true rfl, Nat.le_of_ble_eq_true rfl⟩) ?_
        have he_43 := ent_lt (pk f) ((pn (pk f) (q 0)) + n)
        refine st_i (y := iI ((f (pn (pk f) (q 0) + n) : Nat) : Int)) (congrArg (fun z : Nat => iI ((z : Nat) : Int)) (ent_pk hf1 (by omega))) ?_
        refine lv_aload_n hx hb dX0_phraseBegin_46 rfl (lv_at hl 0 rfl) ?_
        refine va_get (D := (dC, dI)) (ci := 0) (v := .long (pkn q w)) (C := RX0) (T := TX0) (N := 4) hx hb hts hinX hown hK hP 0 rfl rfl 2 (by decide) (hts (.fieldLink RX0 114 "ToneRows" "phrase" "J") (by decide +kernel)) (fun _ h9 => h9) rfl dX0_phraseBegin_47 ?_
        refine lv_iload hx hb dX0_phraseBegin_50 (lv_at hl 3 rfl) ?_
        refine rd_call (va_runS (As := [.long (pkn q w), .int (iI ((n : Nat) : Int))]) (rest := [.int (iI ((f (pn (pk f) (q 0) + n) : Nat) : Int))]) ⟨hx, hb, hml, hown, hts⟩ (mX0_entryAt l (pkn q w) n (by omega)) (va_cwS 2 hts gX0_phraseBegin_X0_entryAt rfl rfl rfl hdX0_entryAt ⟨Nat.le_of_ble_eq_true rfl, Nat.le_of_ble_eq_true rfl⟩) tt_pre rfl rfl hl.1 rfl (lv_room (Nat.le_of_ble_eq_true rfl)) dX0_phraseBegin_52 ⟨Nat.le_of_ble_eq_true rfl, Nat.le_of_ble_eq_true rfl⟩) ?_
        have he_52 := ent_lt (pkn q w) n
        refine st_i (y := iI ((q n : Nat) : Int)) (congrArg (fun z : Nat => iI ((z : Nat) : Int)) (ent_pkn (fun i hi => by have := hq i hi; omega) hw (by omega))) ?_
        have hqn := hq n (by omega)
        have hfn := hf1 (pn (pk f) (q 0) + n) (by omega)
        refine ib_icmp_eq (tgt := 60) hx hb dX0_phraseBegin_55 (by decide) ⟨by omega, by omega⟩ ⟨by omega, by omega⟩ (fun c_55 => ?_) (fun c_55 => ?_)
        · skip
          refine lv_iinc (v := iI ((n + 1 : Nat) : Int)) (lv' := [(4, .int (iI ((n + 1 : Nat) : Int))), (0, .ref o0), (1, .long (pk f)), (3, .int (iI ((pn (pk f) (q 0) : Nat) : Int)))]) hx hb dX0_phraseBegin_60 hl (k := 3) rfl (iI_inc (by omega)) (by decide) rfl (fun ls hl => ?_)
          refine lv_goto (tgt := 29) hx hb dX0_phraseBegin_63 (by decide) ?_
          exact ih_29_1 (n + 1) (by omega) (by omega) (fun i hi => by rcases (show i < n ∨ i = n by omega) with h9 | h9; exact hmt i h9; rw [h9]; omega) _ (lv_sub hl [1, 2, 3, 0] rfl)
        · skip
          refine ib_const hx hb dX0_phraseBegin_58 ?_
          refine st_i (y := iI (phF f q w)) (congrArg iI (ph_no (n := n) hf hq hw0 (by omega) (fun q9 => by omega)).symm) ?_
          exact W.iret hx hb hr (fun t ht _ => ⟨rfl, ht⟩) (fun _ h => nomatch h) dX0_phraseBegin_59
    exact lp_29_1 (w - 1) 1 (by omega) (Nat.le_refl 1) (fun i hi => by rw [show i = 0 by omega]; exact pn_pk hf hq0) _ (lv_sub hl [2, 3, 1, 0] rfl)
  · skip
    refine ib_const hx hb dX0_phraseBegin_24 ?_
    refine st_i (y := iI (phF f q w)) (congrArg iI (ph_far hf hq hw0 (by omega)).symm) ?_
    exact W.iret hx hb hr (fun t ht _ => ⟨rfl, ht⟩) (fun _ h => nomatch h) dX0_phraseBegin_25

set_option maxHeartbeats 4000000 in
set_option maxRecDepth 100000 in
theorem mX0_put_ok (l : Launch) (dC : Nat → ClassId) (dI : Nat → Nat → Nat) (o0 : Nat) (a0 a1 q : Nat → Nat) (w : Nat) (hp0 : Pm a0) (hp1 : Pm a1) (hw : w ≤ 12) (hq : ∀ i, i < w → q i < 12) (hqd : ∀ i j, i < w → j < w → q i = q j → i = j) (r i t : Nat) (hr9 : r < 2) (hi : i < 12) (ht : t < 12) : wr l yX0_put wsX0_put { frames := 2, cells := 0, slots := 0, locals := 45 } [.ref o0, .int (iI ((r : Nat) : Int)), .int (iI ((i : Nat) : Int)), .int (iI ((t : Nat) : Int))] (dC, dI) [(o0, .inr (0, [.long (pk a0), .long (pk a1), .long (pkn q w), .int (iI ((w : Nat) : Int))]))] [] [(o0, .inr (0, [.long (pk (sr0 r (putF (rw_ r a0 a1) i t) a0)), .long (pk (sr1 r (putF (rw_ r a0 a1) i t) a1)), .long (pkn q w), .int (iI ((w : Nat) : Int))]))] (some (.int (iI ((rw_ r a0 a1 i : Nat) : Int)))) := by
  refine Met.ofW (cc := cX0_put) (maxL := 9) (ret := (some .int)) (by decide) rfl ?_
  intro P0 e s m args below meth c s₁ B hml hv
  obtain ⟨rfl, hP, hK, hD0⟩ := hv
  have hx := B.exec
  have hb := B.bytes
  have hr := B.returns
  have hts := atoms_spec (ws := wsX0_put) B.pre
  have hown : s.vm.findClass RX0 = some m.cls := findClass_of_methodNamed B.named
  have hlocks := B.notSynchronized
  have hD : va_D (inW [(o0, .inr (0, [.long (pk a0), .long (pk a1), .long (pkn q w), .int (iI ((w : Nat) : Int))]))]) [(o0, .inr (0, [.long (pk a0), .long (pk a1), .long (pkn q w), .int (iI ((w : Nat) : Int))]))] := va_D_in hD0
  have hS : va_S (inW [(o0, .inr (0, [.long (pk a0), .long (pk a1), .long (pkn q w), .int (iI ((w : Nat) : Int))]))]) s.heap s.heap [] := va_S.rf
  have hl := lv_entry ([.ref o0, .int (iI ((r : Nat) : Int)), .int (iI ((i : Nat) : Int)), .int (iI ((t : Nat) : Int))]) (n := 9) (Nat.le_of_ble_eq_true rfl)
  rw [lg_entry_eq]
  generalize (lg_sl ([.ref o0, .int (iI ((r : Nat) : Int)), .int (iI ((i : Nat) : Int)), .int (iI ((t : Nat) : Int))]) ++ List.replicate (9 - (lg_sl ([.ref o0, .int (iI ((r : Nat) : Int)), .int (iI ((i : Nat) : Int)), .int (iI ((t : Nat) : Int))])).length) Slot.unset).toArray = ls at hl ⊢
  have hl : lv_has ls 9 [(0, .ref o0), (1, .int (iI ((r : Nat) : Int))), (2, .int (iI ((i : Nat) : Int))), (3, .int (iI ((t : Nat) : Int)))] := hl
  have hR := rw_Pm hp0 hp1 r
  have hR1 := hR.1
  have hpn := pn_lt (pk (rw_ r a0 a1)) t
  have hRi := hR1 i hi
  refine lv_iload_n hx hb dX0_put_0 rfl (lv_at hl 1 rfl) ?_
  refine rd_call (va_runS (As := [.int (iI ((r : Nat) : Int))]) (rest := []) ⟨hx, hb, hml, hown, hts⟩ (mX0_requireRow l ((r : Nat) : Int) ⟨by omega, by omega⟩ (by omega)) (va_cwS 1 hts gX0_put_X0_requireRow rfl rfl rfl hdX0_requireRow ⟨Nat.le_of_ble_eq_true rfl, Nat.le_of_ble_eq_true rfl⟩) tt_pre rfl rfl hl.1 rfl (lv_room (Nat.le_of_ble_eq_true rfl)) dX0_put_1 ⟨Nat.le_of_ble_eq_true rfl, Nat.le_of_ble_eq_true rfl⟩) ?_
  refine lv_iload_n hx hb dX0_put_4 rfl (lv_at hl 2 rfl) ?_
  refine ib_bi hx hb dX0_put_5 (by decide) ?_
  refine rd_call (va_runS (As := [.int (iI ((i : Nat) : Int)), .int (iI 11)]) (rest := []) ⟨hx, hb, hml, hown, hts⟩ (mX0_requirePlace l ((i : Nat) : Int) 11 ⟨by omega, by omega⟩ ⟨by omega, by omega⟩ (by omega)) (va_cwS 2 hts gX0_put_X0_requirePlace rfl rfl rfl hdX0_requirePlace ⟨Nat.le_of_ble_eq_true rfl, Nat.le_of_ble_eq_true rfl⟩) tt_pre rfl rfl hl.1 rfl (lv_room (Nat.le_of_ble_eq_true rfl)) dX0_put_7 ⟨Nat.le_of_ble_eq_true rfl, Nat.le_of_ble_eq_true rfl⟩) ?_
  refine lv_iload_n hx hb dX0_put_10 rfl (lv_at hl 3 rfl) ?_
  refine ib_const hx hb dX0_put_11 ?_
  refine ib_bi hx hb dX0_put_12 (by decide) ?_
  refine rd_call (va_runS (As := [.int (iI ((t : Nat) : Int)), .int (iI 0), .int (iI 11)]) (rest := []) ⟨hx, hb, hml, hown, hts⟩ (mX0_requireRange l ((t : Nat) : Int) 0 11 ⟨by omega, by omega⟩ ⟨by omega, by omega⟩ ⟨by omega, by omega⟩ (by omega)) (va_cwS 3 hts gX0_put_X0_requireRange rfl rfl rfl hdX0_requireRange ⟨Nat.le_of_ble_eq_true rfl, Nat.le_of_ble_eq_true rfl⟩) tt_pre rfl rfl hl.1 rfl (lv_room (Nat.le_of_ble_eq_true rfl)) dX0_put_14 ⟨Nat.le_of_ble_eq_true rfl, Nat.le_of_ble_eq_true rfl⟩) ?_
  refine lv_aload_n hx hb dX0_put_17 rfl (lv_at hl 0 rfl) ?_
  refine lv_iload_n hx hb dX0_put_18 rfl (lv_at hl 1 rfl) ?_
  refine rd_call (va_runV (As := [.int (iI ((r : Nat) : Int))]) (rest := []) ⟨hx, hb, hml, hown, hts⟩ (mX0_rowAt l dC dI o0 a0 a1 q w hp0 hp1 hw hq hqd r (by omega)) (cwV 1 hts gX0_put_X0_rowAt rfl rfl rfl hvX0_rowAt ⟨Nat.le_of_ble_eq_true rfl, Nat.le_of_ble_eq_true rfl⟩) (bW_pre (ci := 0) (q0 := 0) hK hP rfl rfl rfl) rfl rfl hl.1 rfl (lv_room (Nat.le_of_ble_eq_true rfl)) dX0_put_19 ⟨Nat.le_of_ble_eq_true rfl, Nat.le_of_ble_eq_true rfl⟩) ?_
  refine lv_lstore (lv' := [(4, .long (pk (rw_ r a0 a1))), (0, .ref o0), (1, .int (iI ((r : Nat) : Int))), (2, .int (iI ((i : Nat) : Int))), (3, .int (iI ((t : Nat) : Int)))]) hx hb dX0_put_22 hl (by decide) rfl (fun ls hl => ?_)
  refine lv_lload hx hb dX0_put_24 (lv_at hl 0 rfl) ?_
  refine lv_iload_n hx hb dX0_put_26 rfl (lv_at hl 3 rfl) ?_
  refine rd_call (va_runS (As := [.long (pk (rw_ r a0 a1)), .int (iI ((i : Nat) : Int))]) (rest := []) ⟨hx, hb, hml, hown, hts⟩ (mX0_entryAt l (pk (rw_ r a0 a1)) i (by omega)) (va_cwS 2 hts gX0_put_X0_entryAt rfl rfl rfl hdX0_entryAt ⟨Nat.le_of_ble_eq_true rfl, Nat.le_of_ble_eq_true rfl⟩) tt_pre rfl rfl hl.1 rfl (lv_room (Nat.le_of_ble_eq_true rfl)) dX0_put_27 ⟨Nat.le_of_ble_eq_true rfl, Nat.le_of_ble_eq_true rfl⟩) ?_
  have he_27 := ent_lt (pk (rw_ r a0 a1)) i
  refine st_i (y := iI ((rw_ r a0 a1 i : Nat) : Int)) (congrArg (fun z : Nat => iI ((z : Nat) : Int)) (ent_pk hR1 hi)) ?_
  refine lv_istore (lv' := [(6, .int (iI ((rw_ r a0 a1 i : Nat) : Int))), (4, .long (pk (rw_ r a0 a1))), (0, .ref o0), (1, .int (iI ((r : Nat) : Int))), (2, .int (iI ((i : Nat) : Int))), (3, .int (iI ((t : Nat) : Int)))]) hx hb dX0_put_30 hl (by decide) rfl (fun ls hl => ?_)
  refine lv_lload hx hb dX0_put_32 (lv_at hl 1 rfl) ?_
  refine lv_lload hx hb dX0_put_34 (lv_at hl 1 rfl) ?_
  refine lv_iload_n hx hb dX0_put_36 rfl (lv_at hl 5 rfl) ?_
  refine rd_call (va_runS (As := [.long (pk (rw_ r a0 a1)), .int (iI ((t : Nat) : Int))]) (rest := [.long (pk (rw_ r a0 a1))]) ⟨hx, hb, hml, hown, hts⟩ (mX0_placeIn l (pk (rw_ r a0 a1)) t (by omega)) (va_cwS 2 hts gX0_put_X0_placeIn rfl rfl rfl hdX0_placeIn ⟨Nat.le_of_ble_eq_true rfl, Nat.le_of_ble_eq_true rfl⟩) tt_pre rfl rfl hl.1 rfl (lv_room (Nat.le_of_ble_eq_true rfl)) dX0_put_37 ⟨Nat.le_of_ble_eq_true rfl, Nat.le_of_ble_eq_true rfl⟩) ?_
  have hi_37 := pin_in (pk (rw_ r a0 a1)) t
  refine st_i (y := iI ((pn (pk (rw_ r a0 a1)) t : Nat) : Int)) (congrArg iI (pn_eq (pin_pk hR ht))) ?_
  refine lv_iload hx hb dX0_put_40 (lv_at hl 0 rfl) ?_
  refine rd_call (va_runS (As := [.long (pk (rw_ r a0 a1)), .int (iI ((pn (pk (rw_ r a0 a1)) t : Nat) : Int)), .int (iI ((rw_ r a0 a1 i : Nat) : Int))]) (rest := []) ⟨hx, hb, hml, hown, hts⟩ (mX0_withEntry l (pk (rw_ r a0 a1)) (pn (pk (rw_ r a0 a1)) t) (rw_ r a0 a1 i) (by omega)) (va_cwS 3 hts gX0_put_X0_withEntry rfl rfl rfl hdX0_withEntry ⟨Nat.le_of_ble_eq_true rfl, Nat.le_of_ble_eq_true rfl⟩) tt_pre rfl rfl hl.1 rfl (lv_room (Nat.le_of_ble_eq_true rfl)) dX0_put_42 ⟨Nat.le_of_ble_eq_true rfl, Nat.le_of_ble_eq_true rfl⟩) ?_
  refine lv_lstore (lv' := [(7, .long (we (pk (rw_ r a0 a1)) (pn (pk (rw_ r a0 a1)) t) (rw_ r a0 a1 i))), (6, .int (iI ((rw_ r a0 a1 i : Nat) : Int))), (4, .long (pk (rw_ r a0 a1))), (0, .ref o0), (1, .int (iI ((r : Nat) : Int))), (2, .int (iI ((i : Nat) : Int))), (3, .int (iI ((t : Nat) : Int)))]) hx hb dX0_put_45 hl (by decide) rfl (fun ls hl => ?_)
  refine lv_aload_n hx hb dX0_put_47 rfl (lv_at hl 3 rfl) ?_
  refine lv_iload_n hx hb dX0_put_48 rfl (lv_at hl 4 rfl) ?_
  refine lv_lload hx hb dX0_put_49 (lv_at hl 0 rfl) ?_
  refine lv_iload_n hx hb dX0_put_51 rfl (lv_at hl 5 rfl) ?_
  refine lv_iload_n hx hb dX0_put_52 rfl (lv_at hl 6 rfl) ?_
  refine rd_call (va_runS (As := [.long (we (pk (rw_ r a0 a1)) (pn (pk (rw_ r a0 a1)) t) (rw_ r a0 a1 i)), .int (iI ((i : Nat) : Int)), .int (iI ((t : Nat) : Int))]) (rest := [.int (iI ((r : Nat) : Int)), .ref o0]) ⟨hx, hb, hml, hown, hts⟩ (mX0_withEntry l (we (pk (rw_ r a0 a1)) (pn (pk (rw_ r a0 a1)) t) (rw_ r a0 a1 i)) i t (by omega)) (va_cwS 3 hts gX0_put_X0_withEntry rfl rfl rfl hdX0_withEntry ⟨Nat.le_of_ble_eq_true rfl, Nat.le_of_ble_eq_true rfl⟩) tt_pre rfl rfl hl.1 rfl (lv_room (Nat.le_of_ble_eq_true rfl)) dX0_put_53 ⟨Nat.le_of_ble_eq_true rfl, Nat.le_of_ble_eq_true rfl⟩) ?_
  refine st_l (y := pk (putF (rw_ r a0 a1) i t)) (put_pk hR hi ht) ?_
  refine wr_call (va_runV (As := [.int (iI ((r : Nat) : Int)), .long (pk (putF (rw_ r a0 a1) i t))]) (rest := []) ⟨hx, hb, hml, hown, hts⟩ (mX0_setRow l dC dI o0 a0 a1 q w hp0 hp1 hw hq hqd r (by omega) (putF (rw_ r a0 a1) i t)) (cwV 2 hts gX0_put_X0_setRow rfl rfl rfl hvX0_setRow ⟨Nat.le_of_ble_eq_true rfl, Nat.le_of_ble_eq_true rfl⟩) (bD_pre (ci := 0) (q0 := 0) hK hP hD rfl rfl rfl) rfl rfl hl.1 rfl (lv_room (Nat.le_of_ble_eq_true rfl)) dX0_put_56 ⟨Nat.le_of_ble_eq_true rfl, Nat.le_of_ble_eq_true rfl⟩) hS (fun q9 h => inW_same (w := [(o0, .inr (0, [.long (pk a0), .long (pk a1), .long (pkn q w), .int (iI ((w : Nat) : Int))]))]) (w' := [(o0, .inr (0, [.long (pk a0), .long (pk a1), .long (pkn q w), .int (iI ((w : Nat) : Int))]))]) (Eq.trans (b := [o0]) rfl rfl) h) (fun H locs hP hz hk hS => ?_)
  have hD : va_D (inW [(o0, .inr (0, [.long (pk a0), .long (pk a1), .long (pkn q w), .int (iI ((w : Nat) : Int))]))]) [(o0, .inr (0, [.long (pk (sr0 r (putF (rw_ r a0 a1) i t) a0)), .long (pk (sr1 r (putF (rw_ r a0 a1) i t) a1)), .long (pkn q w), .int (iI ((w : Nat) : Int))]))] := va_D_same (w := [(o0, .inr (0, [.long (pk a0), .long (pk a1), .long (pkn q w), .int (iI ((w : Nat) : Int))]))]) (Eq.trans (b := [o0]) rfl rfl) hD
  refine lv_iload hx hb dX0_put_59 (lv_at hl 1 rfl) ?_
  exact W.iret hx hb hr (fun t ht _ => ⟨rfl, by rw [ht]; exact hP, hS.F ht⟩) hS.2.2 dX0_put_61

set_option maxHeartbeats 4000000 in
set_option maxRecDepth 100000 in
theorem mX0_take_ok (l : Launch) (dC : Nat → ClassId) (dI : Nat → Nat → Nat) (o0 : Nat) (a0 a1 q : Nat → Nat) (w : Nat) (hp0 : Pm a0) (hp1 : Pm a1) (hw : w ≤ 12) (hq : ∀ i, i < w → q i < 12) (hqd : ∀ i j, i < w → j < w → q i = q j → i = j) (r k i t : Nat) (hr9 : r < 2) (hk : k < 4) (hi : i < 12) (ht : t < 2) : wr l yX0_take wsX0_take { frames := 3, cells := 0, slots := 0, locals := 74 } [.ref o0, .int (iI ((r : Nat) : Int)), .int (iI ((k : Nat) : Int)), .int (iI ((i : Nat) : Int)), .int (iI ((t : Nat) : Int))] (dC, dI) [(o0, .inr (0, [.long (pk a0), .long (pk a1), .long (pkn q w), .int (iI ((w : Nat) : Int))]))] [] [(o0, .inr (0, [.long (pk (sr0 t (fm (rw_ r a0 a1) (12 * k + i)) a0)), .long (pk (sr1 t (fm (rw_ r a0 a1) (12 * k + i)) a1)), .long (pkn q w), .int (iI ((w : Nat) : Int))]))] (some (.int (iI ((fm (rw_ r a0 a1) (12 * k + i) 0 : Nat) : Int)))) := by
  refine Met.ofW (cc := cX0_take) (maxL := 5) (ret := (some .int)) (by decide) rfl ?_
  intro P0 e s m args below meth c s₁ B hml hv
  obtain ⟨rfl, hP, hK, hD0⟩ := hv
  have hx := B.exec
  have hb := B.bytes
  have hr := B.returns
  have hts := atoms_spec (ws := wsX0_take) B.pre
  have hown : s.vm.findClass RX0 = some m.cls := findClass_of_methodNamed B.named
  have hlocks := B.notSynchronized
  have hD : va_D (inW [(o0, .inr (0, [.long (pk a0), .long (pk a1), .long (pkn q w), .int (iI ((w : Nat) : Int))]))]) [(o0, .inr (0, [.long (pk a0), .long (pk a1), .long (pkn q w), .int (iI ((w : Nat) : Int))]))] := va_D_in hD0
  have hS : va_S (inW [(o0, .inr (0, [.long (pk a0), .long (pk a1), .long (pkn q w), .int (iI ((w : Nat) : Int))]))]) s.heap s.heap [] := va_S.rf
  have hl := lv_entry ([.ref o0, .int (iI ((r : Nat) : Int)), .int (iI ((k : Nat) : Int)), .int (iI ((i : Nat) : Int)), .int (iI ((t : Nat) : Int))]) (n := 5) (Nat.le_of_ble_eq_true rfl)
  rw [lg_entry_eq]
  generalize (lg_sl ([.ref o0, .int (iI ((r : Nat) : Int)), .int (iI ((k : Nat) : Int)), .int (iI ((i : Nat) : Int)), .int (iI ((t : Nat) : Int))]) ++ List.replicate (5 - (lg_sl ([.ref o0, .int (iI ((r : Nat) : Int)), .int (iI ((k : Nat) : Int)), .int (iI ((i : Nat) : Int)), .int (iI ((t : Nat) : Int))])).length) Slot.unset).toArray = ls at hl ⊢
  have hl : lv_has ls 5 [(0, .ref o0), (1, .int (iI ((r : Nat) : Int))), (2, .int (iI ((k : Nat) : Int))), (3, .int (iI ((i : Nat) : Int))), (4, .int (iI ((t : Nat) : Int)))] := hl
  have hR := rw_Pm hp0 hp1 r
  have hR1 := hR.1
  have hF := fm_lt12 (rw_ r a0 a1) (12 * k + i)
  refine lv_iload_n hx hb dX0_take_0 rfl (lv_at hl 1 rfl) ?_
  refine rd_call (va_runS (As := [.int (iI ((r : Nat) : Int))]) (rest := []) ⟨hx, hb, hml, hown, hts⟩ (mX0_requireRow l ((r : Nat) : Int) ⟨by omega, by omega⟩ (by omega)) (va_cwS 1 hts gX0_take_X0_requireRow rfl rfl rfl hdX0_requireRow ⟨Nat.le_of_ble_eq_true rfl, Nat.le_of_ble_eq_true rfl⟩) tt_pre rfl rfl hl.1 rfl (lv_room (Nat.le_of_ble_eq_true rfl)) dX0_take_1 ⟨Nat.le_of_ble_eq_true rfl, Nat.le_of_ble_eq_true rfl⟩) ?_
  refine lv_iload hx hb dX0_take_4 (lv_at hl 4 rfl) ?_
  refine rd_call (va_runS (As := [.int (iI ((t : Nat) : Int))]) (rest := []) ⟨hx, hb, hml, hown, hts⟩ (mX0_requireRow l ((t : Nat) : Int) ⟨by omega, by omega⟩ (by omega)) (va_cwS 1 hts gX0_take_X0_requireRow rfl rfl rfl hdX0_requireRow ⟨Nat.le_of_ble_eq_true rfl, Nat.le_of_ble_eq_true rfl⟩) tt_pre rfl rfl hl.1 rfl (lv_room (Nat.le_of_ble_eq_true rfl)) dX0_take_6 ⟨Nat.le_of_ble_eq_true rfl, Nat.le_of_ble_eq_true rfl⟩) ?_
  refine lv_iload_n hx hb dX0_take_9 rfl (lv_at hl 2 rfl) ?_
  refine lv_iload_n hx hb dX0_take_10 rfl (lv_at hl 3 rfl) ?_
  refine rd_call (va_runS (As := [.int (iI ((k : Nat) : Int)), .int (iI ((i : Nat) : Int))]) (rest := []) ⟨hx, hb, hml, hown, hts⟩ (mX0_requireForm l ((k : Nat) : Int) ((i : Nat) : Int) ⟨by omega, by omega⟩ ⟨by omega, by omega⟩ (by omega)) (va_cwS 2 hts gX0_take_X0_requireForm rfl rfl rfl hdX0_requireForm ⟨Nat.le_of_ble_eq_true rfl, Nat.le_of_ble_eq_true rfl⟩) tt_pre rfl rfl hl.1 rfl (lv_room (Nat.le_of_ble_eq_true rfl)) dX0_take_11 ⟨Nat.le_of_ble_eq_true rfl, Nat.le_of_ble_eq_true rfl⟩) ?_
  refine lv_aload_n hx hb dX0_take_14 rfl (lv_at hl 0 rfl) ?_
  refine lv_iload hx hb dX0_take_15 (lv_at hl 4 rfl) ?_
  refine lv_aload_n hx hb dX0_take_17 rfl (lv_at hl 0 rfl) ?_
  refine lv_iload_n hx hb dX0_take_18 rfl (lv_at hl 1 rfl) ?_
  refine rd_call (va_runV (As := [.int (iI ((r : Nat) : Int))]) (rest := [.int (iI ((t : Nat) : Int)), .ref o0]) ⟨hx, hb, hml, hown, hts⟩ (mX0_rowAt l dC dI o0 a0 a1 q w hp0 hp1 hw hq hqd r (by omega)) (cwV 1 hts gX0_take_X0_rowAt rfl rfl rfl hvX0_rowAt ⟨Nat.le_of_ble_eq_true rfl, Nat.le_of_ble_eq_true rfl⟩) (bW_pre (ci := 0) (q0 := 0) hK hP rfl rfl rfl) rfl rfl hl.1 rfl (lv_room (Nat.le_of_ble_eq_true rfl)) dX0_take_19 ⟨Nat.le_of_ble_eq_true rfl, Nat.le_of_ble_eq_true rfl⟩) ?_
  refine lv_iload_n hx hb dX0_take_22 rfl (lv_at hl 2 rfl) ?_
  refine lv_iload_n hx hb dX0_take_23 rfl (lv_at hl 3 rfl) ?_
  refine rd_call (va_runS (As := [.int (iI ((k : Nat) : Int)), .int (iI ((i : Nat) : Int))]) (rest := [.long (pk (rw_ r a0 a1)), .int (iI ((t : Nat) : Int)), .ref o0]) ⟨hx, hb, hml, hown, hts⟩ (mX0_codeOf l k i) (va_cwS 2 hts gX0_take_X0_codeOf rfl rfl rfl hdX0_codeOf ⟨Nat.le_of_ble_eq_true rfl, Nat.le_of_ble_eq_true rfl⟩) tt_pre rfl rfl hl.1 rfl (lv_room (Nat.le_of_ble_eq_true rfl)) dX0_take_24 ⟨Nat.le_of_ble_eq_true rfl, Nat.le_of_ble_eq_true rfl⟩) ?_
  refine rd_call (va_runS (As := [.long (pk (rw_ r a0 a1)), .int (iI ((12 * k + i : Nat) : Int))]) (rest := [.int (iI ((t : Nat) : Int)), .ref o0]) ⟨hx, hb, hml, hown, hts⟩ (mX0_formWith l (pk (rw_ r a0 a1)) (12 * k + i) (by omega)) (va_cwS 2 hts gX0_take_X0_formWith rfl rfl rfl hdX0_formWith ⟨Nat.le_of_ble_eq_true rfl, Nat.le_of_ble_eq_true rfl⟩) tt_pre rfl rfl hl.1 rfl (lv_room (Nat.le_of_ble_eq_true rfl)) dX0_take_27 ⟨Nat.le_of_ble_eq_true rfl, Nat.le_of_ble_eq_true rfl⟩) ?_
  refine st_l (y := pk (fm (rw_ r a0 a1) (12 * k + i))) (fw_pk hR1 (by omega)) ?_
  refine wr_call (va_runV (As := [.int (iI ((t : Nat) : Int)), .long (pk (fm (rw_ r a0 a1) (12 * k + i)))]) (rest := []) ⟨hx, hb, hml, hown, hts⟩ (mX0_replaceRow l dC dI o0 a0 a1 q w hp0 hp1 hw hq hqd t (by omega) (fm (rw_ r a0 a1) (12 * k + i)) hF) (cwV 2 hts gX0_take_X0_replaceRow rfl rfl rfl hvX0_replaceRow ⟨Nat.le_of_ble_eq_true rfl, Nat.le_of_ble_eq_true rfl⟩) (bD_pre (ci := 0) (q0 := 0) hK hP hD rfl rfl rfl) rfl rfl hl.1 rfl (lv_room (Nat.le_of_ble_eq_true rfl)) dX0_take_30 ⟨Nat.le_of_ble_eq_true rfl, Nat.le_of_ble_eq_true rfl⟩) hS (fun q9 h => inW_same (w := [(o0, .inr (0, [.long (pk a0), .long (pk a1), .long (pkn q w), .int (iI ((w : Nat) : Int))]))]) (w' := [(o0, .inr (0, [.long (pk a0), .long (pk a1), .long (pkn q w), .int (iI ((w : Nat) : Int))]))]) (Eq.trans (b := [o0]) rfl rfl) h) (fun H locs hP hz hk hS => ?_)
  have hD : va_D (inW [(o0, .inr (0, [.long (pk a0), .long (pk a1), .long (pkn q w), .int (iI ((w : Nat) : Int))]))]) [(o0, .inr (0, [.long (pk (sr0 t (fm (rw_ r a0 a1) (12 * k + i)) a0)), .long (pk (sr1 t (fm (rw_ r a0 a1) (12 * k + i)) a1)), .long (pkn q w), .int (iI ((w : Nat) : Int))]))] := va_D_same (w := [(o0, .inr (0, [.long (pk a0), .long (pk a1), .long (pkn q w), .int (iI ((w : Nat) : Int))]))]) (Eq.trans (b := [o0]) rfl rfl) hD
  refine st_i (y := iI ((fm (rw_ r a0 a1) (12 * k + i) 0 : Nat) : Int)) (congrArg iI (by omega)) ?_
  exact W.iret hx hb hr (fun t ht _ => ⟨rfl, by rw [ht]; exact hP, hS.F ht⟩) hS.2.2 dX0_take_33

set_option maxHeartbeats 4000000 in
set_option maxRecDepth 100000 in
theorem mX0_multiply_ok (l : Launch) (dC : Nat → ClassId) (dI : Nat → Nat → Nat) (o0 : Nat) (a0 a1 q : Nat → Nat) (w : Nat) (hp0 : Pm a0) (hp1 : Pm a1) (hw : w ≤ 12) (hq : ∀ i, i < w → q i < 12) (hqd : ∀ i j, i < w → j < w → q i = q j → i = j) (r f : Nat) (hr9 : r < 2) (hf : f = 1 ∨ f = 5 ∨ f = 7 ∨ f = 11) : wr l yX0_multiply wsX0_multiply { frames := 2, cells := 0, slots := 0, locals := 46 } [.ref o0, .int (iI ((r : Nat) : Int)), .int (iI ((f : Nat) : Int))] (dC, dI) [(o0, .inr (0, [.long (pk a0), .long (pk a1), .long (pkn q w), .int (iI ((w : Nat) : Int))]))] [] [(o0, .inr (0, [.long (pk (sr0 r (mulF (rw_ r a0 a1) f) a0)), .long (pk (sr1 r (mulF (rw_ r a0 a1) f) a1)), .long (pkn q w), .int (iI ((w : Nat) : Int))]))] (some (.int (iI ((mulF (rw_ r a0 a1) f 0 : Nat) : Int)))) := by
  refine Met.ofW (cc := cX0_multiply) (maxL := 8) (ret := (some .int)) (by decide) rfl ?_
  intro P0 e s m args below meth c s₁ B hml hv
  obtain ⟨rfl, hP, hK, hD0⟩ := hv
  have hx := B.exec
  have hb := B.bytes
  have hr := B.returns
  have hts := atoms_spec (ws := wsX0_multiply) B.pre
  have hown : s.vm.findClass RX0 = some m.cls := findClass_of_methodNamed B.named
  have hlocks := B.notSynchronized
  have hD : va_D (inW [(o0, .inr (0, [.long (pk a0), .long (pk a1), .long (pkn q w), .int (iI ((w : Nat) : Int))]))]) [(o0, .inr (0, [.long (pk a0), .long (pk a1), .long (pkn q w), .int (iI ((w : Nat) : Int))]))] := va_D_in hD0
  have hS : va_S (inW [(o0, .inr (0, [.long (pk a0), .long (pk a1), .long (pkn q w), .int (iI ((w : Nat) : Int))]))]) s.heap s.heap [] := va_S.rf
  have hl := lv_entry ([.ref o0, .int (iI ((r : Nat) : Int)), .int (iI ((f : Nat) : Int))]) (n := 8) (Nat.le_of_ble_eq_true rfl)
  rw [lg_entry_eq]
  generalize (lg_sl ([.ref o0, .int (iI ((r : Nat) : Int)), .int (iI ((f : Nat) : Int))]) ++ List.replicate (8 - (lg_sl ([.ref o0, .int (iI ((r : Nat) : Int)), .int (iI ((f : Nat) : Int))])).length) Slot.unset).toArray = ls at hl ⊢
  have hl : lv_has ls 8 [(0, .ref o0), (1, .int (iI ((r : Nat) : Int))), (2, .int (iI ((f : Nat) : Int)))] := hl
  have hR := rw_Pm hp0 hp1 r
  have hR1 := hR.1
  have hF := mulF_lt (rw_ r a0 a1) f
  have hf9 : f ≤ 11 := by omega
  refine lv_iload_n hx hb dX0_multiply_0 rfl (lv_at hl 1 rfl) ?_
  refine rd_call (va_runS (As := [.int (iI ((r : Nat) : Int))]) (rest := []) ⟨hx, hb, hml, hown, hts⟩ (mX0_requireRow l ((r : Nat) : Int) ⟨by omega, by omega⟩ (by omega)) (va_cwS 1 hts gX0_multiply_X0_requireRow rfl rfl rfl hdX0_requireRow ⟨Nat.le_of_ble_eq_true rfl, Nat.le_of_ble_eq_true rfl⟩) tt_pre rfl rfl hl.1 rfl (lv_room (Nat.le_of_ble_eq_true rfl)) dX0_multiply_1 ⟨Nat.le_of_ble_eq_true rfl, Nat.le_of_ble_eq_true rfl⟩) ?_
  refine lv_iload_n hx hb dX0_multiply_4 rfl (lv_at hl 2 rfl) ?_
  refine rd_call (va_runS (As := [.int (iI ((f : Nat) : Int))]) (rest := []) ⟨hx, hb, hml, hown, hts⟩ (mX0_requireFactor l ((f : Nat) : Int) ⟨by omega, by omega⟩ (by omega)) (va_cwS 1 hts gX0_multiply_X0_requireFactor rfl rfl rfl hdX0_requireFactor ⟨Nat.le_of_ble_eq_true rfl, Nat.le_of_ble_eq_true rfl⟩) tt_pre rfl rfl hl.1 rfl (lv_room (Nat.le_of_ble_eq_true rfl)) dX0_multiply_5 ⟨Nat.le_of_ble_eq_true rfl, Nat.le_of_ble_eq_true rfl⟩) ?_
  refine lv_aload_n hx hb dX0_multiply_8 rfl (lv_at hl 0 rfl) ?_
  refine lv_iload_n hx hb dX0_multiply_9 rfl (lv_at hl 1 rfl) ?_
  refine rd_call (va_runV (As := [.int (iI ((r : Nat) : Int))]) (rest := []) ⟨hx, hb, hml, hown, hts⟩ (mX0_rowAt l dC dI o0 a0 a1 q w hp0 hp1 hw hq hqd r (by omega)) (cwV 1 hts gX0_multiply_X0_rowAt rfl rfl rfl hvX0_rowAt ⟨Nat.le_of_ble_eq_true rfl, Nat.le_of_ble_eq_true rfl⟩) (bW_pre (ci := 0) (q0 := 0) hK hP rfl rfl rfl) rfl rfl hl.1 rfl (lv_room (Nat.le_of_ble_eq_true rfl)) dX0_multiply_10 ⟨Nat.le_of_ble_eq_true rfl, Nat.le_of_ble_eq_true rfl⟩) ?_
  refine lv_lstore_n (lv' := [(3, .long (pk (rw_ r a0 a1))), (0, .ref o0), (1, .int (iI ((r : Nat) : Int))), (2, .int (iI ((f : Nat) : Int)))]) hx hb dX0_multiply_13 rfl hl (by decide) rfl (fun ls hl => ?_)
  refine lv_lconst (v := 0) hx hb dX0_multiply_14 (by decide) ?_
  refine lv_lstore (lv' := [(5, .long (0 : Int64)), (3, .long (pk (rw_ r a0 a1))), (0, .ref o0), (1, .int (iI ((r : Nat) : Int))), (2, .int (iI ((f : Nat) : Int)))]) hx hb dX0_multiply_15 hl (by decide) rfl (fun ls hl => ?_)
  refine ib_const hx hb dX0_multiply_17 ?_
  refine lv_istore (lv' := [(7, .int (iI 0)), (5, .long (0 : Int64)), (3, .long (pk (rw_ r a0 a1))), (0, .ref o0), (1, .int (iI ((r : Nat) : Int))), (2, .int (iI ((f : Nat) : Int)))]) hx hb dX0_multiply_18 hl (by decide) rfl (fun ls hl => ?_)
  have lp_20_1 : ∀ (j n : Nat), n + j = 12 → ∀ ls : Array Slot, lv_has ls 8 [(0, .ref o0), (1, .int (iI ((r : Nat) : Int))), (2, .int (iI ((f : Nat) : Int))), (3, .long (pk (rw_ r a0 a1))), (5, .long (pkn (mulF (rw_ r a0 a1) f) n)), (7, .int (iI ((n : Nat) : Int)))] → W P0 l e (headSpec wsX0_multiply { frames := 2, cells := 0, slots := 0, locals := 46 }).room s m ([.ref o0, .int (iI ((r : Nat) : Int)), .int (iI ((f : Nat) : Int))] : List Value).toArray below meth c s.heap [] 0 0 (MQ below (wrQ (dC, dI) (inW [(o0, .inr (0, [.long (pk a0), .long (pk a1), .long (pkn q w), .int (iI ((w : Nat) : Int))]))]) [(o0, .inr (0, [.long (pk (sr0 r (mulF (rw_ r a0 a1) f) a0)), .long (pk (sr1 r (mulF (rw_ r a0 a1) f) a1)), .long (pkn q w), .int (iI ((w : Nat) : Int))]))] (some (.int (iI ((mulF (rw_ r a0 a1) f 0 : Nat) : Int))))) ([.ref o0, .int (iI ((r : Nat) : Int)), .int (iI ((f : Nat) : Int))] : List Value).toArray s 0 0 (inW [(o0, .inr (0, [.long (pk a0), .long (pk a1), .long (pkn q w), .int (iI ((w : Nat) : Int))]))])) (F0 m 20 ls []) := by
    intro j
    induction j with
    | zero =>
      intro n hn_20  ls hl
      refine lv_iload hx hb dX0_multiply_20 (lv_at hl 5 rfl) ?_
      refine ib_bi hx hb dX0_multiply_22 (by decide) ?_
      refine ib_icmp_ge (tgt := 53) hx hb dX0_multiply_24 (by decide) ⟨by omega, by omega⟩ ⟨by omega, by omega⟩ (fun c_24 => ?_) (fun c_24 => absurd c_24 (by omega))
      refine lv_aload_n hx hb dX0_multiply_53 rfl (lv_at hl 0 rfl) ?_
      refine lv_iload_n hx hb dX0_multiply_54 rfl (lv_at hl 1 rfl) ?_
      refine lv_lload hx hb dX0_multiply_55 (lv_at hl 4 rfl) ?_
      refine st_l (y := pk (mulF (rw_ r a0 a1) f)) (congrArg (pkn (mulF (rw_ r a0 a1) f)) (show n = 12 by omega)) ?_
      refine wr_call (va_runV (As := [.int (iI ((r : Nat) : Int)), .long (pk (mulF (rw_ r a0 a1) f))]) (rest := []) ⟨hx, hb, hml, hown, hts⟩ (mX0_replaceRow l dC dI o0 a0 a1 q w hp0 hp1 hw hq hqd r (by omega) (mulF (rw_ r a0 a1) f) hF) (cwV 2 hts gX0_multiply_X0_replaceRow rfl rfl rfl hvX0_replaceRow ⟨Nat.le_of_ble_eq_true rfl, Nat.le_of_ble_eq_true rfl⟩) (bD_pre (ci := 0) (q0 := 0) hK hP hD rfl rfl rfl) rfl rfl hl.1 rfl (lv_room (Nat.le_of_ble_eq_true rfl)) dX0_multiply_57 ⟨Nat.le_of_ble_eq_true rfl, Nat.le_of_ble_eq_true rfl⟩) hS (fun q9 h => inW_same (w := [(o0, .inr (0, [.long (pk a0), .long (pk a1), .long (pkn q w), .int (iI ((w : Nat) : Int))]))]) (w' := [(o0, .inr (0, [.long (pk a0), .long (pk a1), .long (pkn q w), .int (iI ((w : Nat) : Int))]))]) (Eq.trans (b := [o0]) rfl rfl) h) (fun H locs hP hz hk hS => ?_)
      have hD : va_D (inW [(o0, .inr (0, [.long (pk a0), .long (pk a1), .long (pkn q w), .int (iI ((w : Nat) : Int))]))]) [(o0, .inr (0, [.long (pk (sr0 r (mulF (rw_ r a0 a1) f) a0)), .long (pk (sr1 r (mulF (rw_ r a0 a1) f) a1)), .long (pkn q w), .int (iI ((w : Nat) : Int))]))] := va_D_same (w := [(o0, .inr (0, [.long (pk a0), .long (pk a1), .long (pkn q w), .int (iI ((w : Nat) : Int))]))]) (Eq.trans (b := [o0]) rfl rfl) hD
      refine st_i (y := iI ((mulF (rw_ r a0 a1) f 0 : Nat) : Int)) (congrArg iI (by omega)) ?_
      exact W.iret hx hb hr (fun t ht _ => ⟨rfl, by rw [ht]; exact hP, hS.F ht⟩) hS.2.2 dX0_multiply_60
    | succ j ih_20_1 =>
      intro n hn_20  ls hl
      refine lv_iload hx hb dX0_multiply_20 (lv_at hl 5 rfl) ?_
      refine ib_bi hx hb dX0_multiply_22 (by decide) ?_
      refine ib_icmp_ge (tgt := 53) hx hb dX0_multiply_24 (by decide) ⟨by omega, by omega⟩ ⟨by omega, by omega⟩ (fun c_24 => absurd c_24 (by omega)) (fun c_24 => ?_)
      refine lv_lload hx hb dX0_multiply_27 (lv_at hl 4 rfl) ?_
      refine lv_iload hx hb dX0_multiply_29 (lv_at hl 5 rfl) ?_
      refine lv_lload_n hx hb dX0_multiply_31 rfl (lv_at hl 3 rfl) ?_
      refine lv_iload hx hb dX0_multiply_32 (lv_at hl 5 rfl) ?_
      refine rd_call (va_runS (As := [.long (pk (rw_ r a0 a1)), .int (iI ((n : Nat) : Int))]) (rest := [.int (iI ((n : Nat) : Int)), .long (pkn (mulF (rw_ r a0 a1) f) n)]) ⟨hx, hb, hml, hown, hts⟩ (mX0_entryAt l (pk (rw_ r a0 a1)) n (by omega)) (va_cwS 2 hts gX0_multiply_X0_entryAt rfl rfl rfl hdX0_entryAt ⟨Nat.le_of_ble_eq_true rfl, Nat.le_of_ble_eq_true rfl⟩) tt_pre rfl rfl hl.1 rfl (lv_room (Nat.le_of_ble_eq_true rfl)) dX0_multiply_34 ⟨Nat.le_of_ble_eq_true rfl, Nat.le_of_ble_eq_true rfl⟩) ?_
      have he_34 := ent_lt (pk (rw_ r a0 a1)) n
      refine st_i (y := iI ((rw_ r a0 a1 n : Nat) : Int)) (congrArg (fun z : Nat => iI ((z : Nat) : Int)) (ent_pk hR1 (by omega))) ?_
      refine lv_iload_n hx hb dX0_multiply_37 rfl (lv_at hl 2 rfl) ?_
      have hRn := hR1 n (by omega)
      have hmu : rw_ r a0 a1 n * f ≤ 11 * 11 := Nat.mul_le_mul (by omega) hf9
      refine ib_mul (z := (((rw_ r a0 a1 n) * f : Nat) : Int)) hx hb dX0_multiply_38 (by first | omega | rfl | (push_cast; rfl)) ?_
      refine rd_call (va_runS (As := [.int (iI (((rw_ r a0 a1 n) * f : Nat) : Int))]) (rest := [.int (iI ((n : Nat) : Int)), .long (pkn (mulF (rw_ r a0 a1) f) n)]) ⟨hx, hb, hml, hown, hts⟩ (mX0_wrap l (((rw_ r a0 a1 n) * f : Nat) : Int) ⟨by omega, by omega⟩) (va_cwS 1 hts gX0_multiply_X0_wrap rfl rfl rfl hdX0_wrap ⟨Nat.le_of_ble_eq_true rfl, Nat.le_of_ble_eq_true rfl⟩) tt_pre rfl rfl hl.1 rfl (lv_room (Nat.le_of_ble_eq_true rfl)) dX0_multiply_39 ⟨Nat.le_of_ble_eq_true rfl, Nat.le_of_ble_eq_true rfl⟩) ?_
      have hm_39 := md_lt (((rw_ r a0 a1 n) * f : Nat) : Int)
      refine st_i (y := iI ((mulF (rw_ r a0 a1) f n : Nat) : Int)) (congrArg (fun z : Nat => iI ((z : Nat) : Int)) (md_nat _)) ?_
      refine rd_call (va_runS (As := [.long (pkn (mulF (rw_ r a0 a1) f) n), .int (iI ((n : Nat) : Int)), .int (iI ((mulF (rw_ r a0 a1) f n : Nat) : Int))]) (rest := []) ⟨hx, hb, hml, hown, hts⟩ (mX0_withEntry l (pkn (mulF (rw_ r a0 a1) f) n) n (mulF (rw_ r a0 a1) f n) (by omega)) (va_cwS 3 hts gX0_multiply_X0_withEntry rfl rfl rfl hdX0_withEntry ⟨Nat.le_of_ble_eq_true rfl, Nat.le_of_ble_eq_true rfl⟩) tt_pre rfl rfl hl.1 rfl (lv_room (Nat.le_of_ble_eq_true rfl)) dX0_multiply_42 ⟨Nat.le_of_ble_eq_true rfl, Nat.le_of_ble_eq_true rfl⟩) ?_
      refine st_l (y := pkn (mulF (rw_ r a0 a1) f) (n + 1)) (rfl) ?_
      refine lv_lstore (lv' := [(5, .long (pkn (mulF (rw_ r a0 a1) f) (n + 1))), (0, .ref o0), (1, .int (iI ((r : Nat) : Int))), (2, .int (iI ((f : Nat) : Int))), (3, .long (pk (rw_ r a0 a1))), (7, .int (iI ((n : Nat) : Int)))]) hx hb dX0_multiply_45 hl (by decide) rfl (fun ls hl => ?_)
      refine lv_iinc (v := iI ((n + 1 : Nat) : Int)) (lv' := [(7, .int (iI ((n + 1 : Nat) : Int))), (5, .long (pkn (mulF (rw_ r a0 a1) f) (n + 1))), (0, .ref o0), (1, .int (iI ((r : Nat) : Int))), (2, .int (iI ((f : Nat) : Int))), (3, .long (pk (rw_ r a0 a1)))]) hx hb dX0_multiply_47 hl (k := 5) rfl (iI_inc (by omega)) (by decide) rfl (fun ls hl => ?_)
      refine lv_goto (tgt := 20) hx hb dX0_multiply_50 (by decide) ?_
      exact ih_20_1 (n + 1) (by omega)  _ (lv_sub hl [2, 3, 4, 5, 1, 0] rfl)
  exact lp_20_1 12 0 (by omega)  _ (lv_sub hl [3, 4, 5, 2, 1, 0] rfl)

set_option maxHeartbeats 4000000 in
set_option maxRecDepth 100000 in
theorem mX0_rotate_ok (l : Launch) (dC : Nat → ClassId) (dI : Nat → Nat → Nat) (o0 : Nat) (a0 a1 q : Nat → Nat) (w : Nat) (hp0 : Pm a0) (hp1 : Pm a1) (hw : w ≤ 12) (hq : ∀ i, i < w → q i < 12) (hqd : ∀ i j, i < w → j < w → q i = q j → i = j) (r b : Nat) (hr9 : r < 2) (hb9 : b < 12) : wr l yX0_rotate wsX0_rotate { frames := 2, cells := 0, slots := 0, locals := 46 } [.ref o0, .int (iI ((r : Nat) : Int)), .int (iI ((b : Nat) : Int))] (dC, dI) [(o0, .inr (0, [.long (pk a0), .long (pk a1), .long (pkn q w), .int (iI ((w : Nat) : Int))]))] [] [(o0, .inr (0, [.long (pk (sr0 r (rotF (rw_ r a0 a1) b) a0)), .long (pk (sr1 r (rotF (rw_ r a0 a1) b) a1)), .long (pkn q w), .int (iI ((w : Nat) : Int))]))] (some (.int (iI ((rotF (rw_ r a0 a1) b 0 : Nat) : Int)))) := by
  refine Met.ofW (cc := cX0_rotate) (maxL := 8) (ret := (some .int)) (by decide) rfl ?_
  intro P0 e s m args below meth c s₁ B hml hv
  obtain ⟨rfl, hP, hK, hD0⟩ := hv
  have hx := B.exec
  have hb := B.bytes
  have hr := B.returns
  have hts := atoms_spec (ws := wsX0_rotate) B.pre
  have hown : s.vm.findClass RX0 = some m.cls := findClass_of_methodNamed B.named
  have hlocks := B.notSynchronized
  have hD : va_D (inW [(o0, .inr (0, [.long (pk a0), .long (pk a1), .long (pkn q w), .int (iI ((w : Nat) : Int))]))]) [(o0, .inr (0, [.long (pk a0), .long (pk a1), .long (pkn q w), .int (iI ((w : Nat) : Int))]))] := va_D_in hD0
  have hS : va_S (inW [(o0, .inr (0, [.long (pk a0), .long (pk a1), .long (pkn q w), .int (iI ((w : Nat) : Int))]))]) s.heap s.heap [] := va_S.rf
  have hl := lv_entry ([.ref o0, .int (iI ((r : Nat) : Int)), .int (iI ((b : Nat) : Int))]) (n := 8) (Nat.le_of_ble_eq_true rfl)
  rw [lg_entry_eq]
  generalize (lg_sl ([.ref o0, .int (iI ((r : Nat) : Int)), .int (iI ((b : Nat) : Int))]) ++ List.replicate (8 - (lg_sl ([.ref o0, .int (iI ((r : Nat) : Int)), .int (iI ((b : Nat) : Int))])).length) Slot.unset).toArray = ls at hl ⊢
  have hl : lv_has ls 8 [(0, .ref o0), (1, .int (iI ((r : Nat) : Int))), (2, .int (iI ((b : Nat) : Int)))] := hl
  have hR := rw_Pm hp0 hp1 r
  have hR1 := hR.1
  have hF := rotF_lt b hR1
  refine lv_iload_n hx hb dX0_rotate_0 rfl (lv_at hl 1 rfl) ?_
  refine rd_call (va_runS (As := [.int (iI ((r : Nat) : Int))]) (rest := []) ⟨hx, hb, hml, hown, hts⟩ (mX0_requireRow l ((r : Nat) : Int) ⟨by omega, by omega⟩ (by omega)) (va_cwS 1 hts gX0_rotate_X0_requireRow rfl rfl rfl hdX0_requireRow ⟨Nat.le_of_ble_eq_true rfl, Nat.le_of_ble_eq_true rfl⟩) tt_pre rfl rfl hl.1 rfl (lv_room (Nat.le_of_ble_eq_true rfl)) dX0_rotate_1 ⟨Nat.le_of_ble_eq_true rfl, Nat.le_of_ble_eq_true rfl⟩) ?_
  refine lv_iload_n hx hb dX0_rotate_4 rfl (lv_at hl 2 rfl) ?_
  refine ib_const hx hb dX0_rotate_5 ?_
  refine ib_bi hx hb dX0_rotate_6 (by decide) ?_
  refine rd_call (va_runS (As := [.int (iI ((b : Nat) : Int)), .int (iI 0), .int (iI 11)]) (rest := []) ⟨hx, hb, hml, hown, hts⟩ (mX0_requireRange l ((b : Nat) : Int) 0 11 ⟨by omega, by omega⟩ ⟨by omega, by omega⟩ ⟨by omega, by omega⟩ (by omega)) (va_cwS 3 hts gX0_rotate_X0_requireRange rfl rfl rfl hdX0_requireRange ⟨Nat.le_of_ble_eq_true rfl, Nat.le_of_ble_eq_true rfl⟩) tt_pre rfl rfl hl.1 rfl (lv_room (Nat.le_of_ble_eq_true rfl)) dX0_rotate_8 ⟨Nat.le_of_ble_eq_true rfl, Nat.le_of_ble_eq_true rfl⟩) ?_
  refine lv_aload_n hx hb dX0_rotate_11 rfl (lv_at hl 0 rfl) ?_
  refine lv_iload_n hx hb dX0_rotate_12 rfl (lv_at hl 1 rfl) ?_
  refine rd_call (va_runV (As := [.int (iI ((r : Nat) : Int))]) (rest := []) ⟨hx, hb, hml, hown, hts⟩ (mX0_rowAt l dC dI o0 a0 a1 q w hp0 hp1 hw hq hqd r (by omega)) (cwV 1 hts gX0_rotate_X0_rowAt rfl rfl rfl hvX0_rowAt ⟨Nat.le_of_ble_eq_true rfl, Nat.le_of_ble_eq_true rfl⟩) (bW_pre (ci := 0) (q0 := 0) hK hP rfl rfl rfl) rfl rfl hl.1 rfl (lv_room (Nat.le_of_ble_eq_true rfl)) dX0_rotate_13 ⟨Nat.le_of_ble_eq_true rfl, Nat.le_of_ble_eq_true rfl⟩) ?_
  refine lv_lstore_n (lv' := [(3, .long (pk (rw_ r a0 a1))), (0, .ref o0), (1, .int (iI ((r : Nat) : Int))), (2, .int (iI ((b : Nat) : Int)))]) hx hb dX0_rotate_16 rfl hl (by decide) rfl (fun ls hl => ?_)
  refine lv_lconst (v := 0) hx hb dX0_rotate_17 (by decide) ?_
  refine lv_lstore (lv' := [(5, .long (0 : Int64)), (3, .long (pk (rw_ r a0 a1))), (0, .ref o0), (1, .int (iI ((r : Nat) : Int))), (2, .int (iI ((b : Nat) : Int)))]) hx hb dX0_rotate_18 hl (by decide) rfl (fun ls hl => ?_)
  refine ib_const hx hb dX0_rotate_20 ?_
  refine lv_istore (lv' := [(7, .int (iI 0)), (5, .long (0 : Int64)), (3, .long (pk (rw_ r a0 a1))), (0, .ref o0), (1, .int (iI ((r : Nat) : Int))), (2, .int (iI ((b : Nat) : Int)))]) hx hb dX0_rotate_21 hl (by decide) rfl (fun ls hl => ?_)
  have lp_23_1 : ∀ (j n : Nat), n + j = 12 → ∀ ls : Array Slot, lv_has ls 8 [(0, .ref o0), (1, .int (iI ((r : Nat) : Int))), (2, .int (iI ((b : Nat) : Int))), (3, .long (pk (rw_ r a0 a1))), (5, .long (pkn (rotF (rw_ r a0 a1) b) n)), (7, .int (iI ((n : Nat) : Int)))] → W P0 l e (headSpec wsX0_rotate { frames := 2, cells := 0, slots := 0, locals := 46 }).room s m ([.ref o0, .int (iI ((r : Nat) : Int)), .int (iI ((b : Nat) : Int))] : List Value).toArray below meth c s.heap [] 0 0 (MQ below (wrQ (dC, dI) (inW [(o0, .inr (0, [.long (pk a0), .long (pk a1), .long (pkn q w), .int (iI ((w : Nat) : Int))]))]) [(o0, .inr (0, [.long (pk (sr0 r (rotF (rw_ r a0 a1) b) a0)), .long (pk (sr1 r (rotF (rw_ r a0 a1) b) a1)), .long (pkn q w), .int (iI ((w : Nat) : Int))]))] (some (.int (iI ((rotF (rw_ r a0 a1) b 0 : Nat) : Int))))) ([.ref o0, .int (iI ((r : Nat) : Int)), .int (iI ((b : Nat) : Int))] : List Value).toArray s 0 0 (inW [(o0, .inr (0, [.long (pk a0), .long (pk a1), .long (pkn q w), .int (iI ((w : Nat) : Int))]))])) (F0 m 23 ls []) := by
    intro j
    induction j with
    | zero =>
      intro n hn_23  ls hl
      refine lv_iload hx hb dX0_rotate_23 (lv_at hl 5 rfl) ?_
      refine ib_bi hx hb dX0_rotate_25 (by decide) ?_
      refine ib_icmp_ge (tgt := 56) hx hb dX0_rotate_27 (by decide) ⟨by omega, by omega⟩ ⟨by omega, by omega⟩ (fun c_27 => ?_) (fun c_27 => absurd c_27 (by omega))
      refine lv_aload_n hx hb dX0_rotate_56 rfl (lv_at hl 0 rfl) ?_
      refine lv_iload_n hx hb dX0_rotate_57 rfl (lv_at hl 1 rfl) ?_
      refine lv_lload hx hb dX0_rotate_58 (lv_at hl 4 rfl) ?_
      refine st_l (y := pk (rotF (rw_ r a0 a1) b)) (congrArg (pkn (rotF (rw_ r a0 a1) b)) (show n = 12 by omega)) ?_
      refine wr_call (va_runV (As := [.int (iI ((r : Nat) : Int)), .long (pk (rotF (rw_ r a0 a1) b))]) (rest := []) ⟨hx, hb, hml, hown, hts⟩ (mX0_replaceRow l dC dI o0 a0 a1 q w hp0 hp1 hw hq hqd r (by omega) (rotF (rw_ r a0 a1) b) hF) (cwV 2 hts gX0_rotate_X0_replaceRow rfl rfl rfl hvX0_replaceRow ⟨Nat.le_of_ble_eq_true rfl, Nat.le_of_ble_eq_true rfl⟩) (bD_pre (ci := 0) (q0 := 0) hK hP hD rfl rfl rfl) rfl rfl hl.1 rfl (lv_room (Nat.le_of_ble_eq_true rfl)) dX0_rotate_60 ⟨Nat.le_of_ble_eq_true rfl, Nat.le_of_ble_eq_true rfl⟩) hS (fun q9 h => inW_same (w := [(o0, .inr (0, [.long (pk a0), .long (pk a1), .long (pkn q w), .int (iI ((w : Nat) : Int))]))]) (w' := [(o0, .inr (0, [.long (pk a0), .long (pk a1), .long (pkn q w), .int (iI ((w : Nat) : Int))]))]) (Eq.trans (b := [o0]) rfl rfl) h) (fun H locs hP hz hk hS => ?_)
      have hD : va_D (inW [(o0, .inr (0, [.long (pk a0), .long (pk a1), .long (pkn q w), .int (iI ((w : Nat) : Int))]))]) [(o0, .inr (0, [.long (pk (sr0 r (rotF (rw_ r a0 a1) b) a0)), .long (pk (sr1 r (rotF (rw_ r a0 a1) b) a1)), .long (pkn q w), .int (iI ((w : Nat) : Int))]))] := va_D_same (w := [(o0, .inr (0, [.long (pk a0), .long (pk a1), .long (pkn q w), .int (iI ((w : Nat) : Int))]))]) (Eq.trans (b := [o0]) rfl rfl) hD
      refine st_i (y := iI ((rotF (rw_ r a0 a1) b 0 : Nat) : Int)) (congrArg iI (by omega)) ?_
      exact W.iret hx hb hr (fun t ht _ => ⟨rfl, by rw [ht]; exact hP, hS.F ht⟩) hS.2.2 dX0_rotate_63
    | succ j ih_23_1 =>
      intro n hn_23  ls hl
      refine lv_iload hx hb dX0_rotate_23 (lv_at hl 5 rfl) ?_
      refine ib_bi hx hb dX0_rotate_25 (by decide) ?_
      refine ib_icmp_ge (tgt := 56) hx hb dX0_rotate_27 (by decide) ⟨by omega, by omega⟩ ⟨by omega, by omega⟩ (fun c_27 => absurd c_27 (by omega)) (fun c_27 => ?_)
      refine lv_lload hx hb dX0_rotate_30 (lv_at hl 4 rfl) ?_
      refine lv_iload hx hb dX0_rotate_32 (lv_at hl 5 rfl) ?_
      refine lv_lload_n hx hb dX0_rotate_34 rfl (lv_at hl 3 rfl) ?_
      refine lv_iload hx hb dX0_rotate_35 (lv_at hl 5 rfl) ?_
      refine lv_iload_n hx hb dX0_rotate_37 rfl (lv_at hl 2 rfl) ?_
      refine ib_add (z := ((n + b : Nat) : Int)) hx hb dX0_rotate_38 (by omega) ?_
      refine rd_call (va_runS (As := [.int (iI ((n + b : Nat) : Int))]) (rest := [.long (pk (rw_ r a0 a1)), .int (iI ((n : Nat) : Int)), .long (pkn (rotF (rw_ r a0 a1) b) n)]) ⟨hx, hb, hml, hown, hts⟩ (mX0_wrap l ((n + b : Nat) : Int) ⟨by omega, by omega⟩) (va_cwS 1 hts gX0_rotate_X0_wrap rfl rfl rfl hdX0_wrap ⟨Nat.le_of_ble_eq_true rfl, Nat.le_of_ble_eq_true rfl⟩) tt_pre rfl rfl hl.1 rfl (lv_room (Nat.le_of_ble_eq_true rfl)) dX0_rotate_39 ⟨Nat.le_of_ble_eq_true rfl, Nat.le_of_ble_eq_true rfl⟩) ?_
      have hm_39 := md_lt ((n + b : Nat) : Int)
      refine st_i (y := iI (((n + b) % 12 : Nat) : Int)) (congrArg (fun z : Nat => iI ((z : Nat) : Int)) (md_nat _)) ?_
      refine rd_call (va_runS (As := [.long (pk (rw_ r a0 a1)), .int (iI (((n + b) % 12 : Nat) : Int))]) (rest := [.int (iI ((n : Nat) : Int)), .long (pkn (rotF (rw_ r a0 a1) b) n)]) ⟨hx, hb, hml, hown, hts⟩ (mX0_entryAt l (pk (rw_ r a0 a1)) ((n + b) % 12) (by omega)) (va_cwS 2 hts gX0_rotate_X0_entryAt rfl rfl rfl hdX0_entryAt ⟨Nat.le_of_ble_eq_true rfl, Nat.le_of_ble_eq_true rfl⟩) tt_pre rfl rfl hl.1 rfl (lv_room (Nat.le_of_ble_eq_true rfl)) dX0_rotate_42 ⟨Nat.le_of_ble_eq_true rfl, Nat.le_of_ble_eq_true rfl⟩) ?_
      have he_42 := ent_lt (pk (rw_ r a0 a1)) ((n + b) % 12)
      refine st_i (y := iI ((rotF (rw_ r a0 a1) b n : Nat) : Int)) (congrArg (fun z : Nat => iI ((z : Nat) : Int)) (ent_pk hR1 (by omega))) ?_
      refine rd_call (va_runS (As := [.long (pkn (rotF (rw_ r a0 a1) b) n), .int (iI ((n : Nat) : Int)), .int (iI ((rotF (rw_ r a0 a1) b n : Nat) : Int))]) (rest := []) ⟨hx, hb, hml, hown, hts⟩ (mX0_withEntry l (pkn (rotF (rw_ r a0 a1) b) n) n (rotF (rw_ r a0 a1) b n) (by omega)) (va_cwS 3 hts gX0_rotate_X0_withEntry rfl rfl rfl hdX0_withEntry ⟨Nat.le_of_ble_eq_true rfl, Nat.le_of_ble_eq_true rfl⟩) tt_pre rfl rfl hl.1 rfl (lv_room (Nat.le_of_ble_eq_true rfl)) dX0_rotate_45 ⟨Nat.le_of_ble_eq_true rfl, Nat.le_of_ble_eq_true rfl⟩) ?_
      refine st_l (y := pkn (rotF (rw_ r a0 a1) b) (n + 1)) (rfl) ?_
      refine lv_lstore (lv' := [(5, .long (pkn (rotF (rw_ r a0 a1) b) (n + 1))), (0, .ref o0), (1, .int (iI ((r : Nat) : Int))), (2, .int (iI ((b : Nat) : Int))), (3, .long (pk (rw_ r a0 a1))), (7, .int (iI ((n : Nat) : Int)))]) hx hb dX0_rotate_48 hl (by decide) rfl (fun ls hl => ?_)
      refine lv_iinc (v := iI ((n + 1 : Nat) : Int)) (lv' := [(7, .int (iI ((n + 1 : Nat) : Int))), (5, .long (pkn (rotF (rw_ r a0 a1) b) (n + 1))), (0, .ref o0), (1, .int (iI ((r : Nat) : Int))), (2, .int (iI ((b : Nat) : Int))), (3, .long (pk (rw_ r a0 a1)))]) hx hb dX0_rotate_50 hl (k := 5) rfl (iI_inc (by omega)) (by decide) rfl (fun ls hl => ?_)
      refine lv_goto (tgt := 23) hx hb dX0_rotate_53 (by decide) ?_
      exact ih_23_1 (n + 1) (by omega)  _ (lv_sub hl [2, 3, 4, 5, 1, 0] rfl)
  exact lp_23_1 12 0 (by omega)  _ (lv_sub hl [3, 4, 5, 2, 1, 0] rfl)

set_option maxHeartbeats 4000000 in
set_option maxRecDepth 100000 in
theorem mX0_tone_ok (l : Launch) (dC : Nat → ClassId) (dI : Nat → Nat → Nat) (o0 : Nat) (a0 a1 q : Nat → Nat) (w : Nat) (hp0 : Pm a0) (hp1 : Pm a1) (hw : w ≤ 12) (hq : ∀ i, i < w → q i < 12) (hqd : ∀ i j, i < w → j < w → q i = q j → i = j) (r i : Nat) (hr9 : r < 2) (hi : i < 12) : rd l yX0_tone wsX0_tone { frames := 1, cells := 0, slots := 0, locals := 22 } [.ref o0, .int (iI ((r : Nat) : Int)), .int (iI ((i : Nat) : Int))] (bW (dC, dI) [(o0, .inr (0, [.long (pk a0), .long (pk a1), .long (pkn q w), .int (iI ((w : Nat) : Int))]))] []) (some (.int (iI ((rw_ r a0 a1 i : Nat) : Int)))) := by
  refine Met.ofW (cc := cX0_tone) (maxL := 3) (ret := (some .int)) (by decide) rfl ?_
  intro P0 e s m args below meth c s₁ B hml hv
  obtain ⟨rfl, hP, hK⟩ := hv
  have hx := B.exec
  have hb := B.bytes
  have hr := B.returns
  have hts := atoms_spec (ws := wsX0_tone) B.pre
  have hown : s.vm.findClass RX0 = some m.cls := findClass_of_methodNamed B.named
  have hlocks := B.notSynchronized
  have hl := lv_entry ([.ref o0, .int (iI ((r : Nat) : Int)), .int (iI ((i : Nat) : Int))]) (n := 3) (Nat.le_of_ble_eq_true rfl)
  rw [lg_entry_eq]
  generalize (lg_sl ([.ref o0, .int (iI ((r : Nat) : Int)), .int (iI ((i : Nat) : Int))]) ++ List.replicate (3 - (lg_sl ([.ref o0, .int (iI ((r : Nat) : Int)), .int (iI ((i : Nat) : Int))])).length) Slot.unset).toArray = ls at hl ⊢
  have hl : lv_has ls 3 [(0, .ref o0), (1, .int (iI ((r : Nat) : Int))), (2, .int (iI ((i : Nat) : Int)))] := hl
  have hR := rw_Pm hp0 hp1 r
  have hR1 := hR.1
  refine lv_iload_n hx hb dX0_tone_0 rfl (lv_at hl 1 rfl) ?_
  refine rd_call (va_runS (As := [.int (iI ((r : Nat) : Int))]) (rest := []) ⟨hx, hb, hml, hown, hts⟩ (mX0_requireRow l ((r : Nat) : Int) ⟨by omega, by omega⟩ (by omega)) (va_cwS 1 hts gX0_tone_X0_requireRow rfl rfl rfl hdX0_requireRow ⟨Nat.le_of_ble_eq_true rfl, Nat.le_of_ble_eq_true rfl⟩) tt_pre rfl rfl hl.1 rfl (lv_room (Nat.le_of_ble_eq_true rfl)) dX0_tone_1 ⟨Nat.le_of_ble_eq_true rfl, Nat.le_of_ble_eq_true rfl⟩) ?_
  refine lv_iload_n hx hb dX0_tone_4 rfl (lv_at hl 2 rfl) ?_
  refine ib_bi hx hb dX0_tone_5 (by decide) ?_
  refine rd_call (va_runS (As := [.int (iI ((i : Nat) : Int)), .int (iI 11)]) (rest := []) ⟨hx, hb, hml, hown, hts⟩ (mX0_requirePlace l ((i : Nat) : Int) 11 ⟨by omega, by omega⟩ ⟨by omega, by omega⟩ (by omega)) (va_cwS 2 hts gX0_tone_X0_requirePlace rfl rfl rfl hdX0_requirePlace ⟨Nat.le_of_ble_eq_true rfl, Nat.le_of_ble_eq_true rfl⟩) tt_pre rfl rfl hl.1 rfl (lv_room (Nat.le_of_ble_eq_true rfl)) dX0_tone_7 ⟨Nat.le_of_ble_eq_true rfl, Nat.le_of_ble_eq_true rfl⟩) ?_
  refine lv_aload_n hx hb dX0_tone_10 rfl (lv_at hl 0 rfl) ?_
  refine lv_iload_n hx hb dX0_tone_11 rfl (lv_at hl 1 rfl) ?_
  refine rd_call (va_runV (As := [.int (iI ((r : Nat) : Int))]) (rest := []) ⟨hx, hb, hml, hown, hts⟩ (mX0_rowAt l dC dI o0 a0 a1 q w hp0 hp1 hw hq hqd r (by omega)) (cwV 1 hts gX0_tone_X0_rowAt rfl rfl rfl hvX0_rowAt ⟨Nat.le_of_ble_eq_true rfl, Nat.le_of_ble_eq_true rfl⟩) (bW_pre (ci := 0) (q0 := 0) hK hP rfl rfl rfl) rfl rfl hl.1 rfl (lv_room (Nat.le_of_ble_eq_true rfl)) dX0_tone_12 ⟨Nat.le_of_ble_eq_true rfl, Nat.le_of_ble_eq_true rfl⟩) ?_
  refine lv_iload_n hx hb dX0_tone_15 rfl (lv_at hl 2 rfl) ?_
  refine rd_call (va_runS (As := [.long (pk (rw_ r a0 a1)), .int (iI ((i : Nat) : Int))]) (rest := []) ⟨hx, hb, hml, hown, hts⟩ (mX0_entryAt l (pk (rw_ r a0 a1)) i (by omega)) (va_cwS 2 hts gX0_tone_X0_entryAt rfl rfl rfl hdX0_entryAt ⟨Nat.le_of_ble_eq_true rfl, Nat.le_of_ble_eq_true rfl⟩) tt_pre rfl rfl hl.1 rfl (lv_room (Nat.le_of_ble_eq_true rfl)) dX0_tone_16 ⟨Nat.le_of_ble_eq_true rfl, Nat.le_of_ble_eq_true rfl⟩) ?_
  have he_16 := ent_lt (pk (rw_ r a0 a1)) i
  refine st_i (y := iI ((rw_ r a0 a1 i : Nat) : Int)) (congrArg (fun z : Nat => iI ((z : Nat) : Int)) (ent_pk hR1 hi)) ?_
  exact W.iret hx hb hr (fun t ht _ => ⟨rfl, ht⟩) (fun _ h => nomatch h) dX0_tone_19
