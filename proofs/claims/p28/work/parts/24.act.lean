theorem act_out : ∀ v : Nat, v < 13 → 8 ≤ v → 7 < (iI ((v : Nat) : Int)).toInt := fun v h1 h2 => by
  rw [iI_toInt ⟨by omega, by omega⟩]
  omega

set_option maxHeartbeats 4000000 in
set_option maxRecDepth 100000 in
theorem act_1_0 (l : Launch) (hfl : l.stackTraces = false) (dC : Nat → ClassId) (dI : Nat → Nat → Nat) (o0 : Nat) (a0 a1 q : Nat → Nat) (w : Nat) (hp0 : Pm a0) (hp1 : Pm a1) (hw : w ≤ 12) (hq : ∀ i, i < w → q i < 12) (hqd : ∀ i j, i < w → j < w → q i = q j → i = j) (x : Int32) (ho : lo (x >>> ((iI 24) &&& 31)) 10 = 0) (hv9 : lo x 13 = 0)  (v : Int) (b0 b1 q' : Nat → Nat) (w' : Nat) (hM : ax l yL_take wsL_take { frames := 9, cells := 1, slots := 6, locals := 149 } [Value.ref o0, .int (iI ((lo (x >>> ((iI 3) &&& 31)) 3 : Nat) : Int)), .int (iI ((lo (x >>> ((iI 15) &&& 31)) 5 : Nat) : Int)), .int (iI ((lo (x >>> ((iI 7) &&& 31)) 13 : Nat) : Int)), .int (iI ((lo (x >>> ((iI 18) &&& 31)) 3 : Nat) : Int))] (dC, dI) (oW o0 a0 a1 q w) (oW o0 b0 b1 q' w') (some (.int (iI v)))) : ax l yL_act wsL_act { frames := 10, cells := 1, slots := 6, locals := 174 } [.ref o0, .int x] (dC, dI) [(o0, .inr (0, [.long (pk a0), .long (pk a1), .long (pkn q w), .int (iI ((w : Nat) : Int))]))] [(o0, .inr (0, [.long (pk b0), .long (pk b1), .long (pkn (q') (w')), .int (iI ((w' : Nat) : Int))]))] (some (.int (iI v))) := by
  refine Met.ofW (cc := cL_act) (maxL := 6) (ret := (some .int)) (by decide) rfl ?_
  intro P0 e s m args below meth c s₁ B hml hv
  obtain ⟨rfl, hP, hK, hD0, hG, hN⟩ := hv
  have hx := B.exec
  have hb := B.bytes
  have hr := B.returns
  have hts := atoms_spec (ws := wsL_act) B.pre
  have hown : s.vm.findClass RL = some m.cls := findClass_of_methodNamed B.named
  have hlocks := B.notSynchronized
  have hD : va_D (inW [(o0, .inr (0, [.long (pk a0), .long (pk a1), .long (pkn q w), .int (iI ((w : Nat) : Int))]))]) [(o0, .inr (0, [.long (pk a0), .long (pk a1), .long (pkn q w), .int (iI ((w : Nat) : Int))]))] := va_D_in hD0
  have hS : va_S (inW [(o0, .inr (0, [.long (pk a0), .long (pk a1), .long (pkn q w), .int (iI ((w : Nat) : Int))]))]) s.heap s.heap [] := va_S.rf
  have hl := lv_entry ([.ref o0, .int x]) (n := 6) (Nat.le_of_ble_eq_true rfl)
  rw [lg_entry_eq]
  generalize (lg_sl ([.ref o0, .int x]) ++ List.replicate (6 - (lg_sl ([.ref o0, .int x])).length) Slot.unset).toArray = ls at hl ⊢
  have hl : lv_has ls 6 [(0, .ref o0), (1, .int x)] := hl
  refine lv_iload_n hx hb dL_act_0 rfl (lv_at hl 1 rfl) ?_
  refine ib_bi hx hb dL_act_1 (by decide) ?_
  refine lv_ishr hx hb dL_act_3 ?_
  refine ib_bi hx hb dL_act_4 (by decide) ?_
  refine rd_call (va_runS (As := [.int (x >>> ((iI 24) &&& 31)), .int (iI 10)]) (rest := []) ⟨hx, hb, hml, hown, hts⟩ (mL_low l (x >>> ((iI 24) &&& 31)) 10 (by omega) (by omega)) (va_cwS 2 hts gL_act_L_low rfl rfl rfl hdL_low ⟨Nat.le_of_ble_eq_true rfl, Nat.le_of_ble_eq_true rfl⟩) tt_pre rfl rfl hl.1 rfl (lv_room (Nat.le_of_ble_eq_true rfl)) dL_act_6 ⟨Nat.le_of_ble_eq_true rfl, Nat.le_of_ble_eq_true rfl⟩) ?_
  have hlo_6 := lo_lt (x >>> ((iI 24) &&& 31)) (n := 10) (by omega)
  refine ib_if_ne (tgt := 16) hx hb dL_act_9 (by decide) ⟨by omega, by omega⟩ (fun c_9 => absurd c_9 (by omega)) (fun c_9 => ?_)
  refine ib_const hx hb dL_act_12 ?_
  refine lv_goto (tgt := 17) hx hb dL_act_13 (by decide) ?_
  refine lv_istore_n (lv' := [(2, .int (iI 1)), (0, .ref o0), (1, .int x)]) hx hb dL_act_17 rfl hl (by decide) rfl (fun ls hl => ?_)
  refine lv_iload_n hx hb dL_act_18 rfl (lv_at hl 2 rfl) ?_
  refine ib_const hx hb dL_act_19 ?_
  refine lv_ishr hx hb dL_act_20 ?_
  refine ib_const hx hb dL_act_21 ?_
  refine lv_iload_n hx hb dL_act_22 rfl (lv_at hl 0 rfl) ?_
  refine ib_add (z := 3) hx hb dL_act_23 (by omega) ?_
  refine rd_call (va_runS (As := [.int (x >>> ((iI 3) &&& 31)), .int (iI 3)]) (rest := []) ⟨hx, hb, hml, hown, hts⟩ (mL_low l (x >>> ((iI 3) &&& 31)) 3 (by omega) (by omega)) (va_cwS 2 hts gL_act_L_low rfl rfl rfl hdL_low ⟨Nat.le_of_ble_eq_true rfl, Nat.le_of_ble_eq_true rfl⟩) tt_pre rfl rfl hl.1 rfl (lv_room (Nat.le_of_ble_eq_true rfl)) dL_act_24 ⟨Nat.le_of_ble_eq_true rfl, Nat.le_of_ble_eq_true rfl⟩) ?_
  have hlo_24 := lo_lt (x >>> ((iI 3) &&& 31)) (n := 3) (by omega)
  refine lv_istore_n (lv' := [(3, .int (iI ((lo (x >>> ((iI 3) &&& 31)) 3 : Nat) : Int))), (2, .int (iI 1)), (0, .ref o0), (1, .int x)]) hx hb dL_act_27 rfl hl (by decide) rfl (fun ls hl => ?_)
  refine lv_iload_n hx hb dL_act_28 rfl (lv_at hl 3 rfl) ?_
  refine ib_bi hx hb dL_act_29 (by decide) ?_
  refine lv_ishr hx hb dL_act_31 ?_
  refine ib_bi hx hb dL_act_32 (by decide) ?_
  refine lv_iload_n hx hb dL_act_34 rfl (lv_at hl 1 rfl) ?_
  refine ib_add (z := 13) hx hb dL_act_35 (by omega) ?_
  refine rd_call (va_runS (As := [.int (x >>> ((iI 7) &&& 31)), .int (iI 13)]) (rest := []) ⟨hx, hb, hml, hown, hts⟩ (mL_low l (x >>> ((iI 7) &&& 31)) 13 (by omega) (by omega)) (va_cwS 2 hts gL_act_L_low rfl rfl rfl hdL_low ⟨Nat.le_of_ble_eq_true rfl, Nat.le_of_ble_eq_true rfl⟩) tt_pre rfl rfl hl.1 rfl (lv_room (Nat.le_of_ble_eq_true rfl)) dL_act_36 ⟨Nat.le_of_ble_eq_true rfl, Nat.le_of_ble_eq_true rfl⟩) ?_
  have hlo_36 := lo_lt (x >>> ((iI 7) &&& 31)) (n := 13) (by omega)
  refine lv_istore (lv' := [(4, .int (iI ((lo (x >>> ((iI 7) &&& 31)) 13 : Nat) : Int))), (3, .int (iI ((lo (x >>> ((iI 3) &&& 31)) 3 : Nat) : Int))), (2, .int (iI 1)), (0, .ref o0), (1, .int x)]) hx hb dL_act_39 hl (by decide) rfl (fun ls hl => ?_)
  refine lv_iload_n hx hb dL_act_41 rfl (lv_at hl 4 rfl) ?_
  refine ib_bi hx hb dL_act_42 (by decide) ?_
  refine lv_ishr hx hb dL_act_44 ?_
  refine ib_bi hx hb dL_act_45 (by decide) ?_
  refine lv_iload_n hx hb dL_act_47 rfl (lv_at hl 2 rfl) ?_
  refine ib_add (z := 13) hx hb dL_act_48 (by omega) ?_
  refine rd_call (va_runS (As := [.int (x >>> ((iI 11) &&& 31)), .int (iI 13)]) (rest := []) ⟨hx, hb, hml, hown, hts⟩ (mL_low l (x >>> ((iI 11) &&& 31)) 13 (by omega) (by omega)) (va_cwS 2 hts gL_act_L_low rfl rfl rfl hdL_low ⟨Nat.le_of_ble_eq_true rfl, Nat.le_of_ble_eq_true rfl⟩) tt_pre rfl rfl hl.1 rfl (lv_room (Nat.le_of_ble_eq_true rfl)) dL_act_49 ⟨Nat.le_of_ble_eq_true rfl, Nat.le_of_ble_eq_true rfl⟩) ?_
  have hlo_49 := lo_lt (x >>> ((iI 11) &&& 31)) (n := 13) (by omega)
  refine lv_istore (lv' := [(5, .int (iI ((lo (x >>> ((iI 11) &&& 31)) 13 : Nat) : Int))), (4, .int (iI ((lo (x >>> ((iI 7) &&& 31)) 13 : Nat) : Int))), (3, .int (iI ((lo (x >>> ((iI 3) &&& 31)) 3 : Nat) : Int))), (2, .int (iI 1)), (0, .ref o0), (1, .int x)]) hx hb dL_act_52 hl (by decide) rfl (fun ls hl => ?_)
  refine lv_iload_n hx hb dL_act_54 rfl (lv_at hl 5 rfl) ?_
  refine ib_bi hx hb dL_act_55 (by decide) ?_
  refine rd_call (va_runS (As := [.int x, .int (iI 13)]) (rest := []) ⟨hx, hb, hml, hown, hts⟩ (mL_low l x 13 (by omega) (by omega)) (va_cwS 2 hts gL_act_L_low rfl rfl rfl hdL_low ⟨Nat.le_of_ble_eq_true rfl, Nat.le_of_ble_eq_true rfl⟩) tt_pre rfl rfl hl.1 rfl (lv_room (Nat.le_of_ble_eq_true rfl)) dL_act_57 ⟨Nat.le_of_ble_eq_true rfl, Nat.le_of_ble_eq_true rfl⟩) ?_
  have hlo_57 := lo_lt x (n := 13) (by omega)
  refine st_i (y := iI 0) (congrArg (fun z : Nat => iI ((z : Nat) : Int)) hv9) ?_
  refine lv_tableIn (off := 48) (tgt := 108) hx hb dL_act_60 (by decide) (by decide) (by decide) (by decide) ?_
  refine lv_aload_n hx hb dL_act_108 rfl (lv_at hl 4 rfl) ?_
  refine lv_iload_n hx hb dL_act_109 rfl (lv_at hl 2 rfl) ?_
  refine lv_iload_n hx hb dL_act_110 rfl (lv_at hl 5 rfl) ?_
  refine ib_bi hx hb dL_act_111 (by decide) ?_
  refine lv_ishr hx hb dL_act_113 ?_
  refine ib_const hx hb dL_act_114 ?_
  refine lv_iload_n hx hb dL_act_115 rfl (lv_at hl 3 rfl) ?_
  refine ib_add (z := 5) hx hb dL_act_116 (by omega) ?_
  refine rd_call (va_runS (As := [.int (x >>> ((iI 15) &&& 31)), .int (iI 5)]) (rest := [.int (iI ((lo (x >>> ((iI 3) &&& 31)) 3 : Nat) : Int)), .ref o0]) ⟨hx, hb, hml, hown, hts⟩ (mL_low l (x >>> ((iI 15) &&& 31)) 5 (by omega) (by omega)) (va_cwS 2 hts gL_act_L_low rfl rfl rfl hdL_low ⟨Nat.le_of_ble_eq_true rfl, Nat.le_of_ble_eq_true rfl⟩) tt_pre rfl rfl hl.1 rfl (lv_room (Nat.le_of_ble_eq_true rfl)) dL_act_117 ⟨Nat.le_of_ble_eq_true rfl, Nat.le_of_ble_eq_true rfl⟩) ?_
  have hlo_117 := lo_lt (x >>> ((iI 15) &&& 31)) (n := 5) (by omega)
  refine lv_iload hx hb dL_act_120 (lv_at hl 1 rfl) ?_
  refine lv_iload_n hx hb dL_act_122 rfl (lv_at hl 5 rfl) ?_
  refine ib_bi hx hb dL_act_123 (by decide) ?_
  refine lv_ishr hx hb dL_act_125 ?_
  refine ib_const hx hb dL_act_126 ?_
  refine lv_iload_n hx hb dL_act_127 rfl (lv_at hl 3 rfl) ?_
  refine ib_add (z := 3) hx hb dL_act_128 (by omega) ?_
  refine rd_call (va_runS (As := [.int (x >>> ((iI 18) &&& 31)), .int (iI 3)]) (rest := [.int (iI ((lo (x >>> ((iI 7) &&& 31)) 13 : Nat) : Int)), .int (iI ((lo (x >>> ((iI 15) &&& 31)) 5 : Nat) : Int)), .int (iI ((lo (x >>> ((iI 3) &&& 31)) 3 : Nat) : Int)), .ref o0]) ⟨hx, hb, hml, hown, hts⟩ (mL_low l (x >>> ((iI 18) &&& 31)) 3 (by omega) (by omega)) (va_cwS 2 hts gL_act_L_low rfl rfl rfl hdL_low ⟨Nat.le_of_ble_eq_true rfl, Nat.le_of_ble_eq_true rfl⟩) tt_pre rfl rfl hl.1 rfl (lv_room (Nat.le_of_ble_eq_true rfl)) dL_act_129 ⟨Nat.le_of_ble_eq_true rfl, Nat.le_of_ble_eq_true rfl⟩) ?_
  have hlo_129 := lo_lt (x >>> ((iI 18) &&& 31)) (n := 3) (by omega)
  refine ax_call (vx_runSW (As := [.ref o0, .int (iI ((lo (x >>> ((iI 3) &&& 31)) 3 : Nat) : Int)), .int (iI ((lo (x >>> ((iI 15) &&& 31)) 5 : Nat) : Int)), .int (iI ((lo (x >>> ((iI 7) &&& 31)) 13 : Nat) : Int)), .int (iI ((lo (x >>> ((iI 18) &&& 31)) 3 : Nat) : Int))]) (rest := []) ⟨hx, hb, hml, hown, hts⟩ hM (vx_cwSW 5 hts gL_act_L_take rfl rfl rfl hdL_take ⟨Nat.le_of_ble_eq_true rfl, Nat.le_of_ble_eq_true rfl⟩) (bZ_preS hK hP hD hG hN) rfl rfl hl.1 rfl (lv_room (Nat.le_of_ble_eq_true rfl)) dL_act_132 ⟨Nat.le_of_ble_eq_true rfl, Nat.le_of_ble_eq_true rfl⟩) hS (fun q9 h => h) (fun H locs hP hz hk hS => ?_)
  exact W.iret hx hb hr (fun t ht _ => ⟨rfl, by rw [ht]; exact hP, hS.F ht⟩) hS.2.2 dL_act_135

set_option maxHeartbeats 4000000 in
set_option maxRecDepth 100000 in
theorem act_1_1 (l : Launch) (hfl : l.stackTraces = false) (dC : Nat → ClassId) (dI : Nat → Nat → Nat) (o0 : Nat) (a0 a1 q : Nat → Nat) (w : Nat) (hp0 : Pm a0) (hp1 : Pm a1) (hw : w ≤ 12) (hq : ∀ i, i < w → q i < 12) (hqd : ∀ i j, i < w → j < w → q i = q j → i = j) (x : Int32) (ho : lo (x >>> ((iI 24) &&& 31)) 10 = 0) (hv9 : lo x 13 = 1)  (v : Int) (b0 b1 q' : Nat → Nat) (w' : Nat) (hM : ax l yL_take wsL_take { frames := 9, cells := 1, slots := 6, locals := 149 } [Value.ref o0, .int (iI ((lo (x >>> ((iI 3) &&& 31)) 3 : Nat) : Int)), .int (iI ((lo (x >>> ((iI 15) &&& 31)) 5 : Nat) : Int)), .int (iI ((lo (x >>> ((iI 7) &&& 31)) 13 : Nat) : Int)), .int (iI ((lo (x >>> ((iI 18) &&& 31)) 3 : Nat) : Int))] (dC, dI) (oW o0 a0 a1 q w) (oW o0 b0 b1 q' w') (some (.int (iI v)))) : ax l yL_act wsL_act { frames := 10, cells := 1, slots := 6, locals := 174 } [.ref o0, .int x] (dC, dI) [(o0, .inr (0, [.long (pk a0), .long (pk a1), .long (pkn q w), .int (iI ((w : Nat) : Int))]))] [(o0, .inr (0, [.long (pk b0), .long (pk b1), .long (pkn (q') (w')), .int (iI ((w' : Nat) : Int))]))] (some (.int (iI v))) := by
  refine Met.ofW (cc := cL_act) (maxL := 6) (ret := (some .int)) (by decide) rfl ?_
  intro P0 e s m args below meth c s₁ B hml hv
  obtain ⟨rfl, hP, hK, hD0, hG, hN⟩ := hv
  have hx := B.exec
  have hb := B.bytes
  have hr := B.returns
  have hts := atoms_spec (ws := wsL_act) B.pre
  have hown : s.vm.findClass RL = some m.cls := findClass_of_methodNamed B.named
  have hlocks := B.notSynchronized
  have hD : va_D (inW [(o0, .inr (0, [.long (pk a0), .long (pk a1), .long (pkn q w), .int (iI ((w : Nat) : Int))]))]) [(o0, .inr (0, [.long (pk a0), .long (pk a1), .long (pkn q w), .int (iI ((w : Nat) : Int))]))] := va_D_in hD0
  have hS : va_S (inW [(o0, .inr (0, [.long (pk a0), .long (pk a1), .long (pkn q w), .int (iI ((w : Nat) : Int))]))]) s.heap s.heap [] := va_S.rf
  have hl := lv_entry ([.ref o0, .int x]) (n := 6) (Nat.le_of_ble_eq_true rfl)
  rw [lg_entry_eq]
  generalize (lg_sl ([.ref o0, .int x]) ++ List.replicate (6 - (lg_sl ([.ref o0, .int x])).length) Slot.unset).toArray = ls at hl ⊢
  have hl : lv_has ls 6 [(0, .ref o0), (1, .int x)] := hl
  refine lv_iload_n hx hb dL_act_0 rfl (lv_at hl 1 rfl) ?_
  refine ib_bi hx hb dL_act_1 (by decide) ?_
  refine lv_ishr hx hb dL_act_3 ?_
  refine ib_bi hx hb dL_act_4 (by decide) ?_
  refine rd_call (va_runS (As := [.int (x >>> ((iI 24) &&& 31)), .int (iI 10)]) (rest := []) ⟨hx, hb, hml, hown, hts⟩ (mL_low l (x >>> ((iI 24) &&& 31)) 10 (by omega) (by omega)) (va_cwS 2 hts gL_act_L_low rfl rfl rfl hdL_low ⟨Nat.le_of_ble_eq_true rfl, Nat.le_of_ble_eq_true rfl⟩) tt_pre rfl rfl hl.1 rfl (lv_room (Nat.le_of_ble_eq_true rfl)) dL_act_6 ⟨Nat.le_of_ble_eq_true rfl, Nat.le_of_ble_eq_true rfl⟩) ?_
  have hlo_6 := lo_lt (x >>> ((iI 24) &&& 31)) (n := 10) (by omega)
  refine ib_if_ne (tgt := 16) hx hb dL_act_9 (by decide) ⟨by omega, by omega⟩ (fun c_9 => absurd c_9 (by omega)) (fun c_9 => ?_)
  refine ib_const hx hb dL_act_12 ?_
  refine lv_goto (tgt := 17) hx hb dL_act_13 (by decide) ?_
  refine lv_istore_n (lv' := [(2, .int (iI 1)), (0, .ref o0), (1, .int x)]) hx hb dL_act_17 rfl hl (by decide) rfl (fun ls hl => ?_)
  refine lv_iload_n hx hb dL_act_18 rfl (lv_at hl 2 rfl) ?_
  refine ib_const hx hb dL_act_19 ?_
  refine lv_ishr hx hb dL_act_20 ?_
  refine ib_const hx hb dL_act_21 ?_
  refine lv_iload_n hx hb dL_act_22 rfl (lv_at hl 0 rfl) ?_
  refine ib_add (z := 3) hx hb dL_act_23 (by omega) ?_
  refine rd_call (va_runS (As := [.int (x >>> ((iI 3) &&& 31)), .int (iI 3)]) (rest := []) ⟨hx, hb, hml, hown, hts⟩ (mL_low l (x >>> ((iI 3) &&& 31)) 3 (by omega) (by omega)) (va_cwS 2 hts gL_act_L_low rfl rfl rfl hdL_low ⟨Nat.le_of_ble_eq_true rfl, Nat.le_of_ble_eq_true rfl⟩) tt_pre rfl rfl hl.1 rfl (lv_room (Nat.le_of_ble_eq_true rfl)) dL_act_24 ⟨Nat.le_of_ble_eq_true rfl, Nat.le_of_ble_eq_true rfl⟩) ?_
  have hlo_24 := lo_lt (x >>> ((iI 3) &&& 31)) (n := 3) (by omega)
  refine lv_istore_n (lv' := [(3, .int (iI ((lo (x >>> ((iI 3) &&& 31)) 3 : Nat) : Int))), (2, .int (iI 1)), (0, .ref o0), (1, .int x)]) hx hb dL_act_27 rfl hl (by decide) rfl (fun ls hl => ?_)
  refine lv_iload_n hx hb dL_act_28 rfl (lv_at hl 3 rfl) ?_
  refine ib_bi hx hb dL_act_29 (by decide) ?_
  refine lv_ishr hx hb dL_act_31 ?_
  refine ib_bi hx hb dL_act_32 (by decide) ?_
  refine lv_iload_n hx hb dL_act_34 rfl (lv_at hl 1 rfl) ?_
  refine ib_add (z := 13) hx hb dL_act_35 (by omega) ?_
  refine rd_call (va_runS (As := [.int (x >>> ((iI 7) &&& 31)), .int (iI 13)]) (rest := []) ⟨hx, hb, hml, hown, hts⟩ (mL_low l (x >>> ((iI 7) &&& 31)) 13 (by omega) (by omega)) (va_cwS 2 hts gL_act_L_low rfl rfl rfl hdL_low ⟨Nat.le_of_ble_eq_true rfl, Nat.le_of_ble_eq_true rfl⟩) tt_pre rfl rfl hl.1 rfl (lv_room (Nat.le_of_ble_eq_true rfl)) dL_act_36 ⟨Nat.le_of_ble_eq_true rfl, Nat.le_of_ble_eq_true rfl⟩) ?_
  have hlo_36 := lo_lt (x >>> ((iI 7) &&& 31)) (n := 13) (by omega)
  refine lv_istore (lv' := [(4, .int (iI ((lo (x >>> ((iI 7) &&& 31)) 13 : Nat) : Int))), (3, .int (iI ((lo (x >>> ((iI 3) &&& 31)) 3 : Nat) : Int))), (2, .int (iI 1)), (0, .ref o0), (1, .int x)]) hx hb dL_act_39 hl (by decide) rfl (fun ls hl => ?_)
  refine lv_iload_n hx hb dL_act_41 rfl (lv_at hl 4 rfl) ?_
  refine ib_bi hx hb dL_act_42 (by decide) ?_
  refine lv_ishr hx hb dL_act_44 ?_
  refine ib_bi hx hb dL_act_45 (by decide) ?_
  refine lv_iload_n hx hb dL_act_47 rfl (lv_at hl 2 rfl) ?_
  refine ib_add (z := 13) hx hb dL_act_48 (by omega) ?_
  refine rd_call (va_runS (As := [.int (x >>> ((iI 11) &&& 31)), .int (iI 13)]) (rest := []) ⟨hx, hb, hml, hown, hts⟩ (mL_low l (x >>> ((iI 11) &&& 31)) 13 (by omega) (by omega)) (va_cwS 2 hts gL_act_L_low rfl rfl rfl hdL_low ⟨Nat.le_of_ble_eq_true rfl, Nat.le_of_ble_eq_true rfl⟩) tt_pre rfl rfl hl.1 rfl (lv_room (Nat.le_of_ble_eq_true rfl)) dL_act_49 ⟨Nat.le_of_ble_eq_true rfl, Nat.le_of_ble_eq_true rfl⟩) ?_
  have hlo_49 := lo_lt (x >>> ((iI 11) &&& 31)) (n := 13) (by omega)
  refine lv_istore (lv' := [(5, .int (iI ((lo (x >>> ((iI 11) &&& 31)) 13 : Nat) : Int))), (4, .int (iI ((lo (x >>> ((iI 7) &&& 31)) 13 : Nat) : Int))), (3, .int (iI ((lo (x >>> ((iI 3) &&& 31)) 3 : Nat) : Int))), (2, .int (iI 1)), (0, .ref o0), (1, .int x)]) hx hb dL_act_52 hl (by decide) rfl (fun ls hl => ?_)
  refine lv_iload_n hx hb dL_act_54 rfl (lv_at hl 5 rfl) ?_
  refine ib_bi hx hb dL_act_55 (by decide) ?_
  refine rd_call (va_runS (As := [.int x, .int (iI 13)]) (rest := []) ⟨hx, hb, hml, hown, hts⟩ (mL_low l x 13 (by omega) (by omega)) (va_cwS 2 hts gL_act_L_low rfl rfl rfl hdL_low ⟨Nat.le_of_ble_eq_true rfl, Nat.le_of_ble_eq_true rfl⟩) tt_pre rfl rfl hl.1 rfl (lv_room (Nat.le_of_ble_eq_true rfl)) dL_act_57 ⟨Nat.le_of_ble_eq_true rfl, Nat.le_of_ble_eq_true rfl⟩) ?_
  have hlo_57 := lo_lt x (n := 13) (by omega)
  refine st_i (y := iI 1) (congrArg (fun z : Nat => iI ((z : Nat) : Int)) hv9) ?_
  refine lv_tableIn (off := 48) (tgt := 108) hx hb dL_act_60 (by decide) (by decide) (by decide) (by decide) ?_
  refine lv_aload_n hx hb dL_act_108 rfl (lv_at hl 4 rfl) ?_
  refine lv_iload_n hx hb dL_act_109 rfl (lv_at hl 2 rfl) ?_
  refine lv_iload_n hx hb dL_act_110 rfl (lv_at hl 5 rfl) ?_
  refine ib_bi hx hb dL_act_111 (by decide) ?_
  refine lv_ishr hx hb dL_act_113 ?_
  refine ib_const hx hb dL_act_114 ?_
  refine lv_iload_n hx hb dL_act_115 rfl (lv_at hl 3 rfl) ?_
  refine ib_add (z := 5) hx hb dL_act_116 (by omega) ?_
  refine rd_call (va_runS (As := [.int (x >>> ((iI 15) &&& 31)), .int (iI 5)]) (rest := [.int (iI ((lo (x >>> ((iI 3) &&& 31)) 3 : Nat) : Int)), .ref o0]) ⟨hx, hb, hml, hown, hts⟩ (mL_low l (x >>> ((iI 15) &&& 31)) 5 (by omega) (by omega)) (va_cwS 2 hts gL_act_L_low rfl rfl rfl hdL_low ⟨Nat.le_of_ble_eq_true rfl, Nat.le_of_ble_eq_true rfl⟩) tt_pre rfl rfl hl.1 rfl (lv_room (Nat.le_of_ble_eq_true rfl)) dL_act_117 ⟨Nat.le_of_ble_eq_true rfl, Nat.le_of_ble_eq_true rfl⟩) ?_
  have hlo_117 := lo_lt (x >>> ((iI 15) &&& 31)) (n := 5) (by omega)
  refine lv_iload hx hb dL_act_120 (lv_at hl 1 rfl) ?_
  refine lv_iload_n hx hb dL_act_122 rfl (lv_at hl 5 rfl) ?_
  refine ib_bi hx hb dL_act_123 (by decide) ?_
  refine lv_ishr hx hb dL_act_125 ?_
  refine ib_const hx hb dL_act_126 ?_
  refine lv_iload_n hx hb dL_act_127 rfl (lv_at hl 3 rfl) ?_
  refine ib_add (z := 3) hx hb dL_act_128 (by omega) ?_
  refine rd_call (va_runS (As := [.int (x >>> ((iI 18) &&& 31)), .int (iI 3)]) (rest := [.int (iI ((lo (x >>> ((iI 7) &&& 31)) 13 : Nat) : Int)), .int (iI ((lo (x >>> ((iI 15) &&& 31)) 5 : Nat) : Int)), .int (iI ((lo (x >>> ((iI 3) &&& 31)) 3 : Nat) : Int)), .ref o0]) ⟨hx, hb, hml, hown, hts⟩ (mL_low l (x >>> ((iI 18) &&& 31)) 3 (by omega) (by omega)) (va_cwS 2 hts gL_act_L_low rfl rfl rfl hdL_low ⟨Nat.le_of_ble_eq_true rfl, Nat.le_of_ble_eq_true rfl⟩) tt_pre rfl rfl hl.1 rfl (lv_room (Nat.le_of_ble_eq_true rfl)) dL_act_129 ⟨Nat.le_of_ble_eq_true rfl, Nat.le_of_ble_eq_true rfl⟩) ?_
  have hlo_129 := lo_lt (x >>> ((iI 18) &&& 31)) (n := 3) (by omega)
  refine ax_call (vx_runSW (As := [.ref o0, .int (iI ((lo (x >>> ((iI 3) &&& 31)) 3 : Nat) : Int)), .int (iI ((lo (x >>> ((iI 15) &&& 31)) 5 : Nat) : Int)), .int (iI ((lo (x >>> ((iI 7) &&& 31)) 13 : Nat) : Int)), .int (iI ((lo (x >>> ((iI 18) &&& 31)) 3 : Nat) : Int))]) (rest := []) ⟨hx, hb, hml, hown, hts⟩ hM (vx_cwSW 5 hts gL_act_L_take rfl rfl rfl hdL_take ⟨Nat.le_of_ble_eq_true rfl, Nat.le_of_ble_eq_true rfl⟩) (bZ_preS hK hP hD hG hN) rfl rfl hl.1 rfl (lv_room (Nat.le_of_ble_eq_true rfl)) dL_act_132 ⟨Nat.le_of_ble_eq_true rfl, Nat.le_of_ble_eq_true rfl⟩) hS (fun q9 h => h) (fun H locs hP hz hk hS => ?_)
  exact W.iret hx hb hr (fun t ht _ => ⟨rfl, by rw [ht]; exact hP, hS.F ht⟩) hS.2.2 dL_act_135

set_option maxHeartbeats 4000000 in
set_option maxRecDepth 100000 in
theorem act_1_2 (l : Launch) (hfl : l.stackTraces = false) (dC : Nat → ClassId) (dI : Nat → Nat → Nat) (o0 : Nat) (a0 a1 q : Nat → Nat) (w : Nat) (hp0 : Pm a0) (hp1 : Pm a1) (hw : w ≤ 12) (hq : ∀ i, i < w → q i < 12) (hqd : ∀ i j, i < w → j < w → q i = q j → i = j) (x : Int32) (ho : lo (x >>> ((iI 24) &&& 31)) 10 = 0) (hv9 : lo x 13 = 2)  (v : Int) (b0 b1 q' : Nat → Nat) (w' : Nat) (hM : ax l yL_multiply wsL_multiply { frames := 8, cells := 1, slots := 6, locals := 129 } [Value.ref o0, .int (iI ((lo (x >>> ((iI 3) &&& 31)) 3 : Nat) : Int)), .int (iI ((lo (x >>> ((iI 9) &&& 31)) 13 : Nat) : Int))] (dC, dI) (oW o0 a0 a1 q w) (oW o0 b0 b1 q' w') (some (.int (iI v)))) : ax l yL_act wsL_act { frames := 10, cells := 1, slots := 6, locals := 174 } [.ref o0, .int x] (dC, dI) [(o0, .inr (0, [.long (pk a0), .long (pk a1), .long (pkn q w), .int (iI ((w : Nat) : Int))]))] [(o0, .inr (0, [.long (pk b0), .long (pk b1), .long (pkn (q') (w')), .int (iI ((w' : Nat) : Int))]))] (some (.int (iI v))) := by
  refine Met.ofW (cc := cL_act) (maxL := 6) (ret := (some .int)) (by decide) rfl ?_
  intro P0 e s m args below meth c s₁ B hml hv
  obtain ⟨rfl, hP, hK, hD0, hG, hN⟩ := hv
  have hx := B.exec
  have hb := B.bytes
  have hr := B.returns
  have hts := atoms_spec (ws := wsL_act) B.pre
  have hown : s.vm.findClass RL = some m.cls := findClass_of_methodNamed B.named
  have hlocks := B.notSynchronized
  have hD : va_D (inW [(o0, .inr (0, [.long (pk a0), .long (pk a1), .long (pkn q w), .int (iI ((w : Nat) : Int))]))]) [(o0, .inr (0, [.long (pk a0), .long (pk a1), .long (pkn q w), .int (iI ((w : Nat) : Int))]))] := va_D_in hD0
  have hS : va_S (inW [(o0, .inr (0, [.long (pk a0), .long (pk a1), .long (pkn q w), .int (iI ((w : Nat) : Int))]))]) s.heap s.heap [] := va_S.rf
  have hl := lv_entry ([.ref o0, .int x]) (n := 6) (Nat.le_of_ble_eq_true rfl)
  rw [lg_entry_eq]
  generalize (lg_sl ([.ref o0, .int x]) ++ List.replicate (6 - (lg_sl ([.ref o0, .int x])).length) Slot.unset).toArray = ls at hl ⊢
  have hl : lv_has ls 6 [(0, .ref o0), (1, .int x)] := hl
  refine lv_iload_n hx hb dL_act_0 rfl (lv_at hl 1 rfl) ?_
  refine ib_bi hx hb dL_act_1 (by decide) ?_
  refine lv_ishr hx hb dL_act_3 ?_
  refine ib_bi hx hb dL_act_4 (by decide) ?_
  refine rd_call (va_runS (As := [.int (x >>> ((iI 24) &&& 31)), .int (iI 10)]) (rest := []) ⟨hx, hb, hml, hown, hts⟩ (mL_low l (x >>> ((iI 24) &&& 31)) 10 (by omega) (by omega)) (va_cwS 2 hts gL_act_L_low rfl rfl rfl hdL_low ⟨Nat.le_of_ble_eq_true rfl, Nat.le_of_ble_eq_true rfl⟩) tt_pre rfl rfl hl.1 rfl (lv_room (Nat.le_of_ble_eq_true rfl)) dL_act_6 ⟨Nat.le_of_ble_eq_true rfl, Nat.le_of_ble_eq_true rfl⟩) ?_
  have hlo_6 := lo_lt (x >>> ((iI 24) &&& 31)) (n := 10) (by omega)
  refine ib_if_ne (tgt := 16) hx hb dL_act_9 (by decide) ⟨by omega, by omega⟩ (fun c_9 => absurd c_9 (by omega)) (fun c_9 => ?_)
  refine ib_const hx hb dL_act_12 ?_
  refine lv_goto (tgt := 17) hx hb dL_act_13 (by decide) ?_
  refine lv_istore_n (lv' := [(2, .int (iI 1)), (0, .ref o0), (1, .int x)]) hx hb dL_act_17 rfl hl (by decide) rfl (fun ls hl => ?_)
  refine lv_iload_n hx hb dL_act_18 rfl (lv_at hl 2 rfl) ?_
  refine ib_const hx hb dL_act_19 ?_
  refine lv_ishr hx hb dL_act_20 ?_
  refine ib_const hx hb dL_act_21 ?_
  refine lv_iload_n hx hb dL_act_22 rfl (lv_at hl 0 rfl) ?_
  refine ib_add (z := 3) hx hb dL_act_23 (by omega) ?_
  refine rd_call (va_runS (As := [.int (x >>> ((iI 3) &&& 31)), .int (iI 3)]) (rest := []) ⟨hx, hb, hml, hown, hts⟩ (mL_low l (x >>> ((iI 3) &&& 31)) 3 (by omega) (by omega)) (va_cwS 2 hts gL_act_L_low rfl rfl rfl hdL_low ⟨Nat.le_of_ble_eq_true rfl, Nat.le_of_ble_eq_true rfl⟩) tt_pre rfl rfl hl.1 rfl (lv_room (Nat.le_of_ble_eq_true rfl)) dL_act_24 ⟨Nat.le_of_ble_eq_true rfl, Nat.le_of_ble_eq_true rfl⟩) ?_
  have hlo_24 := lo_lt (x >>> ((iI 3) &&& 31)) (n := 3) (by omega)
  refine lv_istore_n (lv' := [(3, .int (iI ((lo (x >>> ((iI 3) &&& 31)) 3 : Nat) : Int))), (2, .int (iI 1)), (0, .ref o0), (1, .int x)]) hx hb dL_act_27 rfl hl (by decide) rfl (fun ls hl => ?_)
  refine lv_iload_n hx hb dL_act_28 rfl (lv_at hl 3 rfl) ?_
  refine ib_bi hx hb dL_act_29 (by decide) ?_
  refine lv_ishr hx hb dL_act_31 ?_
  refine ib_bi hx hb dL_act_32 (by decide) ?_
  refine lv_iload_n hx hb dL_act_34 rfl (lv_at hl 1 rfl) ?_
  refine ib_add (z := 13) hx hb dL_act_35 (by omega) ?_
  refine rd_call (va_runS (As := [.int (x >>> ((iI 7) &&& 31)), .int (iI 13)]) (rest := []) ⟨hx, hb, hml, hown, hts⟩ (mL_low l (x >>> ((iI 7) &&& 31)) 13 (by omega) (by omega)) (va_cwS 2 hts gL_act_L_low rfl rfl rfl hdL_low ⟨Nat.le_of_ble_eq_true rfl, Nat.le_of_ble_eq_true rfl⟩) tt_pre rfl rfl hl.1 rfl (lv_room (Nat.le_of_ble_eq_true rfl)) dL_act_36 ⟨Nat.le_of_ble_eq_true rfl, Nat.le_of_ble_eq_true rfl⟩) ?_
  have hlo_36 := lo_lt (x >>> ((iI 7) &&& 31)) (n := 13) (by omega)
  refine lv_istore (lv' := [(4, .int (iI ((lo (x >>> ((iI 7) &&& 31)) 13 : Nat) : Int))), (3, .int (iI ((lo (x >>> ((iI 3) &&& 31)) 3 : Nat) : Int))), (2, .int (iI 1)), (0, .ref o0), (1, .int x)]) hx hb dL_act_39 hl (by decide) rfl (fun ls hl => ?_)
  refine lv_iload_n hx hb dL_act_41 rfl (lv_at hl 4 rfl) ?_
  refine ib_bi hx hb dL_act_42 (by decide) ?_
  refine lv_ishr hx hb dL_act_44 ?_
  refine ib_bi hx hb dL_act_45 (by decide) ?_
  refine lv_iload_n hx hb dL_act_47 rfl (lv_at hl 2 rfl) ?_
  refine ib_add (z := 13) hx hb dL_act_48 (by omega) ?_
  refine rd_call (va_runS (As := [.int (x >>> ((iI 11) &&& 31)), .int (iI 13)]) (rest := []) ⟨hx, hb, hml, hown, hts⟩ (mL_low l (x >>> ((iI 11) &&& 31)) 13 (by omega) (by omega)) (va_cwS 2 hts gL_act_L_low rfl rfl rfl hdL_low ⟨Nat.le_of_ble_eq_true rfl, Nat.le_of_ble_eq_true rfl⟩) tt_pre rfl rfl hl.1 rfl (lv_room (Nat.le_of_ble_eq_true rfl)) dL_act_49 ⟨Nat.le_of_ble_eq_true rfl, Nat.le_of_ble_eq_true rfl⟩) ?_
  have hlo_49 := lo_lt (x >>> ((iI 11) &&& 31)) (n := 13) (by omega)
  refine lv_istore (lv' := [(5, .int (iI ((lo (x >>> ((iI 11) &&& 31)) 13 : Nat) : Int))), (4, .int (iI ((lo (x >>> ((iI 7) &&& 31)) 13 : Nat) : Int))), (3, .int (iI ((lo (x >>> ((iI 3) &&& 31)) 3 : Nat) : Int))), (2, .int (iI 1)), (0, .ref o0), (1, .int x)]) hx hb dL_act_52 hl (by decide) rfl (fun ls hl => ?_)
  refine lv_iload_n hx hb dL_act_54 rfl (lv_at hl 5 rfl) ?_
  refine ib_bi hx hb dL_act_55 (by decide) ?_
  refine rd_call (va_runS (As := [.int x, .int (iI 13)]) (rest := []) ⟨hx, hb, hml, hown, hts⟩ (mL_low l x 13 (by omega) (by omega)) (va_cwS 2 hts gL_act_L_low rfl rfl rfl hdL_low ⟨Nat.le_of_ble_eq_true rfl, Nat.le_of_ble_eq_true rfl⟩) tt_pre rfl rfl hl.1 rfl (lv_room (Nat.le_of_ble_eq_true rfl)) dL_act_57 ⟨Nat.le_of_ble_eq_true rfl, Nat.le_of_ble_eq_true rfl⟩) ?_
  have hlo_57 := lo_lt x (n := 13) (by omega)
  refine st_i (y := iI 2) (congrArg (fun z : Nat => iI ((z : Nat) : Int)) hv9) ?_
  refine lv_tableIn (off := 76) (tgt := 136) hx hb dL_act_60 (by decide) (by decide) (by decide) (by decide) ?_
  refine lv_aload_n hx hb dL_act_136 rfl (lv_at hl 4 rfl) ?_
  refine lv_iload_n hx hb dL_act_137 rfl (lv_at hl 2 rfl) ?_
  refine lv_iload_n hx hb dL_act_138 rfl (lv_at hl 3 rfl) ?_
  refine ib_const hx hb dL_act_139 ?_
  refine ib_icmp_ne (tgt := 155) hx hb dL_act_140 (by decide) ⟨by omega, by omega⟩ ⟨by omega, by omega⟩ (fun c_140 => absurd c_140 (by decide)) (fun c_140 => ?_)
  refine lv_iload_n hx hb dL_act_143 rfl (lv_at hl 5 rfl) ?_
  refine ib_bi hx hb dL_act_144 (by decide) ?_
  refine lv_ishr hx hb dL_act_146 ?_
  refine ib_bi hx hb dL_act_147 (by decide) ?_
  refine rd_call (va_runS (As := [.int (x >>> ((iI 9) &&& 31)), .int (iI 13)]) (rest := [.int (iI ((lo (x >>> ((iI 3) &&& 31)) 3 : Nat) : Int)), .ref o0]) ⟨hx, hb, hml, hown, hts⟩ (mL_low l (x >>> ((iI 9) &&& 31)) 13 (by omega) (by omega)) (va_cwS 2 hts gL_act_L_low rfl rfl rfl hdL_low ⟨Nat.le_of_ble_eq_true rfl, Nat.le_of_ble_eq_true rfl⟩) tt_pre rfl rfl hl.1 rfl (lv_room (Nat.le_of_ble_eq_true rfl)) dL_act_149 ⟨Nat.le_of_ble_eq_true rfl, Nat.le_of_ble_eq_true rfl⟩) ?_
  have hlo_149 := lo_lt (x >>> ((iI 9) &&& 31)) (n := 13) (by omega)
  refine lv_goto (tgt := 205) hx hb dL_act_152 (by decide) ?_
  refine ax_call (vx_runSW (As := [.ref o0, .int (iI ((lo (x >>> ((iI 3) &&& 31)) 3 : Nat) : Int)), .int (iI ((lo (x >>> ((iI 9) &&& 31)) 13 : Nat) : Int))]) (rest := []) ⟨hx, hb, hml, hown, hts⟩ hM (vx_cwSW 3 hts gL_act_L_multiply rfl rfl rfl hdL_multiply ⟨Nat.le_of_ble_eq_true rfl, Nat.le_of_ble_eq_true rfl⟩) (bZ_preS hK hP hD hG hN) rfl rfl hl.1 rfl (lv_room (Nat.le_of_ble_eq_true rfl)) dL_act_205 ⟨Nat.le_of_ble_eq_true rfl, Nat.le_of_ble_eq_true rfl⟩) hS (fun q9 h => h) (fun H locs hP hz hk hS => ?_)
  exact W.iret hx hb hr (fun t ht _ => ⟨rfl, by rw [ht]; exact hP, hS.F ht⟩) hS.2.2 dL_act_208

set_option maxHeartbeats 4000000 in
set_option maxRecDepth 100000 in
theorem act_1_3 (l : Launch) (hfl : l.stackTraces = false) (dC : Nat → ClassId) (dI : Nat → Nat → Nat) (o0 : Nat) (a0 a1 q : Nat → Nat) (w : Nat) (hp0 : Pm a0) (hp1 : Pm a1) (hw : w ≤ 12) (hq : ∀ i, i < w → q i < 12) (hqd : ∀ i j, i < w → j < w → q i = q j → i = j) (x : Int32) (ho : lo (x >>> ((iI 24) &&& 31)) 10 = 0) (hv9 : lo x 13 = 3)  (v : Int) (b0 b1 q' : Nat → Nat) (w' : Nat) (hM : ax l yL_rotate wsL_rotate { frames := 8, cells := 1, slots := 6, locals := 131 } [Value.ref o0, .int (iI ((lo (x >>> ((iI 3) &&& 31)) 3 : Nat) : Int)), .int (iI ((lo (x >>> ((iI 7) &&& 31)) 13 : Nat) : Int))] (dC, dI) (oW o0 a0 a1 q w) (oW o0 b0 b1 q' w') (some (.int (iI v)))) : ax l yL_act wsL_act { frames := 10, cells := 1, slots := 6, locals := 174 } [.ref o0, .int x] (dC, dI) [(o0, .inr (0, [.long (pk a0), .long (pk a1), .long (pkn q w), .int (iI ((w : Nat) : Int))]))] [(o0, .inr (0, [.long (pk b0), .long (pk b1), .long (pkn (q') (w')), .int (iI ((w' : Nat) : Int))]))] (some (.int (iI v))) := by
  refine Met.ofW (cc := cL_act) (maxL := 6) (ret := (some .int)) (by decide) rfl ?_
  intro P0 e s m args below meth c s₁ B hml hv
  obtain ⟨rfl, hP, hK, hD0, hG, hN⟩ := hv
  have hx := B.exec
  have hb := B.bytes
  have hr := B.returns
  have hts := atoms_spec (ws := wsL_act) B.pre
  have hown : s.vm.findClass RL = some m.cls := findClass_of_methodNamed B.named
  have hlocks := B.notSynchronized
  have hD : va_D (inW [(o0, .inr (0, [.long (pk a0), .long (pk a1), .long (pkn q w), .int (iI ((w : Nat) : Int))]))]) [(o0, .inr (0, [.long (pk a0), .long (pk a1), .long (pkn q w), .int (iI ((w : Nat) : Int))]))] := va_D_in hD0
  have hS : va_S (inW [(o0, .inr (0, [.long (pk a0), .long (pk a1), .long (pkn q w), .int (iI ((w : Nat) : Int))]))]) s.heap s.heap [] := va_S.rf
  have hl := lv_entry ([.ref o0, .int x]) (n := 6) (Nat.le_of_ble_eq_true rfl)
  rw [lg_entry_eq]
  generalize (lg_sl ([.ref o0, .int x]) ++ List.replicate (6 - (lg_sl ([.ref o0, .int x])).length) Slot.unset).toArray = ls at hl ⊢
  have hl : lv_has ls 6 [(0, .ref o0), (1, .int x)] := hl
  refine lv_iload_n hx hb dL_act_0 rfl (lv_at hl 1 rfl) ?_
  refine ib_bi hx hb dL_act_1 (by decide) ?_
  refine lv_ishr hx hb dL_act_3 ?_
  refine ib_bi hx hb dL_act_4 (by decide) ?_
  refine rd_call (va_runS (As := [.int (x >>> ((iI 24) &&& 31)), .int (iI 10)]) (rest := []) ⟨hx, hb, hml, hown, hts⟩ (mL_low l (x >>> ((iI 24) &&& 31)) 10 (by omega) (by omega)) (va_cwS 2 hts gL_act_L_low rfl rfl rfl hdL_low ⟨Nat.le_of_ble_eq_true rfl, Nat.le_of_ble_eq_true rfl⟩) tt_pre rfl rfl hl.1 rfl (lv_room (Nat.le_of_ble_eq_true rfl)) dL_act_6 ⟨Nat.le_of_ble_eq_true rfl, Nat.le_of_ble_eq_true rfl⟩) ?_
  have hlo_6 := lo_lt (x >>> ((iI 24) &&& 31)) (n := 10) (by omega)
  refine ib_if_ne (tgt := 16) hx hb dL_act_9 (by decide) ⟨by omega, by omega⟩ (fun c_9 => absurd c_9 (by omega)) (fun c_9 => ?_)
  refine ib_const hx hb dL_act_12 ?_
  refine lv_goto (tgt := 17) hx hb dL_act_13 (by decide) ?_
  refine lv_istore_n (lv' := [(2, .int (iI 1)), (0, .ref o0), (1, .int x)]) hx hb dL_act_17 rfl hl (by decide) rfl (fun ls hl => ?_)
  refine lv_iload_n hx hb dL_act_18 rfl (lv_at hl 2 rfl) ?_
  refine ib_const hx hb dL_act_19 ?_
  refine lv_ishr hx hb dL_act_20 ?_
  refine ib_const hx hb dL_act_21 ?_
  refine lv_iload_n hx hb dL_act_22 rfl (lv_at hl 0 rfl) ?_
  refine ib_add (z := 3) hx hb dL_act_23 (by omega) ?_
  refine rd_call (va_runS (As := [.int (x >>> ((iI 3) &&& 31)), .int (iI 3)]) (rest := []) ⟨hx, hb, hml, hown, hts⟩ (mL_low l (x >>> ((iI 3) &&& 31)) 3 (by omega) (by omega)) (va_cwS 2 hts gL_act_L_low rfl rfl rfl hdL_low ⟨Nat.le_of_ble_eq_true rfl, Nat.le_of_ble_eq_true rfl⟩) tt_pre rfl rfl hl.1 rfl (lv_room (Nat.le_of_ble_eq_true rfl)) dL_act_24 ⟨Nat.le_of_ble_eq_true rfl, Nat.le_of_ble_eq_true rfl⟩) ?_
  have hlo_24 := lo_lt (x >>> ((iI 3) &&& 31)) (n := 3) (by omega)
  refine lv_istore_n (lv' := [(3, .int (iI ((lo (x >>> ((iI 3) &&& 31)) 3 : Nat) : Int))), (2, .int (iI 1)), (0, .ref o0), (1, .int x)]) hx hb dL_act_27 rfl hl (by decide) rfl (fun ls hl => ?_)
  refine lv_iload_n hx hb dL_act_28 rfl (lv_at hl 3 rfl) ?_
  refine ib_bi hx hb dL_act_29 (by decide) ?_
  refine lv_ishr hx hb dL_act_31 ?_
  refine ib_bi hx hb dL_act_32 (by decide) ?_
  refine lv_iload_n hx hb dL_act_34 rfl (lv_at hl 1 rfl) ?_
  refine ib_add (z := 13) hx hb dL_act_35 (by omega) ?_
  refine rd_call (va_runS (As := [.int (x >>> ((iI 7) &&& 31)), .int (iI 13)]) (rest := []) ⟨hx, hb, hml, hown, hts⟩ (mL_low l (x >>> ((iI 7) &&& 31)) 13 (by omega) (by omega)) (va_cwS 2 hts gL_act_L_low rfl rfl rfl hdL_low ⟨Nat.le_of_ble_eq_true rfl, Nat.le_of_ble_eq_true rfl⟩) tt_pre rfl rfl hl.1 rfl (lv_room (Nat.le_of_ble_eq_true rfl)) dL_act_36 ⟨Nat.le_of_ble_eq_true rfl, Nat.le_of_ble_eq_true rfl⟩) ?_
  have hlo_36 := lo_lt (x >>> ((iI 7) &&& 31)) (n := 13) (by omega)
  refine lv_istore (lv' := [(4, .int (iI ((lo (x >>> ((iI 7) &&& 31)) 13 : Nat) : Int))), (3, .int (iI ((lo (x >>> ((iI 3) &&& 31)) 3 : Nat) : Int))), (2, .int (iI 1)), (0, .ref o0), (1, .int x)]) hx hb dL_act_39 hl (by decide) rfl (fun ls hl => ?_)
  refine lv_iload_n hx hb dL_act_41 rfl (lv_at hl 4 rfl) ?_
  refine ib_bi hx hb dL_act_42 (by decide) ?_
  refine lv_ishr hx hb dL_act_44 ?_
  refine ib_bi hx hb dL_act_45 (by decide) ?_
  refine lv_iload_n hx hb dL_act_47 rfl (lv_at hl 2 rfl) ?_
  refine ib_add (z := 13) hx hb dL_act_48 (by omega) ?_
  refine rd_call (va_runS (As := [.int (x >>> ((iI 11) &&& 31)), .int (iI 13)]) (rest := []) ⟨hx, hb, hml, hown, hts⟩ (mL_low l (x >>> ((iI 11) &&& 31)) 13 (by omega) (by omega)) (va_cwS 2 hts gL_act_L_low rfl rfl rfl hdL_low ⟨Nat.le_of_ble_eq_true rfl, Nat.le_of_ble_eq_true rfl⟩) tt_pre rfl rfl hl.1 rfl (lv_room (Nat.le_of_ble_eq_true rfl)) dL_act_49 ⟨Nat.le_of_ble_eq_true rfl, Nat.le_of_ble_eq_true rfl⟩) ?_
  have hlo_49 := lo_lt (x >>> ((iI 11) &&& 31)) (n := 13) (by omega)
  refine lv_istore (lv' := [(5, .int (iI ((lo (x >>> ((iI 11) &&& 31)) 13 : Nat) : Int))), (4, .int (iI ((lo (x >>> ((iI 7) &&& 31)) 13 : Nat) : Int))), (3, .int (iI ((lo (x >>> ((iI 3) &&& 31)) 3 : Nat) : Int))), (2, .int (iI 1)), (0, .ref o0), (1, .int x)]) hx hb dL_act_52 hl (by decide) rfl (fun ls hl => ?_)
  refine lv_iload_n hx hb dL_act_54 rfl (lv_at hl 5 rfl) ?_
  refine ib_bi hx hb dL_act_55 (by decide) ?_
  refine rd_call (va_runS (As := [.int x, .int (iI 13)]) (rest := []) ⟨hx, hb, hml, hown, hts⟩ (mL_low l x 13 (by omega) (by omega)) (va_cwS 2 hts gL_act_L_low rfl rfl rfl hdL_low ⟨Nat.le_of_ble_eq_true rfl, Nat.le_of_ble_eq_true rfl⟩) tt_pre rfl rfl hl.1 rfl (lv_room (Nat.le_of_ble_eq_true rfl)) dL_act_57 ⟨Nat.le_of_ble_eq_true rfl, Nat.le_of_ble_eq_true rfl⟩) ?_
  have hlo_57 := lo_lt x (n := 13) (by omega)
  refine st_i (y := iI 3) (congrArg (fun z : Nat => iI ((z : Nat) : Int)) hv9) ?_
  refine lv_tableIn (off := 149) (tgt := 209) hx hb dL_act_60 (by decide) (by decide) (by decide) (by decide) ?_
  refine lv_aload_n hx hb dL_act_209 rfl (lv_at hl 4 rfl) ?_
  refine lv_iload_n hx hb dL_act_210 rfl (lv_at hl 2 rfl) ?_
  refine lv_iload hx hb dL_act_211 (lv_at hl 1 rfl) ?_
  refine ax_call (vx_runSW (As := [.ref o0, .int (iI ((lo (x >>> ((iI 3) &&& 31)) 3 : Nat) : Int)), .int (iI ((lo (x >>> ((iI 7) &&& 31)) 13 : Nat) : Int))]) (rest := []) ⟨hx, hb, hml, hown, hts⟩ hM (vx_cwSW 3 hts gL_act_L_rotate rfl rfl rfl hdL_rotate ⟨Nat.le_of_ble_eq_true rfl, Nat.le_of_ble_eq_true rfl⟩) (bZ_preS hK hP hD hG hN) rfl rfl hl.1 rfl (lv_room (Nat.le_of_ble_eq_true rfl)) dL_act_213 ⟨Nat.le_of_ble_eq_true rfl, Nat.le_of_ble_eq_true rfl⟩) hS (fun q9 h => h) (fun H locs hP hz hk hS => ?_)
  exact W.iret hx hb hr (fun t ht _ => ⟨rfl, by rw [ht]; exact hP, hS.F ht⟩) hS.2.2 dL_act_216

set_option maxHeartbeats 4000000 in
set_option maxRecDepth 100000 in
theorem act_1_4 (l : Launch) (hfl : l.stackTraces = false) (dC : Nat → ClassId) (dI : Nat → Nat → Nat) (o0 : Nat) (a0 a1 q : Nat → Nat) (w : Nat) (hp0 : Pm a0) (hp1 : Pm a1) (hw : w ≤ 12) (hq : ∀ i, i < w → q i < 12) (hqd : ∀ i j, i < w → j < w → q i = q j → i = j) (x : Int32) (ho : lo (x >>> ((iI 24) &&& 31)) 10 = 0) (hv9 : lo x 13 = 4)  (v : Int) (b0 b1 q' : Nat → Nat) (w' : Nat) (hM : ax l yL_write wsL_write { frames := 8, cells := 1, slots := 6, locals := 125 } [Value.ref o0, .int (iI ((lo (x >>> ((iI 7) &&& 31)) 13 : Nat) : Int))] (dC, dI) (oW o0 a0 a1 q w) (oW o0 b0 b1 q' w') (some (.int (iI v)))) : ax l yL_act wsL_act { frames := 10, cells := 1, slots := 6, locals := 174 } [.ref o0, .int x] (dC, dI) [(o0, .inr (0, [.long (pk a0), .long (pk a1), .long (pkn q w), .int (iI ((w : Nat) : Int))]))] [(o0, .inr (0, [.long (pk b0), .long (pk b1), .long (pkn (q') (w')), .int (iI ((w' : Nat) : Int))]))] (some (.int (iI v))) := by
  refine Met.ofW (cc := cL_act) (maxL := 6) (ret := (some .int)) (by decide) rfl ?_
  intro P0 e s m args below meth c s₁ B hml hv
  obtain ⟨rfl, hP, hK, hD0, hG, hN⟩ := hv
  have hx := B.exec
  have hb := B.bytes
  have hr := B.returns
  have hts := atoms_spec (ws := wsL_act) B.pre
  have hown : s.vm.findClass RL = some m.cls := findClass_of_methodNamed B.named
  have hlocks := B.notSynchronized
  have hD : va_D (inW [(o0, .inr (0, [.long (pk a0), .long (pk a1), .long (pkn q w), .int (iI ((w : Nat) : Int))]))]) [(o0, .inr (0, [.long (pk a0), .long (pk a1), .long (pkn q w), .int (iI ((w : Nat) : Int))]))] := va_D_in hD0
  have hS : va_S (inW [(o0, .inr (0, [.long (pk a0), .long (pk a1), .long (pkn q w), .int (iI ((w : Nat) : Int))]))]) s.heap s.heap [] := va_S.rf
  have hl := lv_entry ([.ref o0, .int x]) (n := 6) (Nat.le_of_ble_eq_true rfl)
  rw [lg_entry_eq]
  generalize (lg_sl ([.ref o0, .int x]) ++ List.replicate (6 - (lg_sl ([.ref o0, .int x])).length) Slot.unset).toArray = ls at hl ⊢
  have hl : lv_has ls 6 [(0, .ref o0), (1, .int x)] := hl
  refine lv_iload_n hx hb dL_act_0 rfl (lv_at hl 1 rfl) ?_
  refine ib_bi hx hb dL_act_1 (by decide) ?_
  refine lv_ishr hx hb dL_act_3 ?_
  refine ib_bi hx hb dL_act_4 (by decide) ?_
  refine rd_call (va_runS (As := [.int (x >>> ((iI 24) &&& 31)), .int (iI 10)]) (rest := []) ⟨hx, hb, hml, hown, hts⟩ (mL_low l (x >>> ((iI 24) &&& 31)) 10 (by omega) (by omega)) (va_cwS 2 hts gL_act_L_low rfl rfl rfl hdL_low ⟨Nat.le_of_ble_eq_true rfl, Nat.le_of_ble_eq_true rfl⟩) tt_pre rfl rfl hl.1 rfl (lv_room (Nat.le_of_ble_eq_true rfl)) dL_act_6 ⟨Nat.le_of_ble_eq_true rfl, Nat.le_of_ble_eq_true rfl⟩) ?_
  have hlo_6 := lo_lt (x >>> ((iI 24) &&& 31)) (n := 10) (by omega)
  refine ib_if_ne (tgt := 16) hx hb dL_act_9 (by decide) ⟨by omega, by omega⟩ (fun c_9 => absurd c_9 (by omega)) (fun c_9 => ?_)
  refine ib_const hx hb dL_act_12 ?_
  refine lv_goto (tgt := 17) hx hb dL_act_13 (by decide) ?_
  refine lv_istore_n (lv' := [(2, .int (iI 1)), (0, .ref o0), (1, .int x)]) hx hb dL_act_17 rfl hl (by decide) rfl (fun ls hl => ?_)
  refine lv_iload_n hx hb dL_act_18 rfl (lv_at hl 2 rfl) ?_
  refine ib_const hx hb dL_act_19 ?_
  refine lv_ishr hx hb dL_act_20 ?_
  refine ib_const hx hb dL_act_21 ?_
  refine lv_iload_n hx hb dL_act_22 rfl (lv_at hl 0 rfl) ?_
  refine ib_add (z := 3) hx hb dL_act_23 (by omega) ?_
  refine rd_call (va_runS (As := [.int (x >>> ((iI 3) &&& 31)), .int (iI 3)]) (rest := []) ⟨hx, hb, hml, hown, hts⟩ (mL_low l (x >>> ((iI 3) &&& 31)) 3 (by omega) (by omega)) (va_cwS 2 hts gL_act_L_low rfl rfl rfl hdL_low ⟨Nat.le_of_ble_eq_true rfl, Nat.le_of_ble_eq_true rfl⟩) tt_pre rfl rfl hl.1 rfl (lv_room (Nat.le_of_ble_eq_true rfl)) dL_act_24 ⟨Nat.le_of_ble_eq_true rfl, Nat.le_of_ble_eq_true rfl⟩) ?_
  have hlo_24 := lo_lt (x >>> ((iI 3) &&& 31)) (n := 3) (by omega)
  refine lv_istore_n (lv' := [(3, .int (iI ((lo (x >>> ((iI 3) &&& 31)) 3 : Nat) : Int))), (2, .int (iI 1)), (0, .ref o0), (1, .int x)]) hx hb dL_act_27 rfl hl (by decide) rfl (fun ls hl => ?_)
  refine lv_iload_n hx hb dL_act_28 rfl (lv_at hl 3 rfl) ?_
  refine ib_bi hx hb dL_act_29 (by decide) ?_
  refine lv_ishr hx hb dL_act_31 ?_
  refine ib_bi hx hb dL_act_32 (by decide) ?_
  refine lv_iload_n hx hb dL_act_34 rfl (lv_at hl 1 rfl) ?_
  refine ib_add (z := 13) hx hb dL_act_35 (by omega) ?_
  refine rd_call (va_runS (As := [.int (x >>> ((iI 7) &&& 31)), .int (iI 13)]) (rest := []) ⟨hx, hb, hml, hown, hts⟩ (mL_low l (x >>> ((iI 7) &&& 31)) 13 (by omega) (by omega)) (va_cwS 2 hts gL_act_L_low rfl rfl rfl hdL_low ⟨Nat.le_of_ble_eq_true rfl, Nat.le_of_ble_eq_true rfl⟩) tt_pre rfl rfl hl.1 rfl (lv_room (Nat.le_of_ble_eq_true rfl)) dL_act_36 ⟨Nat.le_of_ble_eq_true rfl, Nat.le_of_ble_eq_true rfl⟩) ?_
  have hlo_36 := lo_lt (x >>> ((iI 7) &&& 31)) (n := 13) (by omega)
  refine lv_istore (lv' := [(4, .int (iI ((lo (x >>> ((iI 7) &&& 31)) 13 : Nat) : Int))), (3, .int (iI ((lo (x >>> ((iI 3) &&& 31)) 3 : Nat) : Int))), (2, .int (iI 1)), (0, .ref o0), (1, .int x)]) hx hb dL_act_39 hl (by decide) rfl (fun ls hl => ?_)
  refine lv_iload_n hx hb dL_act_41 rfl (lv_at hl 4 rfl) ?_
  refine ib_bi hx hb dL_act_42 (by decide) ?_
  refine lv_ishr hx hb dL_act_44 ?_
  refine ib_bi hx hb dL_act_45 (by decide) ?_
  refine lv_iload_n hx hb dL_act_47 rfl (lv_at hl 2 rfl) ?_
  refine ib_add (z := 13) hx hb dL_act_48 (by omega) ?_
  refine rd_call (va_runS (As := [.int (x >>> ((iI 11) &&& 31)), .int (iI 13)]) (rest := []) ⟨hx, hb, hml, hown, hts⟩ (mL_low l (x >>> ((iI 11) &&& 31)) 13 (by omega) (by omega)) (va_cwS 2 hts gL_act_L_low rfl rfl rfl hdL_low ⟨Nat.le_of_ble_eq_true rfl, Nat.le_of_ble_eq_true rfl⟩) tt_pre rfl rfl hl.1 rfl (lv_room (Nat.le_of_ble_eq_true rfl)) dL_act_49 ⟨Nat.le_of_ble_eq_true rfl, Nat.le_of_ble_eq_true rfl⟩) ?_
  have hlo_49 := lo_lt (x >>> ((iI 11) &&& 31)) (n := 13) (by omega)
  refine lv_istore (lv' := [(5, .int (iI ((lo (x >>> ((iI 11) &&& 31)) 13 : Nat) : Int))), (4, .int (iI ((lo (x >>> ((iI 7) &&& 31)) 13 : Nat) : Int))), (3, .int (iI ((lo (x >>> ((iI 3) &&& 31)) 3 : Nat) : Int))), (2, .int (iI 1)), (0, .ref o0), (1, .int x)]) hx hb dL_act_52 hl (by decide) rfl (fun ls hl => ?_)
  refine lv_iload_n hx hb dL_act_54 rfl (lv_at hl 5 rfl) ?_
  refine ib_bi hx hb dL_act_55 (by decide) ?_
  refine rd_call (va_runS (As := [.int x, .int (iI 13)]) (rest := []) ⟨hx, hb, hml, hown, hts⟩ (mL_low l x 13 (by omega) (by omega)) (va_cwS 2 hts gL_act_L_low rfl rfl rfl hdL_low ⟨Nat.le_of_ble_eq_true rfl, Nat.le_of_ble_eq_true rfl⟩) tt_pre rfl rfl hl.1 rfl (lv_room (Nat.le_of_ble_eq_true rfl)) dL_act_57 ⟨Nat.le_of_ble_eq_true rfl, Nat.le_of_ble_eq_true rfl⟩) ?_
  have hlo_57 := lo_lt x (n := 13) (by omega)
  refine st_i (y := iI 4) (congrArg (fun z : Nat => iI ((z : Nat) : Int)) hv9) ?_
  refine lv_tableIn (off := 157) (tgt := 217) hx hb dL_act_60 (by decide) (by decide) (by decide) (by decide) ?_
  refine lv_aload_n hx hb dL_act_217 rfl (lv_at hl 4 rfl) ?_
  refine lv_iload hx hb dL_act_218 (lv_at hl 1 rfl) ?_
  refine ax_call (vx_runSW (As := [.ref o0, .int (iI ((lo (x >>> ((iI 7) &&& 31)) 13 : Nat) : Int))]) (rest := []) ⟨hx, hb, hml, hown, hts⟩ hM (vx_cwSW 2 hts gL_act_L_write rfl rfl rfl hdL_write ⟨Nat.le_of_ble_eq_true rfl, Nat.le_of_ble_eq_true rfl⟩) (bZ_preS hK hP hD hG hN) rfl rfl hl.1 rfl (lv_room (Nat.le_of_ble_eq_true rfl)) dL_act_220 ⟨Nat.le_of_ble_eq_true rfl, Nat.le_of_ble_eq_true rfl⟩) hS (fun q9 h => h) (fun H locs hP hz hk hS => ?_)
  exact W.iret hx hb hr (fun t ht _ => ⟨rfl, by rw [ht]; exact hP, hS.F ht⟩) hS.2.2 dL_act_223

set_option maxHeartbeats 4000000 in
set_option maxRecDepth 100000 in
theorem act_1_5 (l : Launch) (hfl : l.stackTraces = false) (dC : Nat → ClassId) (dI : Nat → Nat → Nat) (o0 : Nat) (a0 a1 q : Nat → Nat) (w : Nat) (hp0 : Pm a0) (hp1 : Pm a1) (hw : w ≤ 12) (hq : ∀ i, i < w → q i < 12) (hqd : ∀ i j, i < w → j < w → q i = q j → i = j) (x : Int32) (ho : lo (x >>> ((iI 24) &&& 31)) 10 = 0) (hv9 : lo x 13 = 5)  (v : Int) (b0 b1 q' : Nat → Nat) (w' : Nat) (hM : ax l yL_write wsL_write { frames := 8, cells := 1, slots := 6, locals := 125 } [Value.ref o0, .int (iI ((lo (x >>> ((iI 7) &&& 31)) 13 : Nat) : Int))] (dC, dI) (oW o0 a0 a1 q w) (oW o0 b0 b1 q' w') (some (.int (iI v)))) : ax l yL_act wsL_act { frames := 10, cells := 1, slots := 6, locals := 174 } [.ref o0, .int x] (dC, dI) [(o0, .inr (0, [.long (pk a0), .long (pk a1), .long (pkn q w), .int (iI ((w : Nat) : Int))]))] [(o0, .inr (0, [.long (pk b0), .long (pk b1), .long (pkn (q') (w')), .int (iI ((w' : Nat) : Int))]))] (some (.int (iI v))) := by
  refine Met.ofW (cc := cL_act) (maxL := 6) (ret := (some .int)) (by decide) rfl ?_
  intro P0 e s m args below meth c s₁ B hml hv
  obtain ⟨rfl, hP, hK, hD0, hG, hN⟩ := hv
  have hx := B.exec
  have hb := B.bytes
  have hr := B.returns
  have hts := atoms_spec (ws := wsL_act) B.pre
  have hown : s.vm.findClass RL = some m.cls := findClass_of_methodNamed B.named
  have hlocks := B.notSynchronized
  have hD : va_D (inW [(o0, .inr (0, [.long (pk a0), .long (pk a1), .long (pkn q w), .int (iI ((w : Nat) : Int))]))]) [(o0, .inr (0, [.long (pk a0), .long (pk a1), .long (pkn q w), .int (iI ((w : Nat) : Int))]))] := va_D_in hD0
  have hS : va_S (inW [(o0, .inr (0, [.long (pk a0), .long (pk a1), .long (pkn q w), .int (iI ((w : Nat) : Int))]))]) s.heap s.heap [] := va_S.rf
  have hl := lv_entry ([.ref o0, .int x]) (n := 6) (Nat.le_of_ble_eq_true rfl)
  rw [lg_entry_eq]
  generalize (lg_sl ([.ref o0, .int x]) ++ List.replicate (6 - (lg_sl ([.ref o0, .int x])).length) Slot.unset).toArray = ls at hl ⊢
  have hl : lv_has ls 6 [(0, .ref o0), (1, .int x)] := hl
  refine lv_iload_n hx hb dL_act_0 rfl (lv_at hl 1 rfl) ?_
  refine ib_bi hx hb dL_act_1 (by decide) ?_
  refine lv_ishr hx hb dL_act_3 ?_
  refine ib_bi hx hb dL_act_4 (by decide) ?_
  refine rd_call (va_runS (As := [.int (x >>> ((iI 24) &&& 31)), .int (iI 10)]) (rest := []) ⟨hx, hb, hml, hown, hts⟩ (mL_low l (x >>> ((iI 24) &&& 31)) 10 (by omega) (by omega)) (va_cwS 2 hts gL_act_L_low rfl rfl rfl hdL_low ⟨Nat.le_of_ble_eq_true rfl, Nat.le_of_ble_eq_true rfl⟩) tt_pre rfl rfl hl.1 rfl (lv_room (Nat.le_of_ble_eq_true rfl)) dL_act_6 ⟨Nat.le_of_ble_eq_true rfl, Nat.le_of_ble_eq_true rfl⟩) ?_
  have hlo_6 := lo_lt (x >>> ((iI 24) &&& 31)) (n := 10) (by omega)
  refine ib_if_ne (tgt := 16) hx hb dL_act_9 (by decide) ⟨by omega, by omega⟩ (fun c_9 => absurd c_9 (by omega)) (fun c_9 => ?_)
  refine ib_const hx hb dL_act_12 ?_
  refine lv_goto (tgt := 17) hx hb dL_act_13 (by decide) ?_
  refine lv_istore_n (lv' := [(2, .int (iI 1)), (0, .ref o0), (1, .int x)]) hx hb dL_act_17 rfl hl (by decide) rfl (fun ls hl => ?_)
  refine lv_iload_n hx hb dL_act_18 rfl (lv_at hl 2 rfl) ?_
  refine ib_const hx hb dL_act_19 ?_
  refine lv_ishr hx hb dL_act_20 ?_
  refine ib_const hx hb dL_act_21 ?_
  refine lv_iload_n hx hb dL_act_22 rfl (lv_at hl 0 rfl) ?_
  refine ib_add (z := 3) hx hb dL_act_23 (by omega) ?_
  refine rd_call (va_runS (As := [.int (x >>> ((iI 3) &&& 31)), .int (iI 3)]) (rest := []) ⟨hx, hb, hml, hown, hts⟩ (mL_low l (x >>> ((iI 3) &&& 31)) 3 (by omega) (by omega)) (va_cwS 2 hts gL_act_L_low rfl rfl rfl hdL_low ⟨Nat.le_of_ble_eq_true rfl, Nat.le_of_ble_eq_true rfl⟩) tt_pre rfl rfl hl.1 rfl (lv_room (Nat.le_of_ble_eq_true rfl)) dL_act_24 ⟨Nat.le_of_ble_eq_true rfl, Nat.le_of_ble_eq_true rfl⟩) ?_
  have hlo_24 := lo_lt (x >>> ((iI 3) &&& 31)) (n := 3) (by omega)
  refine lv_istore_n (lv' := [(3, .int (iI ((lo (x >>> ((iI 3) &&& 31)) 3 : Nat) : Int))), (2, .int (iI 1)), (0, .ref o0), (1, .int x)]) hx hb dL_act_27 rfl hl (by decide) rfl (fun ls hl => ?_)
  refine lv_iload_n hx hb dL_act_28 rfl (lv_at hl 3 rfl) ?_
  refine ib_bi hx hb dL_act_29 (by decide) ?_
  refine lv_ishr hx hb dL_act_31 ?_
  refine ib_bi hx hb dL_act_32 (by decide) ?_
  refine lv_iload_n hx hb dL_act_34 rfl (lv_at hl 1 rfl) ?_
  refine ib_add (z := 13) hx hb dL_act_35 (by omega) ?_
  refine rd_call (va_runS (As := [.int (x >>> ((iI 7) &&& 31)), .int (iI 13)]) (rest := []) ⟨hx, hb, hml, hown, hts⟩ (mL_low l (x >>> ((iI 7) &&& 31)) 13 (by omega) (by omega)) (va_cwS 2 hts gL_act_L_low rfl rfl rfl hdL_low ⟨Nat.le_of_ble_eq_true rfl, Nat.le_of_ble_eq_true rfl⟩) tt_pre rfl rfl hl.1 rfl (lv_room (Nat.le_of_ble_eq_true rfl)) dL_act_36 ⟨Nat.le_of_ble_eq_true rfl, Nat.le_of_ble_eq_true rfl⟩) ?_
  have hlo_36 := lo_lt (x >>> ((iI 7) &&& 31)) (n := 13) (by omega)
  refine lv_istore (lv' := [(4, .int (iI ((lo (x >>> ((iI 7) &&& 31)) 13 : Nat) : Int))), (3, .int (iI ((lo (x >>> ((iI 3) &&& 31)) 3 : Nat) : Int))), (2, .int (iI 1)), (0, .ref o0), (1, .int x)]) hx hb dL_act_39 hl (by decide) rfl (fun ls hl => ?_)
  refine lv_iload_n hx hb dL_act_41 rfl (lv_at hl 4 rfl) ?_
  refine ib_bi hx hb dL_act_42 (by decide) ?_
  refine lv_ishr hx hb dL_act_44 ?_
  refine ib_bi hx hb dL_act_45 (by decide) ?_
  refine lv_iload_n hx hb dL_act_47 rfl (lv_at hl 2 rfl) ?_
  refine ib_add (z := 13) hx hb dL_act_48 (by omega) ?_
  refine rd_call (va_runS (As := [.int (x >>> ((iI 11) &&& 31)), .int (iI 13)]) (rest := []) ⟨hx, hb, hml, hown, hts⟩ (mL_low l (x >>> ((iI 11) &&& 31)) 13 (by omega) (by omega)) (va_cwS 2 hts gL_act_L_low rfl rfl rfl hdL_low ⟨Nat.le_of_ble_eq_true rfl, Nat.le_of_ble_eq_true rfl⟩) tt_pre rfl rfl hl.1 rfl (lv_room (Nat.le_of_ble_eq_true rfl)) dL_act_49 ⟨Nat.le_of_ble_eq_true rfl, Nat.le_of_ble_eq_true rfl⟩) ?_
  have hlo_49 := lo_lt (x >>> ((iI 11) &&& 31)) (n := 13) (by omega)
  refine lv_istore (lv' := [(5, .int (iI ((lo (x >>> ((iI 11) &&& 31)) 13 : Nat) : Int))), (4, .int (iI ((lo (x >>> ((iI 7) &&& 31)) 13 : Nat) : Int))), (3, .int (iI ((lo (x >>> ((iI 3) &&& 31)) 3 : Nat) : Int))), (2, .int (iI 1)), (0, .ref o0), (1, .int x)]) hx hb dL_act_52 hl (by decide) rfl (fun ls hl => ?_)
  refine lv_iload_n hx hb dL_act_54 rfl (lv_at hl 5 rfl) ?_
  refine ib_bi hx hb dL_act_55 (by decide) ?_
  refine rd_call (va_runS (As := [.int x, .int (iI 13)]) (rest := []) ⟨hx, hb, hml, hown, hts⟩ (mL_low l x 13 (by omega) (by omega)) (va_cwS 2 hts gL_act_L_low rfl rfl rfl hdL_low ⟨Nat.le_of_ble_eq_true rfl, Nat.le_of_ble_eq_true rfl⟩) tt_pre rfl rfl hl.1 rfl (lv_room (Nat.le_of_ble_eq_true rfl)) dL_act_57 ⟨Nat.le_of_ble_eq_true rfl, Nat.le_of_ble_eq_true rfl⟩) ?_
  have hlo_57 := lo_lt x (n := 13) (by omega)
  refine st_i (y := iI 5) (congrArg (fun z : Nat => iI ((z : Nat) : Int)) hv9) ?_
  refine lv_tableIn (off := 157) (tgt := 217) hx hb dL_act_60 (by decide) (by decide) (by decide) (by decide) ?_
  refine lv_aload_n hx hb dL_act_217 rfl (lv_at hl 4 rfl) ?_
  refine lv_iload hx hb dL_act_218 (lv_at hl 1 rfl) ?_
  refine ax_call (vx_runSW (As := [.ref o0, .int (iI ((lo (x >>> ((iI 7) &&& 31)) 13 : Nat) : Int))]) (rest := []) ⟨hx, hb, hml, hown, hts⟩ hM (vx_cwSW 2 hts gL_act_L_write rfl rfl rfl hdL_write ⟨Nat.le_of_ble_eq_true rfl, Nat.le_of_ble_eq_true rfl⟩) (bZ_preS hK hP hD hG hN) rfl rfl hl.1 rfl (lv_room (Nat.le_of_ble_eq_true rfl)) dL_act_220 ⟨Nat.le_of_ble_eq_true rfl, Nat.le_of_ble_eq_true rfl⟩) hS (fun q9 h => h) (fun H locs hP hz hk hS => ?_)
  exact W.iret hx hb hr (fun t ht _ => ⟨rfl, by rw [ht]; exact hP, hS.F ht⟩) hS.2.2 dL_act_223

set_option maxHeartbeats 4000000 in
set_option maxRecDepth 100000 in
theorem act_1_6 (l : Launch) (hfl : l.stackTraces = false) (dC : Nat → ClassId) (dI : Nat → Nat → Nat) (o0 : Nat) (a0 a1 q : Nat → Nat) (w : Nat) (hp0 : Pm a0) (hp1 : Pm a1) (hw : w ≤ 12) (hq : ∀ i, i < w → q i < 12) (hqd : ∀ i j, i < w → j < w → q i = q j → i = j) (x : Int32) (ho : lo (x >>> ((iI 24) &&& 31)) 10 = 0) (hv9 : lo x 13 = 6)  (v : Int) (b0 b1 q' : Nat → Nat) (w' : Nat) (hM : ax l yL_complete wsL_complete { frames := 8, cells := 1, slots := 6, locals := 130 } [Value.ref o0, .int (iI ((lo (x >>> ((iI 3) &&& 31)) 3 : Nat) : Int))] (dC, dI) (oW o0 a0 a1 q w) (oW o0 b0 b1 q' w') (some (.int (iI v)))) : ax l yL_act wsL_act { frames := 10, cells := 1, slots := 6, locals := 174 } [.ref o0, .int x] (dC, dI) [(o0, .inr (0, [.long (pk a0), .long (pk a1), .long (pkn q w), .int (iI ((w : Nat) : Int))]))] [(o0, .inr (0, [.long (pk b0), .long (pk b1), .long (pkn (q') (w')), .int (iI ((w' : Nat) : Int))]))] (some (.int (iI v))) := by
  refine Met.ofW (cc := cL_act) (maxL := 6) (ret := (some .int)) (by decide) rfl ?_
  intro P0 e s m args below meth c s₁ B hml hv
  obtain ⟨rfl, hP, hK, hD0, hG, hN⟩ := hv
  have hx := B.exec
  have hb := B.bytes
  have hr := B.returns
  have hts := atoms_spec (ws := wsL_act) B.pre
  have hown : s.vm.findClass RL = some m.cls := findClass_of_methodNamed B.named
  have hlocks := B.notSynchronized
  have hD : va_D (inW [(o0, .inr (0, [.long (pk a0), .long (pk a1), .long (pkn q w), .int (iI ((w : Nat) : Int))]))]) [(o0, .inr (0, [.long (pk a0), .long (pk a1), .long (pkn q w), .int (iI ((w : Nat) : Int))]))] := va_D_in hD0
  have hS : va_S (inW [(o0, .inr (0, [.long (pk a0), .long (pk a1), .long (pkn q w), .int (iI ((w : Nat) : Int))]))]) s.heap s.heap [] := va_S.rf
  have hl := lv_entry ([.ref o0, .int x]) (n := 6) (Nat.le_of_ble_eq_true rfl)
  rw [lg_entry_eq]
  generalize (lg_sl ([.ref o0, .int x]) ++ List.replicate (6 - (lg_sl ([.ref o0, .int x])).length) Slot.unset).toArray = ls at hl ⊢
  have hl : lv_has ls 6 [(0, .ref o0), (1, .int x)] := hl
  refine lv_iload_n hx hb dL_act_0 rfl (lv_at hl 1 rfl) ?_
  refine ib_bi hx hb dL_act_1 (by decide) ?_
  refine lv_ishr hx hb dL_act_3 ?_
  refine ib_bi hx hb dL_act_4 (by decide) ?_
  refine rd_call (va_runS (As := [.int (x >>> ((iI 24) &&& 31)), .int (iI 10)]) (rest := []) ⟨hx, hb, hml, hown, hts⟩ (mL_low l (x >>> ((iI 24) &&& 31)) 10 (by omega) (by omega)) (va_cwS 2 hts gL_act_L_low rfl rfl rfl hdL_low ⟨Nat.le_of_ble_eq_true rfl, Nat.le_of_ble_eq_true rfl⟩) tt_pre rfl rfl hl.1 rfl (lv_room (Nat.le_of_ble_eq_true rfl)) dL_act_6 ⟨Nat.le_of_ble_eq_true rfl, Nat.le_of_ble_eq_true rfl⟩) ?_
  have hlo_6 := lo_lt (x >>> ((iI 24) &&& 31)) (n := 10) (by omega)
  refine ib_if_ne (tgt := 16) hx hb dL_act_9 (by decide) ⟨by omega, by omega⟩ (fun c_9 => absurd c_9 (by omega)) (fun c_9 => ?_)
  refine ib_const hx hb dL_act_12 ?_
  refine lv_goto (tgt := 17) hx hb dL_act_13 (by decide) ?_
  refine lv_istore_n (lv' := [(2, .int (iI 1)), (0, .ref o0), (1, .int x)]) hx hb dL_act_17 rfl hl (by decide) rfl (fun ls hl => ?_)
  refine lv_iload_n hx hb dL_act_18 rfl (lv_at hl 2 rfl) ?_
  refine ib_const hx hb dL_act_19 ?_
  refine lv_ishr hx hb dL_act_20 ?_
  refine ib_const hx hb dL_act_21 ?_
  refine lv_iload_n hx hb dL_act_22 rfl (lv_at hl 0 rfl) ?_
  refine ib_add (z := 3) hx hb dL_act_23 (by omega) ?_
  refine rd_call (va_runS (As := [.int (x >>> ((iI 3) &&& 31)), .int (iI 3)]) (rest := []) ⟨hx, hb, hml, hown, hts⟩ (mL_low l (x >>> ((iI 3) &&& 31)) 3 (by omega) (by omega)) (va_cwS 2 hts gL_act_L_low rfl rfl rfl hdL_low ⟨Nat.le_of_ble_eq_true rfl, Nat.le_of_ble_eq_true rfl⟩) tt_pre rfl rfl hl.1 rfl (lv_room (Nat.le_of_ble_eq_true rfl)) dL_act_24 ⟨Nat.le_of_ble_eq_true rfl, Nat.le_of_ble_eq_true rfl⟩) ?_
  have hlo_24 := lo_lt (x >>> ((iI 3) &&& 31)) (n := 3) (by omega)
  refine lv_istore_n (lv' := [(3, .int (iI ((lo (x >>> ((iI 3) &&& 31)) 3 : Nat) : Int))), (2, .int (iI 1)), (0, .ref o0), (1, .int x)]) hx hb dL_act_27 rfl hl (by decide) rfl (fun ls hl => ?_)
  refine lv_iload_n hx hb dL_act_28 rfl (lv_at hl 3 rfl) ?_
  refine ib_bi hx hb dL_act_29 (by decide) ?_
  refine lv_ishr hx hb dL_act_31 ?_
  refine ib_bi hx hb dL_act_32 (by decide) ?_
  refine lv_iload_n hx hb dL_act_34 rfl (lv_at hl 1 rfl) ?_
  refine ib_add (z := 13) hx hb dL_act_35 (by omega) ?_
  refine rd_call (va_runS (As := [.int (x >>> ((iI 7) &&& 31)), .int (iI 13)]) (rest := []) ⟨hx, hb, hml, hown, hts⟩ (mL_low l (x >>> ((iI 7) &&& 31)) 13 (by omega) (by omega)) (va_cwS 2 hts gL_act_L_low rfl rfl rfl hdL_low ⟨Nat.le_of_ble_eq_true rfl, Nat.le_of_ble_eq_true rfl⟩) tt_pre rfl rfl hl.1 rfl (lv_room (Nat.le_of_ble_eq_true rfl)) dL_act_36 ⟨Nat.le_of_ble_eq_true rfl, Nat.le_of_ble_eq_true rfl⟩) ?_
  have hlo_36 := lo_lt (x >>> ((iI 7) &&& 31)) (n := 13) (by omega)
  refine lv_istore (lv' := [(4, .int (iI ((lo (x >>> ((iI 7) &&& 31)) 13 : Nat) : Int))), (3, .int (iI ((lo (x >>> ((iI 3) &&& 31)) 3 : Nat) : Int))), (2, .int (iI 1)), (0, .ref o0), (1, .int x)]) hx hb dL_act_39 hl (by decide) rfl (fun ls hl => ?_)
  refine lv_iload_n hx hb dL_act_41 rfl (lv_at hl 4 rfl) ?_
  refine ib_bi hx hb dL_act_42 (by decide) ?_
  refine lv_ishr hx hb dL_act_44 ?_
  refine ib_bi hx hb dL_act_45 (by decide) ?_
  refine lv_iload_n hx hb dL_act_47 rfl (lv_at hl 2 rfl) ?_
  refine ib_add (z := 13) hx hb dL_act_48 (by omega) ?_
  refine rd_call (va_runS (As := [.int (x >>> ((iI 11) &&& 31)), .int (iI 13)]) (rest := []) ⟨hx, hb, hml, hown, hts⟩ (mL_low l (x >>> ((iI 11) &&& 31)) 13 (by omega) (by omega)) (va_cwS 2 hts gL_act_L_low rfl rfl rfl hdL_low ⟨Nat.le_of_ble_eq_true rfl, Nat.le_of_ble_eq_true rfl⟩) tt_pre rfl rfl hl.1 rfl (lv_room (Nat.le_of_ble_eq_true rfl)) dL_act_49 ⟨Nat.le_of_ble_eq_true rfl, Nat.le_of_ble_eq_true rfl⟩) ?_
  have hlo_49 := lo_lt (x >>> ((iI 11) &&& 31)) (n := 13) (by omega)
  refine lv_istore (lv' := [(5, .int (iI ((lo (x >>> ((iI 11) &&& 31)) 13 : Nat) : Int))), (4, .int (iI ((lo (x >>> ((iI 7) &&& 31)) 13 : Nat) : Int))), (3, .int (iI ((lo (x >>> ((iI 3) &&& 31)) 3 : Nat) : Int))), (2, .int (iI 1)), (0, .ref o0), (1, .int x)]) hx hb dL_act_52 hl (by decide) rfl (fun ls hl => ?_)
  refine lv_iload_n hx hb dL_act_54 rfl (lv_at hl 5 rfl) ?_
  refine ib_bi hx hb dL_act_55 (by decide) ?_
  refine rd_call (va_runS (As := [.int x, .int (iI 13)]) (rest := []) ⟨hx, hb, hml, hown, hts⟩ (mL_low l x 13 (by omega) (by omega)) (va_cwS 2 hts gL_act_L_low rfl rfl rfl hdL_low ⟨Nat.le_of_ble_eq_true rfl, Nat.le_of_ble_eq_true rfl⟩) tt_pre rfl rfl hl.1 rfl (lv_room (Nat.le_of_ble_eq_true rfl)) dL_act_57 ⟨Nat.le_of_ble_eq_true rfl, Nat.le_of_ble_eq_true rfl⟩) ?_
  have hlo_57 := lo_lt x (n := 13) (by omega)
  refine st_i (y := iI 6) (congrArg (fun z : Nat => iI ((z : Nat) : Int)) hv9) ?_
  refine lv_tableIn (off := 164) (tgt := 224) hx hb dL_act_60 (by decide) (by decide) (by decide) (by decide) ?_
  refine lv_aload_n hx hb dL_act_224 rfl (lv_at hl 4 rfl) ?_
  refine lv_iload_n hx hb dL_act_225 rfl (lv_at hl 2 rfl) ?_
  refine ax_call (vx_runSW (As := [.ref o0, .int (iI ((lo (x >>> ((iI 3) &&& 31)) 3 : Nat) : Int))]) (rest := []) ⟨hx, hb, hml, hown, hts⟩ hM (vx_cwSW 2 hts gL_act_L_complete rfl rfl rfl hdL_complete ⟨Nat.le_of_ble_eq_true rfl, Nat.le_of_ble_eq_true rfl⟩) (bZ_preS hK hP hD hG hN) rfl rfl hl.1 rfl (lv_room (Nat.le_of_ble_eq_true rfl)) dL_act_226 ⟨Nat.le_of_ble_eq_true rfl, Nat.le_of_ble_eq_true rfl⟩) hS (fun q9 h => h) (fun H locs hP hz hk hS => ?_)
  exact W.iret hx hb hr (fun t ht _ => ⟨rfl, by rw [ht]; exact hP, hS.F ht⟩) hS.2.2 dL_act_229

set_option maxHeartbeats 4000000 in
set_option maxRecDepth 100000 in
theorem act_1_7a (l : Launch) (hfl : l.stackTraces = false) (dC : Nat → ClassId) (dI : Nat → Nat → Nat) (o0 : Nat) (a0 a1 q : Nat → Nat) (w : Nat) (hp0 : Pm a0) (hp1 : Pm a1) (hw : w ≤ 12) (hq : ∀ i, i < w → q i < 12) (hqd : ∀ i j, i < w → j < w → q i = q j → i = j) (x : Int32) (ho : lo (x >>> ((iI 24) &&& 31)) 10 = 0) (hv9 : lo x 13 = 7) (hz3 : (x >>> ((iI 9) &&& 31)) &&& (iI 3) = 0) : ax l yL_act wsL_act { frames := 10, cells := 1, slots := 6, locals := 174 } [.ref o0, .int x] (dC, dI) [(o0, .inr (0, [.long (pk a0), .long (pk a1), .long (pkn q w), .int (iI ((w : Nat) : Int))]))] [(o0, .inr (0, [.long (pk a0), .long (pk a1), .long (pkn q 0), .int (iI 0)]))] (some (.int (iI ((w : Nat) : Int)))) := by
  refine Met.ofW (cc := cL_act) (maxL := 6) (ret := (some .int)) (by decide) rfl ?_
  intro P0 e s m args below meth c s₁ B hml hv
  obtain ⟨rfl, hP, hK, hD0, hG, hN⟩ := hv
  have hx := B.exec
  have hb := B.bytes
  have hr := B.returns
  have hts := atoms_spec (ws := wsL_act) B.pre
  have hown : s.vm.findClass RL = some m.cls := findClass_of_methodNamed B.named
  have hlocks := B.notSynchronized
  have hD : va_D (inW [(o0, .inr (0, [.long (pk a0), .long (pk a1), .long (pkn q w), .int (iI ((w : Nat) : Int))]))]) [(o0, .inr (0, [.long (pk a0), .long (pk a1), .long (pkn q w), .int (iI ((w : Nat) : Int))]))] := va_D_in hD0
  have hS : va_S (inW [(o0, .inr (0, [.long (pk a0), .long (pk a1), .long (pkn q w), .int (iI ((w : Nat) : Int))]))]) s.heap s.heap [] := va_S.rf
  have hl := lv_entry ([.ref o0, .int x]) (n := 6) (Nat.le_of_ble_eq_true rfl)
  rw [lg_entry_eq]
  generalize (lg_sl ([.ref o0, .int x]) ++ List.replicate (6 - (lg_sl ([.ref o0, .int x])).length) Slot.unset).toArray = ls at hl ⊢
  have hl : lv_has ls 6 [(0, .ref o0), (1, .int x)] := hl
  refine lv_iload_n hx hb dL_act_0 rfl (lv_at hl 1 rfl) ?_
  refine ib_bi hx hb dL_act_1 (by decide) ?_
  refine lv_ishr hx hb dL_act_3 ?_
  refine ib_bi hx hb dL_act_4 (by decide) ?_
  refine rd_call (va_runS (As := [.int (x >>> ((iI 24) &&& 31)), .int (iI 10)]) (rest := []) ⟨hx, hb, hml, hown, hts⟩ (mL_low l (x >>> ((iI 24) &&& 31)) 10 (by omega) (by omega)) (va_cwS 2 hts gL_act_L_low rfl rfl rfl hdL_low ⟨Nat.le_of_ble_eq_true rfl, Nat.le_of_ble_eq_true rfl⟩) tt_pre rfl rfl hl.1 rfl (lv_room (Nat.le_of_ble_eq_true rfl)) dL_act_6 ⟨Nat.le_of_ble_eq_true rfl, Nat.le_of_ble_eq_true rfl⟩) ?_
  have hlo_6 := lo_lt (x >>> ((iI 24) &&& 31)) (n := 10) (by omega)
  refine ib_if_ne (tgt := 16) hx hb dL_act_9 (by decide) ⟨by omega, by omega⟩ (fun c_9 => absurd c_9 (by omega)) (fun c_9 => ?_)
  refine ib_const hx hb dL_act_12 ?_
  refine lv_goto (tgt := 17) hx hb dL_act_13 (by decide) ?_
  refine lv_istore_n (lv' := [(2, .int (iI 1)), (0, .ref o0), (1, .int x)]) hx hb dL_act_17 rfl hl (by decide) rfl (fun ls hl => ?_)
  refine lv_iload_n hx hb dL_act_18 rfl (lv_at hl 2 rfl) ?_
  refine ib_const hx hb dL_act_19 ?_
  refine lv_ishr hx hb dL_act_20 ?_
  refine ib_const hx hb dL_act_21 ?_
  refine lv_iload_n hx hb dL_act_22 rfl (lv_at hl 0 rfl) ?_
  refine ib_add (z := 3) hx hb dL_act_23 (by omega) ?_
  refine rd_call (va_runS (As := [.int (x >>> ((iI 3) &&& 31)), .int (iI 3)]) (rest := []) ⟨hx, hb, hml, hown, hts⟩ (mL_low l (x >>> ((iI 3) &&& 31)) 3 (by omega) (by omega)) (va_cwS 2 hts gL_act_L_low rfl rfl rfl hdL_low ⟨Nat.le_of_ble_eq_true rfl, Nat.le_of_ble_eq_true rfl⟩) tt_pre rfl rfl hl.1 rfl (lv_room (Nat.le_of_ble_eq_true rfl)) dL_act_24 ⟨Nat.le_of_ble_eq_true rfl, Nat.le_of_ble_eq_true rfl⟩) ?_
  have hlo_24 := lo_lt (x >>> ((iI 3) &&& 31)) (n := 3) (by omega)
  refine lv_istore_n (lv' := [(3, .int (iI ((lo (x >>> ((iI 3) &&& 31)) 3 : Nat) : Int))), (2, .int (iI 1)), (0, .ref o0), (1, .int x)]) hx hb dL_act_27 rfl hl (by decide) rfl (fun ls hl => ?_)
  refine lv_iload_n hx hb dL_act_28 rfl (lv_at hl 3 rfl) ?_
  refine ib_bi hx hb dL_act_29 (by decide) ?_
  refine lv_ishr hx hb dL_act_31 ?_
  refine ib_bi hx hb dL_act_32 (by decide) ?_
  refine lv_iload_n hx hb dL_act_34 rfl (lv_at hl 1 rfl) ?_
  refine ib_add (z := 13) hx hb dL_act_35 (by omega) ?_
  refine rd_call (va_runS (As := [.int (x >>> ((iI 7) &&& 31)), .int (iI 13)]) (rest := []) ⟨hx, hb, hml, hown, hts⟩ (mL_low l (x >>> ((iI 7) &&& 31)) 13 (by omega) (by omega)) (va_cwS 2 hts gL_act_L_low rfl rfl rfl hdL_low ⟨Nat.le_of_ble_eq_true rfl, Nat.le_of_ble_eq_true rfl⟩) tt_pre rfl rfl hl.1 rfl (lv_room (Nat.le_of_ble_eq_true rfl)) dL_act_36 ⟨Nat.le_of_ble_eq_true rfl, Nat.le_of_ble_eq_true rfl⟩) ?_
  have hlo_36 := lo_lt (x >>> ((iI 7) &&& 31)) (n := 13) (by omega)
  refine lv_istore (lv' := [(4, .int (iI ((lo (x >>> ((iI 7) &&& 31)) 13 : Nat) : Int))), (3, .int (iI ((lo (x >>> ((iI 3) &&& 31)) 3 : Nat) : Int))), (2, .int (iI 1)), (0, .ref o0), (1, .int x)]) hx hb dL_act_39 hl (by decide) rfl (fun ls hl => ?_)
  refine lv_iload_n hx hb dL_act_41 rfl (lv_at hl 4 rfl) ?_
  refine ib_bi hx hb dL_act_42 (by decide) ?_
  refine lv_ishr hx hb dL_act_44 ?_
  refine ib_bi hx hb dL_act_45 (by decide) ?_
  refine lv_iload_n hx hb dL_act_47 rfl (lv_at hl 2 rfl) ?_
  refine ib_add (z := 13) hx hb dL_act_48 (by omega) ?_
  refine rd_call (va_runS (As := [.int (x >>> ((iI 11) &&& 31)), .int (iI 13)]) (rest := []) ⟨hx, hb, hml, hown, hts⟩ (mL_low l (x >>> ((iI 11) &&& 31)) 13 (by omega) (by omega)) (va_cwS 2 hts gL_act_L_low rfl rfl rfl hdL_low ⟨Nat.le_of_ble_eq_true rfl, Nat.le_of_ble_eq_true rfl⟩) tt_pre rfl rfl hl.1 rfl (lv_room (Nat.le_of_ble_eq_true rfl)) dL_act_49 ⟨Nat.le_of_ble_eq_true rfl, Nat.le_of_ble_eq_true rfl⟩) ?_
  have hlo_49 := lo_lt (x >>> ((iI 11) &&& 31)) (n := 13) (by omega)
  refine lv_istore (lv' := [(5, .int (iI ((lo (x >>> ((iI 11) &&& 31)) 13 : Nat) : Int))), (4, .int (iI ((lo (x >>> ((iI 7) &&& 31)) 13 : Nat) : Int))), (3, .int (iI ((lo (x >>> ((iI 3) &&& 31)) 3 : Nat) : Int))), (2, .int (iI 1)), (0, .ref o0), (1, .int x)]) hx hb dL_act_52 hl (by decide) rfl (fun ls hl => ?_)
  refine lv_iload_n hx hb dL_act_54 rfl (lv_at hl 5 rfl) ?_
  refine ib_bi hx hb dL_act_55 (by decide) ?_
  refine rd_call (va_runS (As := [.int x, .int (iI 13)]) (rest := []) ⟨hx, hb, hml, hown, hts⟩ (mL_low l x 13 (by omega) (by omega)) (va_cwS 2 hts gL_act_L_low rfl rfl rfl hdL_low ⟨Nat.le_of_ble_eq_true rfl, Nat.le_of_ble_eq_true rfl⟩) tt_pre rfl rfl hl.1 rfl (lv_room (Nat.le_of_ble_eq_true rfl)) dL_act_57 ⟨Nat.le_of_ble_eq_true rfl, Nat.le_of_ble_eq_true rfl⟩) ?_
  have hlo_57 := lo_lt x (n := 13) (by omega)
  refine st_i (y := iI 7) (congrArg (fun z : Nat => iI ((z : Nat) : Int)) hv9) ?_
  refine lv_tableIn (off := 170) (tgt := 230) hx hb dL_act_60 (by decide) (by decide) (by decide) (by decide) ?_
  refine lv_iload_n hx hb dL_act_230 rfl (lv_at hl 5 rfl) ?_
  refine ib_bi hx hb dL_act_231 (by decide) ?_
  refine lv_ishr hx hb dL_act_233 ?_
  refine ib_const hx hb dL_act_234 ?_
  refine lv_iand hx hb dL_act_235 ?_
  refine lv_if_ne (tgt := 246) hx hb dL_act_236 (by decide) (fun h => absurd hz3 h) (fun _ => ?_)
  refine lv_aload_n hx hb dL_act_239 rfl (lv_at hl 4 rfl) ?_
  refine wr_call (va_runV (As := []) (rest := []) ⟨hx, hb, hml, hown, hts⟩ (mX0_erase_ok l dC dI o0 a0 a1 q w hp0 hp1 hw hq hqd) (cwV 0 hts gL_act_X0_erase rfl rfl rfl hvX0_erase ⟨Nat.le_of_ble_eq_true rfl, Nat.le_of_ble_eq_true rfl⟩) (bD_pre (ci := 0) (q0 := 0) hK hP hD rfl rfl rfl) rfl rfl hl.1 rfl (lv_room (Nat.le_of_ble_eq_true rfl)) dL_act_240 ⟨Nat.le_of_ble_eq_true rfl, Nat.le_of_ble_eq_true rfl⟩) hS (fun q9 h => h) (fun H locs hP hz hk hS => ?_)
  refine lv_goto (tgt := 252) hx hb dL_act_243 (by decide) ?_
  refine W.widen (k := 1) (n := 6) (by omega) (by omega) ?_
  exact W.iret hx hb hr (fun t ht _ => ⟨rfl, by rw [ht]; exact hP, hS.F ht⟩) hS.2.2 dL_act_252

set_option maxHeartbeats 4000000 in
set_option maxRecDepth 100000 in
theorem act_1_7b (l : Launch) (hfl : l.stackTraces = false) (dC : Nat → ClassId) (dI : Nat → Nat → Nat) (o0 : Nat) (a0 a1 q : Nat → Nat) (w : Nat) (hp0 : Pm a0) (hp1 : Pm a1) (hw : w ≤ 12) (hq : ∀ i, i < w → q i < 12) (hqd : ∀ i j, i < w → j < w → q i = q j → i = j) (x : Int32) (ho : lo (x >>> ((iI 24) &&& 31)) 10 = 0) (hv9 : lo x 13 = 7) (hz3 : ¬ (x >>> ((iI 9) &&& 31)) &&& (iI 3) = 0) (v : Int) (b0 b1 q' : Nat → Nat) (w' : Nat) (hM : ax l yL_write wsL_write { frames := 8, cells := 1, slots := 6, locals := 125 } [Value.ref o0, .int (iI ((lo (x >>> ((iI 11) &&& 31)) 13 : Nat) : Int))] (dC, dI) (oW o0 a0 a1 q w) (oW o0 b0 b1 q' w') (some (.int (iI v)))) : ax l yL_act wsL_act { frames := 10, cells := 1, slots := 6, locals := 174 } [.ref o0, .int x] (dC, dI) [(o0, .inr (0, [.long (pk a0), .long (pk a1), .long (pkn q w), .int (iI ((w : Nat) : Int))]))] [(o0, .inr (0, [.long (pk b0), .long (pk b1), .long (pkn (q') (w')), .int (iI ((w' : Nat) : Int))]))] (some (.int (iI v))) := by
  refine Met.ofW (cc := cL_act) (maxL := 6) (ret := (some .int)) (by decide) rfl ?_
  intro P0 e s m args below meth c s₁ B hml hv
  obtain ⟨rfl, hP, hK, hD0, hG, hN⟩ := hv
  have hx := B.exec
  have hb := B.bytes
  have hr := B.returns
  have hts := atoms_spec (ws := wsL_act) B.pre
  have hown : s.vm.findClass RL = some m.cls := findClass_of_methodNamed B.named
  have hlocks := B.notSynchronized
  have hD : va_D (inW [(o0, .inr (0, [.long (pk a0), .long (pk a1), .long (pkn q w), .int (iI ((w : Nat) : Int))]))]) [(o0, .inr (0, [.long (pk a0), .long (pk a1), .long (pkn q w), .int (iI ((w : Nat) : Int))]))] := va_D_in hD0
  have hS : va_S (inW [(o0, .inr (0, [.long (pk a0), .long (pk a1), .long (pkn q w), .int (iI ((w : Nat) : Int))]))]) s.heap s.heap [] := va_S.rf
  have hl := lv_entry ([.ref o0, .int x]) (n := 6) (Nat.le_of_ble_eq_true rfl)
  rw [lg_entry_eq]
  generalize (lg_sl ([.ref o0, .int x]) ++ List.replicate (6 - (lg_sl ([.ref o0, .int x])).length) Slot.unset).toArray = ls at hl ⊢
  have hl : lv_has ls 6 [(0, .ref o0), (1, .int x)] := hl
  refine lv_iload_n hx hb dL_act_0 rfl (lv_at hl 1 rfl) ?_
  refine ib_bi hx hb dL_act_1 (by decide) ?_
  refine lv_ishr hx hb dL_act_3 ?_
  refine ib_bi hx hb dL_act_4 (by decide) ?_
  refine rd_call (va_runS (As := [.int (x >>> ((iI 24) &&& 31)), .int (iI 10)]) (rest := []) ⟨hx, hb, hml, hown, hts⟩ (mL_low l (x >>> ((iI 24) &&& 31)) 10 (by omega) (by omega)) (va_cwS 2 hts gL_act_L_low rfl rfl rfl hdL_low ⟨Nat.le_of_ble_eq_true rfl, Nat.le_of_ble_eq_true rfl⟩) tt_pre rfl rfl hl.1 rfl (lv_room (Nat.le_of_ble_eq_true rfl)) dL_act_6 ⟨Nat.le_of_ble_eq_true rfl, Nat.le_of_ble_eq_true rfl⟩) ?_
  have hlo_6 := lo_lt (x >>> ((iI 24) &&& 31)) (n := 10) (by omega)
  refine ib_if_ne (tgt := 16) hx hb dL_act_9 (by decide) ⟨by omega, by omega⟩ (fun c_9 => absurd c_9 (by omega)) (fun c_9 => ?_)
  refine ib_const hx hb dL_act_12 ?_
  refine lv_goto (tgt := 17) hx hb dL_act_13 (by decide) ?_
  refine lv_istore_n (lv' := [(2, .int (iI 1)), (0, .ref o0), (1, .int x)]) hx hb dL_act_17 rfl hl (by decide) rfl (fun ls hl => ?_)
  refine lv_iload_n hx hb dL_act_18 rfl (lv_at hl 2 rfl) ?_
  refine ib_const hx hb dL_act_19 ?_
  refine lv_ishr hx hb dL_act_20 ?_
  refine ib_const hx hb dL_act_21 ?_
  refine lv_iload_n hx hb dL_act_22 rfl (lv_at hl 0 rfl) ?_
  refine ib_add (z := 3) hx hb dL_act_23 (by omega) ?_
  refine rd_call (va_runS (As := [.int (x >>> ((iI 3) &&& 31)), .int (iI 3)]) (rest := []) ⟨hx, hb, hml, hown, hts⟩ (mL_low l (x >>> ((iI 3) &&& 31)) 3 (by omega) (by omega)) (va_cwS 2 hts gL_act_L_low rfl rfl rfl hdL_low ⟨Nat.le_of_ble_eq_true rfl, Nat.le_of_ble_eq_true rfl⟩) tt_pre rfl rfl hl.1 rfl (lv_room (Nat.le_of_ble_eq_true rfl)) dL_act_24 ⟨Nat.le_of_ble_eq_true rfl, Nat.le_of_ble_eq_true rfl⟩) ?_
  have hlo_24 := lo_lt (x >>> ((iI 3) &&& 31)) (n := 3) (by omega)
  refine lv_istore_n (lv' := [(3, .int (iI ((lo (x >>> ((iI 3) &&& 31)) 3 : Nat) : Int))), (2, .int (iI 1)), (0, .ref o0), (1, .int x)]) hx hb dL_act_27 rfl hl (by decide) rfl (fun ls hl => ?_)
  refine lv_iload_n hx hb dL_act_28 rfl (lv_at hl 3 rfl) ?_
  refine ib_bi hx hb dL_act_29 (by decide) ?_
  refine lv_ishr hx hb dL_act_31 ?_
  refine ib_bi hx hb dL_act_32 (by decide) ?_
  refine lv_iload_n hx hb dL_act_34 rfl (lv_at hl 1 rfl) ?_
  refine ib_add (z := 13) hx hb dL_act_35 (by omega) ?_
  refine rd_call (va_runS (As := [.int (x >>> ((iI 7) &&& 31)), .int (iI 13)]) (rest := []) ⟨hx, hb, hml, hown, hts⟩ (mL_low l (x >>> ((iI 7) &&& 31)) 13 (by omega) (by omega)) (va_cwS 2 hts gL_act_L_low rfl rfl rfl hdL_low ⟨Nat.le_of_ble_eq_true rfl, Nat.le_of_ble_eq_true rfl⟩) tt_pre rfl rfl hl.1 rfl (lv_room (Nat.le_of_ble_eq_true rfl)) dL_act_36 ⟨Nat.le_of_ble_eq_true rfl, Nat.le_of_ble_eq_true rfl⟩) ?_
  have hlo_36 := lo_lt (x >>> ((iI 7) &&& 31)) (n := 13) (by omega)
  refine lv_istore (lv' := [(4, .int (iI ((lo (x >>> ((iI 7) &&& 31)) 13 : Nat) : Int))), (3, .int (iI ((lo (x >>> ((iI 3) &&& 31)) 3 : Nat) : Int))), (2, .int (iI 1)), (0, .ref o0), (1, .int x)]) hx hb dL_act_39 hl (by decide) rfl (fun ls hl => ?_)
  refine lv_iload_n hx hb dL_act_41 rfl (lv_at hl 4 rfl) ?_
  refine ib_bi hx hb dL_act_42 (by decide) ?_
  refine lv_ishr hx hb dL_act_44 ?_
  refine ib_bi hx hb dL_act_45 (by decide) ?_
  refine lv_iload_n hx hb dL_act_47 rfl (lv_at hl 2 rfl) ?_
  refine ib_add (z := 13) hx hb dL_act_48 (by omega) ?_
  refine rd_call (va_runS (As := [.int (x >>> ((iI 11) &&& 31)), .int (iI 13)]) (rest := []) ⟨hx, hb, hml, hown, hts⟩ (mL_low l (x >>> ((iI 11) &&& 31)) 13 (by omega) (by omega)) (va_cwS 2 hts gL_act_L_low rfl rfl rfl hdL_low ⟨Nat.le_of_ble_eq_true rfl, Nat.le_of_ble_eq_true rfl⟩) tt_pre rfl rfl hl.1 rfl (lv_room (Nat.le_of_ble_eq_true rfl)) dL_act_49 ⟨Nat.le_of_ble_eq_true rfl, Nat.le_of_ble_eq_true rfl⟩) ?_
  have hlo_49 := lo_lt (x >>> ((iI 11) &&& 31)) (n := 13) (by omega)
  refine lv_istore (lv' := [(5, .int (iI ((lo (x >>> ((iI 11) &&& 31)) 13 : Nat) : Int))), (4, .int (iI ((lo (x >>> ((iI 7) &&& 31)) 13 : Nat) : Int))), (3, .int (iI ((lo (x >>> ((iI 3) &&& 31)) 3 : Nat) : Int))), (2, .int (iI 1)), (0, .ref o0), (1, .int x)]) hx hb dL_act_52 hl (by decide) rfl (fun ls hl => ?_)
  refine lv_iload_n hx hb dL_act_54 rfl (lv_at hl 5 rfl) ?_
  refine ib_bi hx hb dL_act_55 (by decide) ?_
  refine rd_call (va_runS (As := [.int x, .int (iI 13)]) (rest := []) ⟨hx, hb, hml, hown, hts⟩ (mL_low l x 13 (by omega) (by omega)) (va_cwS 2 hts gL_act_L_low rfl rfl rfl hdL_low ⟨Nat.le_of_ble_eq_true rfl, Nat.le_of_ble_eq_true rfl⟩) tt_pre rfl rfl hl.1 rfl (lv_room (Nat.le_of_ble_eq_true rfl)) dL_act_57 ⟨Nat.le_of_ble_eq_true rfl, Nat.le_of_ble_eq_true rfl⟩) ?_
  have hlo_57 := lo_lt x (n := 13) (by omega)
  refine st_i (y := iI 7) (congrArg (fun z : Nat => iI ((z : Nat) : Int)) hv9) ?_
  refine lv_tableIn (off := 170) (tgt := 230) hx hb dL_act_60 (by decide) (by decide) (by decide) (by decide) ?_
  refine lv_iload_n hx hb dL_act_230 rfl (lv_at hl 5 rfl) ?_
  refine ib_bi hx hb dL_act_231 (by decide) ?_
  refine lv_ishr hx hb dL_act_233 ?_
  refine ib_const hx hb dL_act_234 ?_
  refine lv_iand hx hb dL_act_235 ?_
  refine lv_if_ne (tgt := 246) hx hb dL_act_236 (by decide) (fun _ => ?_) (fun h => absurd h hz3)
  refine lv_aload_n hx hb dL_act_246 rfl (lv_at hl 4 rfl) ?_
  refine lv_iload hx hb dL_act_247 (lv_at hl 0 rfl) ?_
  refine ax_call (vx_runSW (As := [.ref o0, .int (iI ((lo (x >>> ((iI 11) &&& 31)) 13 : Nat) : Int))]) (rest := []) ⟨hx, hb, hml, hown, hts⟩ hM (vx_cwSW 2 hts gL_act_L_write rfl rfl rfl hdL_write ⟨Nat.le_of_ble_eq_true rfl, Nat.le_of_ble_eq_true rfl⟩) (bZ_preS hK hP hD hG hN) rfl rfl hl.1 rfl (lv_room (Nat.le_of_ble_eq_true rfl)) dL_act_249 ⟨Nat.le_of_ble_eq_true rfl, Nat.le_of_ble_eq_true rfl⟩) hS (fun q9 h => h) (fun H locs hP hz hk hS => ?_)
  exact W.iret hx hb hr (fun t ht _ => ⟨rfl, by rw [ht]; exact hP, hS.F ht⟩) hS.2.2 dL_act_252

set_option maxHeartbeats 4000000 in
set_option maxRecDepth 100000 in
theorem act_1_8 (l : Launch) (hfl : l.stackTraces = false) (dC : Nat → ClassId) (dI : Nat → Nat → Nat) (o0 : Nat) (a0 a1 q : Nat → Nat) (w : Nat) (hp0 : Pm a0) (hp1 : Pm a1) (hw : w ≤ 12) (hq : ∀ i, i < w → q i < 12) (hqd : ∀ i j, i < w → j < w → q i = q j → i = j) (x : Int32) (ho : lo (x >>> ((iI 24) &&& 31)) 10 = 0) (hv9 : 8 ≤ lo x 13)  (v : Int) (b0 b1 q' : Nat → Nat) (w' : Nat) (hM : ax l yL_put wsL_put { frames := 8, cells := 1, slots := 6, locals := 132 } [Value.ref o0, .int (iI ((lo (x >>> ((iI 3) &&& 31)) 3 : Nat) : Int)), .int (iI ((lo (x >>> ((iI 11) &&& 31)) 13 : Nat) : Int)), .int (iI ((lo (x >>> ((iI 7) &&& 31)) 13 : Nat) : Int))] (dC, dI) (oW o0 a0 a1 q w) (oW o0 b0 b1 q' w') (some (.int (iI v)))) : ax l yL_act wsL_act { frames := 10, cells := 1, slots := 6, locals := 174 } [.ref o0, .int x] (dC, dI) [(o0, .inr (0, [.long (pk a0), .long (pk a1), .long (pkn q w), .int (iI ((w : Nat) : Int))]))] [(o0, .inr (0, [.long (pk b0), .long (pk b1), .long (pkn (q') (w')), .int (iI ((w' : Nat) : Int))]))] (some (.int (iI v))) := by
  refine Met.ofW (cc := cL_act) (maxL := 6) (ret := (some .int)) (by decide) rfl ?_
  intro P0 e s m args below meth c s₁ B hml hv
  obtain ⟨rfl, hP, hK, hD0, hG, hN⟩ := hv
  have hx := B.exec
  have hb := B.bytes
  have hr := B.returns
  have hts := atoms_spec (ws := wsL_act) B.pre
  have hown : s.vm.findClass RL = some m.cls := findClass_of_methodNamed B.named
  have hlocks := B.notSynchronized
  have hD : va_D (inW [(o0, .inr (0, [.long (pk a0), .long (pk a1), .long (pkn q w), .int (iI ((w : Nat) : Int))]))]) [(o0, .inr (0, [.long (pk a0), .long (pk a1), .long (pkn q w), .int (iI ((w : Nat) : Int))]))] := va_D_in hD0
  have hS : va_S (inW [(o0, .inr (0, [.long (pk a0), .long (pk a1), .long (pkn q w), .int (iI ((w : Nat) : Int))]))]) s.heap s.heap [] := va_S.rf
  have hl := lv_entry ([.ref o0, .int x]) (n := 6) (Nat.le_of_ble_eq_true rfl)
  rw [lg_entry_eq]
  generalize (lg_sl ([.ref o0, .int x]) ++ List.replicate (6 - (lg_sl ([.ref o0, .int x])).length) Slot.unset).toArray = ls at hl ⊢
  have hl : lv_has ls 6 [(0, .ref o0), (1, .int x)] := hl
  refine lv_iload_n hx hb dL_act_0 rfl (lv_at hl 1 rfl) ?_
  refine ib_bi hx hb dL_act_1 (by decide) ?_
  refine lv_ishr hx hb dL_act_3 ?_
  refine ib_bi hx hb dL_act_4 (by decide) ?_
  refine rd_call (va_runS (As := [.int (x >>> ((iI 24) &&& 31)), .int (iI 10)]) (rest := []) ⟨hx, hb, hml, hown, hts⟩ (mL_low l (x >>> ((iI 24) &&& 31)) 10 (by omega) (by omega)) (va_cwS 2 hts gL_act_L_low rfl rfl rfl hdL_low ⟨Nat.le_of_ble_eq_true rfl, Nat.le_of_ble_eq_true rfl⟩) tt_pre rfl rfl hl.1 rfl (lv_room (Nat.le_of_ble_eq_true rfl)) dL_act_6 ⟨Nat.le_of_ble_eq_true rfl, Nat.le_of_ble_eq_true rfl⟩) ?_
  have hlo_6 := lo_lt (x >>> ((iI 24) &&& 31)) (n := 10) (by omega)
  refine ib_if_ne (tgt := 16) hx hb dL_act_9 (by decide) ⟨by omega, by omega⟩ (fun c_9 => absurd c_9 (by omega)) (fun c_9 => ?_)
  refine ib_const hx hb dL_act_12 ?_
  refine lv_goto (tgt := 17) hx hb dL_act_13 (by decide) ?_
  refine lv_istore_n (lv' := [(2, .int (iI 1)), (0, .ref o0), (1, .int x)]) hx hb dL_act_17 rfl hl (by decide) rfl (fun ls hl => ?_)
  refine lv_iload_n hx hb dL_act_18 rfl (lv_at hl 2 rfl) ?_
  refine ib_const hx hb dL_act_19 ?_
  refine lv_ishr hx hb dL_act_20 ?_
  refine ib_const hx hb dL_act_21 ?_
  refine lv_iload_n hx hb dL_act_22 rfl (lv_at hl 0 rfl) ?_
  refine ib_add (z := 3) hx hb dL_act_23 (by omega) ?_
  refine rd_call (va_runS (As := [.int (x >>> ((iI 3) &&& 31)), .int (iI 3)]) (rest := []) ⟨hx, hb, hml, hown, hts⟩ (mL_low l (x >>> ((iI 3) &&& 31)) 3 (by omega) (by omega)) (va_cwS 2 hts gL_act_L_low rfl rfl rfl hdL_low ⟨Nat.le_of_ble_eq_true rfl, Nat.le_of_ble_eq_true rfl⟩) tt_pre rfl rfl hl.1 rfl (lv_room (Nat.le_of_ble_eq_true rfl)) dL_act_24 ⟨Nat.le_of_ble_eq_true rfl, Nat.le_of_ble_eq_true rfl⟩) ?_
  have hlo_24 := lo_lt (x >>> ((iI 3) &&& 31)) (n := 3) (by omega)
  refine lv_istore_n (lv' := [(3, .int (iI ((lo (x >>> ((iI 3) &&& 31)) 3 : Nat) : Int))), (2, .int (iI 1)), (0, .ref o0), (1, .int x)]) hx hb dL_act_27 rfl hl (by decide) rfl (fun ls hl => ?_)
  refine lv_iload_n hx hb dL_act_28 rfl (lv_at hl 3 rfl) ?_
  refine ib_bi hx hb dL_act_29 (by decide) ?_
  refine lv_ishr hx hb dL_act_31 ?_
  refine ib_bi hx hb dL_act_32 (by decide) ?_
  refine lv_iload_n hx hb dL_act_34 rfl (lv_at hl 1 rfl) ?_
  refine ib_add (z := 13) hx hb dL_act_35 (by omega) ?_
  refine rd_call (va_runS (As := [.int (x >>> ((iI 7) &&& 31)), .int (iI 13)]) (rest := []) ⟨hx, hb, hml, hown, hts⟩ (mL_low l (x >>> ((iI 7) &&& 31)) 13 (by omega) (by omega)) (va_cwS 2 hts gL_act_L_low rfl rfl rfl hdL_low ⟨Nat.le_of_ble_eq_true rfl, Nat.le_of_ble_eq_true rfl⟩) tt_pre rfl rfl hl.1 rfl (lv_room (Nat.le_of_ble_eq_true rfl)) dL_act_36 ⟨Nat.le_of_ble_eq_true rfl, Nat.le_of_ble_eq_true rfl⟩) ?_
  have hlo_36 := lo_lt (x >>> ((iI 7) &&& 31)) (n := 13) (by omega)
  refine lv_istore (lv' := [(4, .int (iI ((lo (x >>> ((iI 7) &&& 31)) 13 : Nat) : Int))), (3, .int (iI ((lo (x >>> ((iI 3) &&& 31)) 3 : Nat) : Int))), (2, .int (iI 1)), (0, .ref o0), (1, .int x)]) hx hb dL_act_39 hl (by decide) rfl (fun ls hl => ?_)
  refine lv_iload_n hx hb dL_act_41 rfl (lv_at hl 4 rfl) ?_
  refine ib_bi hx hb dL_act_42 (by decide) ?_
  refine lv_ishr hx hb dL_act_44 ?_
  refine ib_bi hx hb dL_act_45 (by decide) ?_
  refine lv_iload_n hx hb dL_act_47 rfl (lv_at hl 2 rfl) ?_
  refine ib_add (z := 13) hx hb dL_act_48 (by omega) ?_
  refine rd_call (va_runS (As := [.int (x >>> ((iI 11) &&& 31)), .int (iI 13)]) (rest := []) ⟨hx, hb, hml, hown, hts⟩ (mL_low l (x >>> ((iI 11) &&& 31)) 13 (by omega) (by omega)) (va_cwS 2 hts gL_act_L_low rfl rfl rfl hdL_low ⟨Nat.le_of_ble_eq_true rfl, Nat.le_of_ble_eq_true rfl⟩) tt_pre rfl rfl hl.1 rfl (lv_room (Nat.le_of_ble_eq_true rfl)) dL_act_49 ⟨Nat.le_of_ble_eq_true rfl, Nat.le_of_ble_eq_true rfl⟩) ?_
  have hlo_49 := lo_lt (x >>> ((iI 11) &&& 31)) (n := 13) (by omega)
  refine lv_istore (lv' := [(5, .int (iI ((lo (x >>> ((iI 11) &&& 31)) 13 : Nat) : Int))), (4, .int (iI ((lo (x >>> ((iI 7) &&& 31)) 13 : Nat) : Int))), (3, .int (iI ((lo (x >>> ((iI 3) &&& 31)) 3 : Nat) : Int))), (2, .int (iI 1)), (0, .ref o0), (1, .int x)]) hx hb dL_act_52 hl (by decide) rfl (fun ls hl => ?_)
  refine lv_iload_n hx hb dL_act_54 rfl (lv_at hl 5 rfl) ?_
  refine ib_bi hx hb dL_act_55 (by decide) ?_
  refine rd_call (va_runS (As := [.int x, .int (iI 13)]) (rest := []) ⟨hx, hb, hml, hown, hts⟩ (mL_low l x 13 (by omega) (by omega)) (va_cwS 2 hts gL_act_L_low rfl rfl rfl hdL_low ⟨Nat.le_of_ble_eq_true rfl, Nat.le_of_ble_eq_true rfl⟩) tt_pre rfl rfl hl.1 rfl (lv_room (Nat.le_of_ble_eq_true rfl)) dL_act_57 ⟨Nat.le_of_ble_eq_true rfl, Nat.le_of_ble_eq_true rfl⟩) ?_
  have hlo_57 := lo_lt x (n := 13) (by omega)
  refine lv_tableOut (tgt := 253) hx hb dL_act_60 (Or.inr (act_out _ (by omega) (by omega))) (by decide) ?_
  refine lv_aload_n hx hb dL_act_253 rfl (lv_at hl 4 rfl) ?_
  refine lv_iload_n hx hb dL_act_254 rfl (lv_at hl 2 rfl) ?_
  refine lv_iload hx hb dL_act_255 (lv_at hl 0 rfl) ?_
  refine lv_iload hx hb dL_act_257 (lv_at hl 1 rfl) ?_
  refine ax_call (vx_runSW (As := [.ref o0, .int (iI ((lo (x >>> ((iI 3) &&& 31)) 3 : Nat) : Int)), .int (iI ((lo (x >>> ((iI 11) &&& 31)) 13 : Nat) : Int)), .int (iI ((lo (x >>> ((iI 7) &&& 31)) 13 : Nat) : Int))]) (rest := []) ⟨hx, hb, hml, hown, hts⟩ hM (vx_cwSW 4 hts gL_act_L_put rfl rfl rfl hdL_put ⟨Nat.le_of_ble_eq_true rfl, Nat.le_of_ble_eq_true rfl⟩) (bZ_preS hK hP hD hG hN) rfl rfl hl.1 rfl (lv_room (Nat.le_of_ble_eq_true rfl)) dL_act_259 ⟨Nat.le_of_ble_eq_true rfl, Nat.le_of_ble_eq_true rfl⟩) hS (fun q9 h => h) (fun H locs hP hz hk hS => ?_)
  exact W.iret hx hb hr (fun t ht _ => ⟨rfl, by rw [ht]; exact hP, hS.F ht⟩) hS.2.2 dL_act_262

set_option maxHeartbeats 4000000 in
set_option maxRecDepth 100000 in
theorem act_0_0 (l : Launch) (hfl : l.stackTraces = false) (dC : Nat → ClassId) (dI : Nat → Nat → Nat) (o0 : Nat) (a0 a1 q : Nat → Nat) (w : Nat) (hp0 : Pm a0) (hp1 : Pm a1) (hw : w ≤ 12) (hq : ∀ i, i < w → q i < 12) (hqd : ∀ i j, i < w → j < w → q i = q j → i = j) (x : Int32) (ho : ¬ lo (x >>> ((iI 24) &&& 31)) 10 = 0) (hv9 : lo x 13 = 0)  (v : Int) (b0 b1 q' : Nat → Nat) (w' : Nat) (hM : ax l yL_take wsL_take { frames := 9, cells := 1, slots := 6, locals := 149 } [Value.ref o0, .int (iI ((lo (x >>> ((iI 3) &&& 31)) 2 : Nat) : Int)), .int (iI ((lo (x >>> ((iI 15) &&& 31)) 4 : Nat) : Int)), .int (iI ((lo (x >>> ((iI 7) &&& 31)) 12 : Nat) : Int)), .int (iI ((lo (x >>> ((iI 18) &&& 31)) 2 : Nat) : Int))] (dC, dI) (oW o0 a0 a1 q w) (oW o0 b0 b1 q' w') (some (.int (iI v)))) : ax l yL_act wsL_act { frames := 10, cells := 1, slots := 6, locals := 174 } [.ref o0, .int x] (dC, dI) [(o0, .inr (0, [.long (pk a0), .long (pk a1), .long (pkn q w), .int (iI ((w : Nat) : Int))]))] [(o0, .inr (0, [.long (pk b0), .long (pk b1), .long (pkn (q') (w')), .int (iI ((w' : Nat) : Int))]))] (some (.int (iI v))) := by
  refine Met.ofW (cc := cL_act) (maxL := 6) (ret := (some .int)) (by decide) rfl ?_
  intro P0 e s m args below meth c s₁ B hml hv
  obtain ⟨rfl, hP, hK, hD0, hG, hN⟩ := hv
  have hx := B.exec
  have hb := B.bytes
  have hr := B.returns
  have hts := atoms_spec (ws := wsL_act) B.pre
  have hown : s.vm.findClass RL = some m.cls := findClass_of_methodNamed B.named
  have hlocks := B.notSynchronized
  have hD : va_D (inW [(o0, .inr (0, [.long (pk a0), .long (pk a1), .long (pkn q w), .int (iI ((w : Nat) : Int))]))]) [(o0, .inr (0, [.long (pk a0), .long (pk a1), .long (pkn q w), .int (iI ((w : Nat) : Int))]))] := va_D_in hD0
  have hS : va_S (inW [(o0, .inr (0, [.long (pk a0), .long (pk a1), .long (pkn q w), .int (iI ((w : Nat) : Int))]))]) s.heap s.heap [] := va_S.rf
  have hl := lv_entry ([.ref o0, .int x]) (n := 6) (Nat.le_of_ble_eq_true rfl)
  rw [lg_entry_eq]
  generalize (lg_sl ([.ref o0, .int x]) ++ List.replicate (6 - (lg_sl ([.ref o0, .int x])).length) Slot.unset).toArray = ls at hl ⊢
  have hl : lv_has ls 6 [(0, .ref o0), (1, .int x)] := hl
  refine lv_iload_n hx hb dL_act_0 rfl (lv_at hl 1 rfl) ?_
  refine ib_bi hx hb dL_act_1 (by decide) ?_
  refine lv_ishr hx hb dL_act_3 ?_
  refine ib_bi hx hb dL_act_4 (by decide) ?_
  refine rd_call (va_runS (As := [.int (x >>> ((iI 24) &&& 31)), .int (iI 10)]) (rest := []) ⟨hx, hb, hml, hown, hts⟩ (mL_low l (x >>> ((iI 24) &&& 31)) 10 (by omega) (by omega)) (va_cwS 2 hts gL_act_L_low rfl rfl rfl hdL_low ⟨Nat.le_of_ble_eq_true rfl, Nat.le_of_ble_eq_true rfl⟩) tt_pre rfl rfl hl.1 rfl (lv_room (Nat.le_of_ble_eq_true rfl)) dL_act_6 ⟨Nat.le_of_ble_eq_true rfl, Nat.le_of_ble_eq_true rfl⟩) ?_
  have hlo_6 := lo_lt (x >>> ((iI 24) &&& 31)) (n := 10) (by omega)
  refine ib_if_ne (tgt := 16) hx hb dL_act_9 (by decide) ⟨by omega, by omega⟩ (fun c_9 => ?_) (fun c_9 => absurd c_9 (by omega))
  refine ib_const hx hb dL_act_16 ?_
  refine lv_istore_n (lv' := [(2, .int (iI 0)), (0, .ref o0), (1, .int x)]) hx hb dL_act_17 rfl hl (by decide) rfl (fun ls hl => ?_)
  refine lv_iload_n hx hb dL_act_18 rfl (lv_at hl 2 rfl) ?_
  refine ib_const hx hb dL_act_19 ?_
  refine lv_ishr hx hb dL_act_20 ?_
  refine ib_const hx hb dL_act_21 ?_
  refine lv_iload_n hx hb dL_act_22 rfl (lv_at hl 0 rfl) ?_
  refine ib_add (z := 2) hx hb dL_act_23 (by omega) ?_
  refine rd_call (va_runS (As := [.int (x >>> ((iI 3) &&& 31)), .int (iI 2)]) (rest := []) ⟨hx, hb, hml, hown, hts⟩ (mL_low l (x >>> ((iI 3) &&& 31)) 2 (by omega) (by omega)) (va_cwS 2 hts gL_act_L_low rfl rfl rfl hdL_low ⟨Nat.le_of_ble_eq_true rfl, Nat.le_of_ble_eq_true rfl⟩) tt_pre rfl rfl hl.1 rfl (lv_room (Nat.le_of_ble_eq_true rfl)) dL_act_24 ⟨Nat.le_of_ble_eq_true rfl, Nat.le_of_ble_eq_true rfl⟩) ?_
  have hlo_24 := lo_lt (x >>> ((iI 3) &&& 31)) (n := 2) (by omega)
  refine lv_istore_n (lv' := [(3, .int (iI ((lo (x >>> ((iI 3) &&& 31)) 2 : Nat) : Int))), (2, .int (iI 0)), (0, .ref o0), (1, .int x)]) hx hb dL_act_27 rfl hl (by decide) rfl (fun ls hl => ?_)
  refine lv_iload_n hx hb dL_act_28 rfl (lv_at hl 3 rfl) ?_
  refine ib_bi hx hb dL_act_29 (by decide) ?_
  refine lv_ishr hx hb dL_act_31 ?_
  refine ib_bi hx hb dL_act_32 (by decide) ?_
  refine lv_iload_n hx hb dL_act_34 rfl (lv_at hl 1 rfl) ?_
  refine ib_add (z := 12) hx hb dL_act_35 (by omega) ?_
  refine rd_call (va_runS (As := [.int (x >>> ((iI 7) &&& 31)), .int (iI 12)]) (rest := []) ⟨hx, hb, hml, hown, hts⟩ (mL_low l (x >>> ((iI 7) &&& 31)) 12 (by omega) (by omega)) (va_cwS 2 hts gL_act_L_low rfl rfl rfl hdL_low ⟨Nat.le_of_ble_eq_true rfl, Nat.le_of_ble_eq_true rfl⟩) tt_pre rfl rfl hl.1 rfl (lv_room (Nat.le_of_ble_eq_true rfl)) dL_act_36 ⟨Nat.le_of_ble_eq_true rfl, Nat.le_of_ble_eq_true rfl⟩) ?_
  have hlo_36 := lo_lt (x >>> ((iI 7) &&& 31)) (n := 12) (by omega)
  refine lv_istore (lv' := [(4, .int (iI ((lo (x >>> ((iI 7) &&& 31)) 12 : Nat) : Int))), (3, .int (iI ((lo (x >>> ((iI 3) &&& 31)) 2 : Nat) : Int))), (2, .int (iI 0)), (0, .ref o0), (1, .int x)]) hx hb dL_act_39 hl (by decide) rfl (fun ls hl => ?_)
  refine lv_iload_n hx hb dL_act_41 rfl (lv_at hl 4 rfl) ?_
  refine ib_bi hx hb dL_act_42 (by decide) ?_
  refine lv_ishr hx hb dL_act_44 ?_
  refine ib_bi hx hb dL_act_45 (by decide) ?_
  refine lv_iload_n hx hb dL_act_47 rfl (lv_at hl 2 rfl) ?_
  refine ib_add (z := 12) hx hb dL_act_48 (by omega) ?_
  refine rd_call (va_runS (As := [.int (x >>> ((iI 11) &&& 31)), .int (iI 12)]) (rest := []) ⟨hx, hb, hml, hown, hts⟩ (mL_low l (x >>> ((iI 11) &&& 31)) 12 (by omega) (by omega)) (va_cwS 2 hts gL_act_L_low rfl rfl rfl hdL_low ⟨Nat.le_of_ble_eq_true rfl, Nat.le_of_ble_eq_true rfl⟩) tt_pre rfl rfl hl.1 rfl (lv_room (Nat.le_of_ble_eq_true rfl)) dL_act_49 ⟨Nat.le_of_ble_eq_true rfl, Nat.le_of_ble_eq_true rfl⟩) ?_
  have hlo_49 := lo_lt (x >>> ((iI 11) &&& 31)) (n := 12) (by omega)
  refine lv_istore (lv' := [(5, .int (iI ((lo (x >>> ((iI 11) &&& 31)) 12 : Nat) : Int))), (4, .int (iI ((lo (x >>> ((iI 7) &&& 31)) 12 : Nat) : Int))), (3, .int (iI ((lo (x >>> ((iI 3) &&& 31)) 2 : Nat) : Int))), (2, .int (iI 0)), (0, .ref o0), (1, .int x)]) hx hb dL_act_52 hl (by decide) rfl (fun ls hl => ?_)
  refine lv_iload_n hx hb dL_act_54 rfl (lv_at hl 5 rfl) ?_
  refine ib_bi hx hb dL_act_55 (by decide) ?_
  refine rd_call (va_runS (As := [.int x, .int (iI 13)]) (rest := []) ⟨hx, hb, hml, hown, hts⟩ (mL_low l x 13 (by omega) (by omega)) (va_cwS 2 hts gL_act_L_low rfl rfl rfl hdL_low ⟨Nat.le_of_ble_eq_true rfl, Nat.le_of_ble_eq_true rfl⟩) tt_pre rfl rfl hl.1 rfl (lv_room (Nat.le_of_ble_eq_true rfl)) dL_act_57 ⟨Nat.le_of_ble_eq_true rfl, Nat.le_of_ble_eq_true rfl⟩) ?_
  have hlo_57 := lo_lt x (n := 13) (by omega)
  refine st_i (y := iI 0) (congrArg (fun z : Nat => iI ((z : Nat) : Int)) hv9) ?_
  refine lv_tableIn (off := 48) (tgt := 108) hx hb dL_act_60 (by decide) (by decide) (by decide) (by decide) ?_
  refine lv_aload_n hx hb dL_act_108 rfl (lv_at hl 4 rfl) ?_
  refine lv_iload_n hx hb dL_act_109 rfl (lv_at hl 2 rfl) ?_
  refine lv_iload_n hx hb dL_act_110 rfl (lv_at hl 5 rfl) ?_
  refine ib_bi hx hb dL_act_111 (by decide) ?_
  refine lv_ishr hx hb dL_act_113 ?_
  refine ib_const hx hb dL_act_114 ?_
  refine lv_iload_n hx hb dL_act_115 rfl (lv_at hl 3 rfl) ?_
  refine ib_add (z := 4) hx hb dL_act_116 (by omega) ?_
  refine rd_call (va_runS (As := [.int (x >>> ((iI 15) &&& 31)), .int (iI 4)]) (rest := [.int (iI ((lo (x >>> ((iI 3) &&& 31)) 2 : Nat) : Int)), .ref o0]) ⟨hx, hb, hml, hown, hts⟩ (mL_low l (x >>> ((iI 15) &&& 31)) 4 (by omega) (by omega)) (va_cwS 2 hts gL_act_L_low rfl rfl rfl hdL_low ⟨Nat.le_of_ble_eq_true rfl, Nat.le_of_ble_eq_true rfl⟩) tt_pre rfl rfl hl.1 rfl (lv_room (Nat.le_of_ble_eq_true rfl)) dL_act_117 ⟨Nat.le_of_ble_eq_true rfl, Nat.le_of_ble_eq_true rfl⟩) ?_
  have hlo_117 := lo_lt (x >>> ((iI 15) &&& 31)) (n := 4) (by omega)
  refine lv_iload hx hb dL_act_120 (lv_at hl 1 rfl) ?_
  refine lv_iload_n hx hb dL_act_122 rfl (lv_at hl 5 rfl) ?_
  refine ib_bi hx hb dL_act_123 (by decide) ?_
  refine lv_ishr hx hb dL_act_125 ?_
  refine ib_const hx hb dL_act_126 ?_
  refine lv_iload_n hx hb dL_act_127 rfl (lv_at hl 3 rfl) ?_
  refine ib_add (z := 2) hx hb dL_act_128 (by omega) ?_
  refine rd_call (va_runS (As := [.int (x >>> ((iI 18) &&& 31)), .int (iI 2)]) (rest := [.int (iI ((lo (x >>> ((iI 7) &&& 31)) 12 : Nat) : Int)), .int (iI ((lo (x >>> ((iI 15) &&& 31)) 4 : Nat) : Int)), .int (iI ((lo (x >>> ((iI 3) &&& 31)) 2 : Nat) : Int)), .ref o0]) ⟨hx, hb, hml, hown, hts⟩ (mL_low l (x >>> ((iI 18) &&& 31)) 2 (by omega) (by omega)) (va_cwS 2 hts gL_act_L_low rfl rfl rfl hdL_low ⟨Nat.le_of_ble_eq_true rfl, Nat.le_of_ble_eq_true rfl⟩) tt_pre rfl rfl hl.1 rfl (lv_room (Nat.le_of_ble_eq_true rfl)) dL_act_129 ⟨Nat.le_of_ble_eq_true rfl, Nat.le_of_ble_eq_true rfl⟩) ?_
  have hlo_129 := lo_lt (x >>> ((iI 18) &&& 31)) (n := 2) (by omega)
  refine ax_call (vx_runSW (As := [.ref o0, .int (iI ((lo (x >>> ((iI 3) &&& 31)) 2 : Nat) : Int)), .int (iI ((lo (x >>> ((iI 15) &&& 31)) 4 : Nat) : Int)), .int (iI ((lo (x >>> ((iI 7) &&& 31)) 12 : Nat) : Int)), .int (iI ((lo (x >>> ((iI 18) &&& 31)) 2 : Nat) : Int))]) (rest := []) ⟨hx, hb, hml, hown, hts⟩ hM (vx_cwSW 5 hts gL_act_L_take rfl rfl rfl hdL_take ⟨Nat.le_of_ble_eq_true rfl, Nat.le_of_ble_eq_true rfl⟩) (bZ_preS hK hP hD hG hN) rfl rfl hl.1 rfl (lv_room (Nat.le_of_ble_eq_true rfl)) dL_act_132 ⟨Nat.le_of_ble_eq_true rfl, Nat.le_of_ble_eq_true rfl⟩) hS (fun q9 h => h) (fun H locs hP hz hk hS => ?_)
  exact W.iret hx hb hr (fun t ht _ => ⟨rfl, by rw [ht]; exact hP, hS.F ht⟩) hS.2.2 dL_act_135

set_option maxHeartbeats 4000000 in
set_option maxRecDepth 100000 in
theorem act_0_1 (l : Launch) (hfl : l.stackTraces = false) (dC : Nat → ClassId) (dI : Nat → Nat → Nat) (o0 : Nat) (a0 a1 q : Nat → Nat) (w : Nat) (hp0 : Pm a0) (hp1 : Pm a1) (hw : w ≤ 12) (hq : ∀ i, i < w → q i < 12) (hqd : ∀ i j, i < w → j < w → q i = q j → i = j) (x : Int32) (ho : ¬ lo (x >>> ((iI 24) &&& 31)) 10 = 0) (hv9 : lo x 13 = 1)  (v : Int) (b0 b1 q' : Nat → Nat) (w' : Nat) (hM : ax l yL_take wsL_take { frames := 9, cells := 1, slots := 6, locals := 149 } [Value.ref o0, .int (iI ((lo (x >>> ((iI 3) &&& 31)) 2 : Nat) : Int)), .int (iI ((lo (x >>> ((iI 15) &&& 31)) 4 : Nat) : Int)), .int (iI ((lo (x >>> ((iI 7) &&& 31)) 12 : Nat) : Int)), .int (iI ((lo (x >>> ((iI 18) &&& 31)) 2 : Nat) : Int))] (dC, dI) (oW o0 a0 a1 q w) (oW o0 b0 b1 q' w') (some (.int (iI v)))) : ax l yL_act wsL_act { frames := 10, cells := 1, slots := 6, locals := 174 } [.ref o0, .int x] (dC, dI) [(o0, .inr (0, [.long (pk a0), .long (pk a1), .long (pkn q w), .int (iI ((w : Nat) : Int))]))] [(o0, .inr (0, [.long (pk b0), .long (pk b1), .long (pkn (q') (w')), .int (iI ((w' : Nat) : Int))]))] (some (.int (iI v))) := by
  refine Met.ofW (cc := cL_act) (maxL := 6) (ret := (some .int)) (by decide) rfl ?_
  intro P0 e s m args below meth c s₁ B hml hv
  obtain ⟨rfl, hP, hK, hD0, hG, hN⟩ := hv
  have hx := B.exec
  have hb := B.bytes
  have hr := B.returns
  have hts := atoms_spec (ws := wsL_act) B.pre
  have hown : s.vm.findClass RL = some m.cls := findClass_of_methodNamed B.named
  have hlocks := B.notSynchronized
  have hD : va_D (inW [(o0, .inr (0, [.long (pk a0), .long (pk a1), .long (pkn q w), .int (iI ((w : Nat) : Int))]))]) [(o0, .inr (0, [.long (pk a0), .long (pk a1), .long (pkn q w), .int (iI ((w : Nat) : Int))]))] := va_D_in hD0
  have hS : va_S (inW [(o0, .inr (0, [.long (pk a0), .long (pk a1), .long (pkn q w), .int (iI ((w : Nat) : Int))]))]) s.heap s.heap [] := va_S.rf
  have hl := lv_entry ([.ref o0, .int x]) (n := 6) (Nat.le_of_ble_eq_true rfl)
  rw [lg_entry_eq]
  generalize (lg_sl ([.ref o0, .int x]) ++ List.replicate (6 - (lg_sl ([.ref o0, .int x])).length) Slot.unset).toArray = ls at hl ⊢
  have hl : lv_has ls 6 [(0, .ref o0), (1, .int x)] := hl
  refine lv_iload_n hx hb dL_act_0 rfl (lv_at hl 1 rfl) ?_
  refine ib_bi hx hb dL_act_1 (by decide) ?_
  refine lv_ishr hx hb dL_act_3 ?_
  refine ib_bi hx hb dL_act_4 (by decide) ?_
  refine rd_call (va_runS (As := [.int (x >>> ((iI 24) &&& 31)), .int (iI 10)]) (rest := []) ⟨hx, hb, hml, hown, hts⟩ (mL_low l (x >>> ((iI 24) &&& 31)) 10 (by omega) (by omega)) (va_cwS 2 hts gL_act_L_low rfl rfl rfl hdL_low ⟨Nat.le_of_ble_eq_true rfl, Nat.le_of_ble_eq_true rfl⟩) tt_pre rfl rfl hl.1 rfl (lv_room (Nat.le_of_ble_eq_true rfl)) dL_act_6 ⟨Nat.le_of_ble_eq_true rfl, Nat.le_of_ble_eq_true rfl⟩) ?_
  have hlo_6 := lo_lt (x >>> ((iI 24) &&& 31)) (n := 10) (by omega)
  refine ib_if_ne (tgt := 16) hx hb dL_act_9 (by decide) ⟨by omega, by omega⟩ (fun c_9 => ?_) (fun c_9 => absurd c_9 (by omega))
  refine ib_const hx hb dL_act_16 ?_
  refine lv_istore_n (lv' := [(2, .int (iI 0)), (0, .ref o0), (1, .int x)]) hx hb dL_act_17 rfl hl (by decide) rfl (fun ls hl => ?_)
  refine lv_iload_n hx hb dL_act_18 rfl (lv_at hl 2 rfl) ?_
  refine ib_const hx hb dL_act_19 ?_
  refine lv_ishr hx hb dL_act_20 ?_
  refine ib_const hx hb dL_act_21 ?_
  refine lv_iload_n hx hb dL_act_22 rfl (lv_at hl 0 rfl) ?_
  refine ib_add (z := 2) hx hb dL_act_23 (by omega) ?_
  refine rd_call (va_runS (As := [.int (x >>> ((iI 3) &&& 31)), .int (iI 2)]) (rest := []) ⟨hx, hb, hml, hown, hts⟩ (mL_low l (x >>> ((iI 3) &&& 31)) 2 (by omega) (by omega)) (va_cwS 2 hts gL_act_L_low rfl rfl rfl hdL_low ⟨Nat.le_of_ble_eq_true rfl, Nat.le_of_ble_eq_true rfl⟩) tt_pre rfl rfl hl.1 rfl (lv_room (Nat.le_of_ble_eq_true rfl)) dL_act_24 ⟨Nat.le_of_ble_eq_true rfl, Nat.le_of_ble_eq_true rfl⟩) ?_
  have hlo_24 := lo_lt (x >>> ((iI 3) &&& 31)) (n := 2) (by omega)
  refine lv_istore_n (lv' := [(3, .int (iI ((lo (x >>> ((iI 3) &&& 31)) 2 : Nat) : Int))), (2, .int (iI 0)), (0, .ref o0), (1, .int x)]) hx hb dL_act_27 rfl hl (by decide) rfl (fun ls hl => ?_)
  refine lv_iload_n hx hb dL_act_28 rfl (lv_at hl 3 rfl) ?_
  refine ib_bi hx hb dL_act_29 (by decide) ?_
  refine lv_ishr hx hb dL_act_31 ?_
  refine ib_bi hx hb dL_act_32 (by decide) ?_
  refine lv_iload_n hx hb dL_act_34 rfl (lv_at hl 1 rfl) ?_
  refine ib_add (z := 12) hx hb dL_act_35 (by omega) ?_
  refine rd_call (va_runS (As := [.int (x >>> ((iI 7) &&& 31)), .int (iI 12)]) (rest := []) ⟨hx, hb, hml, hown, hts⟩ (mL_low l (x >>> ((iI 7) &&& 31)) 12 (by omega) (by omega)) (va_cwS 2 hts gL_act_L_low rfl rfl rfl hdL_low ⟨Nat.le_of_ble_eq_true rfl, Nat.le_of_ble_eq_true rfl⟩) tt_pre rfl rfl hl.1 rfl (lv_room (Nat.le_of_ble_eq_true rfl)) dL_act_36 ⟨Nat.le_of_ble_eq_true rfl, Nat.le_of_ble_eq_true rfl⟩) ?_
  have hlo_36 := lo_lt (x >>> ((iI 7) &&& 31)) (n := 12) (by omega)
  refine lv_istore (lv' := [(4, .int (iI ((lo (x >>> ((iI 7) &&& 31)) 12 : Nat) : Int))), (3, .int (iI ((lo (x >>> ((iI 3) &&& 31)) 2 : Nat) : Int))), (2, .int (iI 0)), (0, .ref o0), (1, .int x)]) hx hb dL_act_39 hl (by decide) rfl (fun ls hl => ?_)
  refine lv_iload_n hx hb dL_act_41 rfl (lv_at hl 4 rfl) ?_
  refine ib_bi hx hb dL_act_42 (by decide) ?_
  refine lv_ishr hx hb dL_act_44 ?_
  refine ib_bi hx hb dL_act_45 (by decide) ?_
  refine lv_iload_n hx hb dL_act_47 rfl (lv_at hl 2 rfl) ?_
  refine ib_add (z := 12) hx hb dL_act_48 (by omega) ?_
  refine rd_call (va_runS (As := [.int (x >>> ((iI 11) &&& 31)), .int (iI 12)]) (rest := []) ⟨hx, hb, hml, hown, hts⟩ (mL_low l (x >>> ((iI 11) &&& 31)) 12 (by omega) (by omega)) (va_cwS 2 hts gL_act_L_low rfl rfl rfl hdL_low ⟨Nat.le_of_ble_eq_true rfl, Nat.le_of_ble_eq_true rfl⟩) tt_pre rfl rfl hl.1 rfl (lv_room (Nat.le_of_ble_eq_true rfl)) dL_act_49 ⟨Nat.le_of_ble_eq_true rfl, Nat.le_of_ble_eq_true rfl⟩) ?_
  have hlo_49 := lo_lt (x >>> ((iI 11) &&& 31)) (n := 12) (by omega)
  refine lv_istore (lv' := [(5, .int (iI ((lo (x >>> ((iI 11) &&& 31)) 12 : Nat) : Int))), (4, .int (iI ((lo (x >>> ((iI 7) &&& 31)) 12 : Nat) : Int))), (3, .int (iI ((lo (x >>> ((iI 3) &&& 31)) 2 : Nat) : Int))), (2, .int (iI 0)), (0, .ref o0), (1, .int x)]) hx hb dL_act_52 hl (by decide) rfl (fun ls hl => ?_)
  refine lv_iload_n hx hb dL_act_54 rfl (lv_at hl 5 rfl) ?_
  refine ib_bi hx hb dL_act_55 (by decide) ?_
  refine rd_call (va_runS (As := [.int x, .int (iI 13)]) (rest := []) ⟨hx, hb, hml, hown, hts⟩ (mL_low l x 13 (by omega) (by omega)) (va_cwS 2 hts gL_act_L_low rfl rfl rfl hdL_low ⟨Nat.le_of_ble_eq_true rfl, Nat.le_of_ble_eq_true rfl⟩) tt_pre rfl rfl hl.1 rfl (lv_room (Nat.le_of_ble_eq_true rfl)) dL_act_57 ⟨Nat.le_of_ble_eq_true rfl, Nat.le_of_ble_eq_true rfl⟩) ?_
  have hlo_57 := lo_lt x (n := 13) (by omega)
  refine st_i (y := iI 1) (congrArg (fun z : Nat => iI ((z : Nat) : Int)) hv9) ?_
  refine lv_tableIn (off := 48) (tgt := 108) hx hb dL_act_60 (by decide) (by decide) (by decide) (by decide) ?_
  refine lv_aload_n hx hb dL_act_108 rfl (lv_at hl 4 rfl) ?_
  refine lv_iload_n hx hb dL_act_109 rfl (lv_at hl 2 rfl) ?_
  refine lv_iload_n hx hb dL_act_110 rfl (lv_at hl 5 rfl) ?_
  refine ib_bi hx hb dL_act_111 (by decide) ?_
  refine lv_ishr hx hb dL_act_113 ?_
  refine ib_const hx hb dL_act_114 ?_
  refine lv_iload_n hx hb dL_act_115 rfl (lv_at hl 3 rfl) ?_
  refine ib_add (z := 4) hx hb dL_act_116 (by omega) ?_
  refine rd_call (va_runS (As := [.int (x >>> ((iI 15) &&& 31)), .int (iI 4)]) (rest := [.int (iI ((lo (x >>> ((iI 3) &&& 31)) 2 : Nat) : Int)), .ref o0]) ⟨hx, hb, hml, hown, hts⟩ (mL_low l (x >>> ((iI 15) &&& 31)) 4 (by omega) (by omega)) (va_cwS 2 hts gL_act_L_low rfl rfl rfl hdL_low ⟨Nat.le_of_ble_eq_true rfl, Nat.le_of_ble_eq_true rfl⟩) tt_pre rfl rfl hl.1 rfl (lv_room (Nat.le_of_ble_eq_true rfl)) dL_act_117 ⟨Nat.le_of_ble_eq_true rfl, Nat.le_of_ble_eq_true rfl⟩) ?_
  have hlo_117 := lo_lt (x >>> ((iI 15) &&& 31)) (n := 4) (by omega)
  refine lv_iload hx hb dL_act_120 (lv_at hl 1 rfl) ?_
  refine lv_iload_n hx hb dL_act_122 rfl (lv_at hl 5 rfl) ?_
  refine ib_bi hx hb dL_act_123 (by decide) ?_
  refine lv_ishr hx hb dL_act_125 ?_
  refine ib_const hx hb dL_act_126 ?_
  refine lv_iload_n hx hb dL_act_127 rfl (lv_at hl 3 rfl) ?_
  refine ib_add (z := 2) hx hb dL_act_128 (by omega) ?_
  refine rd_call (va_runS (As := [.int (x >>> ((iI 18) &&& 31)), .int (iI 2)]) (rest := [.int (iI ((lo (x >>> ((iI 7) &&& 31)) 12 : Nat) : Int)), .int (iI ((lo (x >>> ((iI 15) &&& 31)) 4 : Nat) : Int)), .int (iI ((lo (x >>> ((iI 3) &&& 31)) 2 : Nat) : Int)), .ref o0]) ⟨hx, hb, hml, hown, hts⟩ (mL_low l (x >>> ((iI 18) &&& 31)) 2 (by omega) (by omega)) (va_cwS 2 hts gL_act_L_low rfl rfl rfl hdL_low ⟨Nat.le_of_ble_eq_true rfl, Nat.le_of_ble_eq_true rfl⟩) tt_pre rfl rfl hl.1 rfl (lv_room (Nat.le_of_ble_eq_true rfl)) dL_act_129 ⟨Nat.le_of_ble_eq_true rfl, Nat.le_of_ble_eq_true rfl⟩) ?_
  have hlo_129 := lo_lt (x >>> ((iI 18) &&& 31)) (n := 2) (by omega)
  refine ax_call (vx_runSW (As := [.ref o0, .int (iI ((lo (x >>> ((iI 3) &&& 31)) 2 : Nat) : Int)), .int (iI ((lo (x >>> ((iI 15) &&& 31)) 4 : Nat) : Int)), .int (iI ((lo (x >>> ((iI 7) &&& 31)) 12 : Nat) : Int)), .int (iI ((lo (x >>> ((iI 18) &&& 31)) 2 : Nat) : Int))]) (rest := []) ⟨hx, hb, hml, hown, hts⟩ hM (vx_cwSW 5 hts gL_act_L_take rfl rfl rfl hdL_take ⟨Nat.le_of_ble_eq_true rfl, Nat.le_of_ble_eq_true rfl⟩) (bZ_preS hK hP hD hG hN) rfl rfl hl.1 rfl (lv_room (Nat.le_of_ble_eq_true rfl)) dL_act_132 ⟨Nat.le_of_ble_eq_true rfl, Nat.le_of_ble_eq_true rfl⟩) hS (fun q9 h => h) (fun H locs hP hz hk hS => ?_)
  exact W.iret hx hb hr (fun t ht _ => ⟨rfl, by rw [ht]; exact hP, hS.F ht⟩) hS.2.2 dL_act_135

set_option maxHeartbeats 4000000 in
set_option maxRecDepth 100000 in
theorem act_0_2a (l : Launch) (hfl : l.stackTraces = false) (dC : Nat → ClassId) (dI : Nat → Nat → Nat) (o0 : Nat) (a0 a1 q : Nat → Nat) (w : Nat) (hp0 : Pm a0) (hp1 : Pm a1) (hw : w ≤ 12) (hq : ∀ i, i < w → q i < 12) (hqd : ∀ i j, i < w → j < w → q i = q j → i = j) (x : Int32) (ho : ¬ lo (x >>> ((iI 24) &&& 31)) 10 = 0) (hv9 : lo x 13 = 2) (h4 : lo (x >>> ((iI 9) &&& 31)) 4 = 0) (v : Int) (b0 b1 q' : Nat → Nat) (w' : Nat) (hM : ax l yL_multiply wsL_multiply { frames := 8, cells := 1, slots := 6, locals := 129 } [Value.ref o0, .int (iI ((lo (x >>> ((iI 3) &&& 31)) 2 : Nat) : Int)), .int (iI 1)] (dC, dI) (oW o0 a0 a1 q w) (oW o0 b0 b1 q' w') (some (.int (iI v)))) : ax l yL_act wsL_act { frames := 10, cells := 1, slots := 6, locals := 174 } [.ref o0, .int x] (dC, dI) [(o0, .inr (0, [.long (pk a0), .long (pk a1), .long (pkn q w), .int (iI ((w : Nat) : Int))]))] [(o0, .inr (0, [.long (pk b0), .long (pk b1), .long (pkn (q') (w')), .int (iI ((w' : Nat) : Int))]))] (some (.int (iI v))) := by
  refine Met.ofW (cc := cL_act) (maxL := 6) (ret := (some .int)) (by decide) rfl ?_
  intro P0 e s m args below meth c s₁ B hml hv
  obtain ⟨rfl, hP, hK, hD0, hG, hN⟩ := hv
  have hx := B.exec
  have hb := B.bytes
  have hr := B.returns
  have hts := atoms_spec (ws := wsL_act) B.pre
  have hown : s.vm.findClass RL = some m.cls := findClass_of_methodNamed B.named
  have hlocks := B.notSynchronized
  have hD : va_D (inW [(o0, .inr (0, [.long (pk a0), .long (pk a1), .long (pkn q w), .int (iI ((w : Nat) : Int))]))]) [(o0, .inr (0, [.long (pk a0), .long (pk a1), .long (pkn q w), .int (iI ((w : Nat) : Int))]))] := va_D_in hD0
  have hS : va_S (inW [(o0, .inr (0, [.long (pk a0), .long (pk a1), .long (pkn q w), .int (iI ((w : Nat) : Int))]))]) s.heap s.heap [] := va_S.rf
  have hl := lv_entry ([.ref o0, .int x]) (n := 6) (Nat.le_of_ble_eq_true rfl)
  rw [lg_entry_eq]
  generalize (lg_sl ([.ref o0, .int x]) ++ List.replicate (6 - (lg_sl ([.ref o0, .int x])).length) Slot.unset).toArray = ls at hl ⊢
  have hl : lv_has ls 6 [(0, .ref o0), (1, .int x)] := hl
  refine lv_iload_n hx hb dL_act_0 rfl (lv_at hl 1 rfl) ?_
  refine ib_bi hx hb dL_act_1 (by decide) ?_
  refine lv_ishr hx hb dL_act_3 ?_
  refine ib_bi hx hb dL_act_4 (by decide) ?_
  refine rd_call (va_runS (As := [.int (x >>> ((iI 24) &&& 31)), .int (iI 10)]) (rest := []) ⟨hx, hb, hml, hown, hts⟩ (mL_low l (x >>> ((iI 24) &&& 31)) 10 (by omega) (by omega)) (va_cwS 2 hts gL_act_L_low rfl rfl rfl hdL_low ⟨Nat.le_of_ble_eq_true rfl, Nat.le_of_ble_eq_true rfl⟩) tt_pre rfl rfl hl.1 rfl (lv_room (Nat.le_of_ble_eq_true rfl)) dL_act_6 ⟨Nat.le_of_ble_eq_true rfl, Nat.le_of_ble_eq_true rfl⟩) ?_
  have hlo_6 := lo_lt (x >>> ((iI 24) &&& 31)) (n := 10) (by omega)
  refine ib_if_ne (tgt := 16) hx hb dL_act_9 (by decide) ⟨by omega, by omega⟩ (fun c_9 => ?_) (fun c_9 => absurd c_9 (by omega))
  refine ib_const hx hb dL_act_16 ?_
  refine lv_istore_n (lv' := [(2, .int (iI 0)), (0, .ref o0), (1, .int x)]) hx hb dL_act_17 rfl hl (by decide) rfl (fun ls hl => ?_)
  refine lv_iload_n hx hb dL_act_18 rfl (lv_at hl 2 rfl) ?_
  refine ib_const hx hb dL_act_19 ?_
  refine lv_ishr hx hb dL_act_20 ?_
  refine ib_const hx hb dL_act_21 ?_
  refine lv_iload_n hx hb dL_act_22 rfl (lv_at hl 0 rfl) ?_
  refine ib_add (z := 2) hx hb dL_act_23 (by omega) ?_
  refine rd_call (va_runS (As := [.int (x >>> ((iI 3) &&& 31)), .int (iI 2)]) (rest := []) ⟨hx, hb, hml, hown, hts⟩ (mL_low l (x >>> ((iI 3) &&& 31)) 2 (by omega) (by omega)) (va_cwS 2 hts gL_act_L_low rfl rfl rfl hdL_low ⟨Nat.le_of_ble_eq_true rfl, Nat.le_of_ble_eq_true rfl⟩) tt_pre rfl rfl hl.1 rfl (lv_room (Nat.le_of_ble_eq_true rfl)) dL_act_24 ⟨Nat.le_of_ble_eq_true rfl, Nat.le_of_ble_eq_true rfl⟩) ?_
  have hlo_24 := lo_lt (x >>> ((iI 3) &&& 31)) (n := 2) (by omega)
  refine lv_istore_n (lv' := [(3, .int (iI ((lo (x >>> ((iI 3) &&& 31)) 2 : Nat) : Int))), (2, .int (iI 0)), (0, .ref o0), (1, .int x)]) hx hb dL_act_27 rfl hl (by decide) rfl (fun ls hl => ?_)
  refine lv_iload_n hx hb dL_act_28 rfl (lv_at hl 3 rfl) ?_
  refine ib_bi hx hb dL_act_29 (by decide) ?_
  refine lv_ishr hx hb dL_act_31 ?_
  refine ib_bi hx hb dL_act_32 (by decide) ?_
  refine lv_iload_n hx hb dL_act_34 rfl (lv_at hl 1 rfl) ?_
  refine ib_add (z := 12) hx hb dL_act_35 (by omega) ?_
  refine rd_call (va_runS (As := [.int (x >>> ((iI 7) &&& 31)), .int (iI 12)]) (rest := []) ⟨hx, hb, hml, hown, hts⟩ (mL_low l (x >>> ((iI 7) &&& 31)) 12 (by omega) (by omega)) (va_cwS 2 hts gL_act_L_low rfl rfl rfl hdL_low ⟨Nat.le_of_ble_eq_true rfl, Nat.le_of_ble_eq_true rfl⟩) tt_pre rfl rfl hl.1 rfl (lv_room (Nat.le_of_ble_eq_true rfl)) dL_act_36 ⟨Nat.le_of_ble_eq_true rfl, Nat.le_of_ble_eq_true rfl⟩) ?_
  have hlo_36 := lo_lt (x >>> ((iI 7) &&& 31)) (n := 12) (by omega)
  refine lv_istore (lv' := [(4, .int (iI ((lo (x >>> ((iI 7) &&& 31)) 12 : Nat) : Int))), (3, .int (iI ((lo (x >>> ((iI 3) &&& 31)) 2 : Nat) : Int))), (2, .int (iI 0)), (0, .ref o0), (1, .int x)]) hx hb dL_act_39 hl (by decide) rfl (fun ls hl => ?_)
  refine lv_iload_n hx hb dL_act_41 rfl (lv_at hl 4 rfl) ?_
  refine ib_bi hx hb dL_act_42 (by decide) ?_
  refine lv_ishr hx hb dL_act_44 ?_
  refine ib_bi hx hb dL_act_45 (by decide) ?_
  refine lv_iload_n hx hb dL_act_47 rfl (lv_at hl 2 rfl) ?_
  refine ib_add (z := 12) hx hb dL_act_48 (by omega) ?_
  refine rd_call (va_runS (As := [.int (x >>> ((iI 11) &&& 31)), .int (iI 12)]) (rest := []) ⟨hx, hb, hml, hown, hts⟩ (mL_low l (x >>> ((iI 11) &&& 31)) 12 (by omega) (by omega)) (va_cwS 2 hts gL_act_L_low rfl rfl rfl hdL_low ⟨Nat.le_of_ble_eq_true rfl, Nat.le_of_ble_eq_true rfl⟩) tt_pre rfl rfl hl.1 rfl (lv_room (Nat.le_of_ble_eq_true rfl)) dL_act_49 ⟨Nat.le_of_ble_eq_true rfl, Nat.le_of_ble_eq_true rfl⟩) ?_
  have hlo_49 := lo_lt (x >>> ((iI 11) &&& 31)) (n := 12) (by omega)
  refine lv_istore (lv' := [(5, .int (iI ((lo (x >>> ((iI 11) &&& 31)) 12 : Nat) : Int))), (4, .int (iI ((lo (x >>> ((iI 7) &&& 31)) 12 : Nat) : Int))), (3, .int (iI ((lo (x >>> ((iI 3) &&& 31)) 2 : Nat) : Int))), (2, .int (iI 0)), (0, .ref o0), (1, .int x)]) hx hb dL_act_52 hl (by decide) rfl (fun ls hl => ?_)
  refine lv_iload_n hx hb dL_act_54 rfl (lv_at hl 5 rfl) ?_
  refine ib_bi hx hb dL_act_55 (by decide) ?_
  refine rd_call (va_runS (As := [.int x, .int (iI 13)]) (rest := []) ⟨hx, hb, hml, hown, hts⟩ (mL_low l x 13 (by omega) (by omega)) (va_cwS 2 hts gL_act_L_low rfl rfl rfl hdL_low ⟨Nat.le_of_ble_eq_true rfl, Nat.le_of_ble_eq_true rfl⟩) tt_pre rfl rfl hl.1 rfl (lv_room (Nat.le_of_ble_eq_true rfl)) dL_act_57 ⟨Nat.le_of_ble_eq_true rfl, Nat.le_of_ble_eq_true rfl⟩) ?_
  have hlo_57 := lo_lt x (n := 13) (by omega)
  refine st_i (y := iI 2) (congrArg (fun z : Nat => iI ((z : Nat) : Int)) hv9) ?_
  refine lv_tableIn (off := 76) (tgt := 136) hx hb dL_act_60 (by decide) (by decide) (by decide) (by decide) ?_
  refine lv_aload_n hx hb dL_act_136 rfl (lv_at hl 4 rfl) ?_
  refine lv_iload_n hx hb dL_act_137 rfl (lv_at hl 2 rfl) ?_
  refine lv_iload_n hx hb dL_act_138 rfl (lv_at hl 3 rfl) ?_
  refine ib_const hx hb dL_act_139 ?_
  refine ib_icmp_ne (tgt := 155) hx hb dL_act_140 (by decide) ⟨by omega, by omega⟩ ⟨by omega, by omega⟩ (fun c_140 => ?_) (fun c_140 => absurd c_140 (by decide))
  refine lv_iload_n hx hb dL_act_155 rfl (lv_at hl 5 rfl) ?_
  refine ib_bi hx hb dL_act_156 (by decide) ?_
  refine lv_ishr hx hb dL_act_158 ?_
  refine ib_const hx hb dL_act_159 ?_
  refine rd_call (va_runS (As := [.int (x >>> ((iI 9) &&& 31)), .int (iI 4)]) (rest := [.int (iI ((lo (x >>> ((iI 3) &&& 31)) 2 : Nat) : Int)), .ref o0]) ⟨hx, hb, hml, hown, hts⟩ (mL_low l (x >>> ((iI 9) &&& 31)) 4 (by omega) (by omega)) (va_cwS 2 hts gL_act_L_low rfl rfl rfl hdL_low ⟨Nat.le_of_ble_eq_true rfl, Nat.le_of_ble_eq_true rfl⟩) tt_pre rfl rfl hl.1 rfl (lv_room (Nat.le_of_ble_eq_true rfl)) dL_act_160 ⟨Nat.le_of_ble_eq_true rfl, Nat.le_of_ble_eq_true rfl⟩) ?_
  have hlo_160 := lo_lt (x >>> ((iI 9) &&& 31)) (n := 4) (by omega)
  refine ib_if_ne (tgt := 170) hx hb dL_act_163 (by decide) ⟨by omega, by omega⟩ (fun c_163 => absurd c_163 (by omega)) (fun c_163 => ?_)
  refine ib_const hx hb dL_act_166 ?_
  refine lv_goto (tgt := 205) hx hb dL_act_167 (by decide) ?_
  refine ax_call (vx_runSW (As := [.ref o0, .int (iI ((lo (x >>> ((iI 3) &&& 31)) 2 : Nat) : Int)), .int (iI 1)]) (rest := []) ⟨hx, hb, hml, hown, hts⟩ hM (vx_cwSW 3 hts gL_act_L_multiply rfl rfl rfl hdL_multiply ⟨Nat.le_of_ble_eq_true rfl, Nat.le_of_ble_eq_true rfl⟩) (bZ_preS hK hP hD hG hN) rfl rfl hl.1 rfl (lv_room (Nat.le_of_ble_eq_true rfl)) dL_act_205 ⟨Nat.le_of_ble_eq_true rfl, Nat.le_of_ble_eq_true rfl⟩) hS (fun q9 h => h) (fun H locs hP hz hk hS => ?_)
  exact W.iret hx hb hr (fun t ht _ => ⟨rfl, by rw [ht]; exact hP, hS.F ht⟩) hS.2.2 dL_act_208

set_option maxHeartbeats 4000000 in
set_option maxRecDepth 100000 in
theorem act_0_2b (l : Launch) (hfl : l.stackTraces = false) (dC : Nat → ClassId) (dI : Nat → Nat → Nat) (o0 : Nat) (a0 a1 q : Nat → Nat) (w : Nat) (hp0 : Pm a0) (hp1 : Pm a1) (hw : w ≤ 12) (hq : ∀ i, i < w → q i < 12) (hqd : ∀ i j, i < w → j < w → q i = q j → i = j) (x : Int32) (ho : ¬ lo (x >>> ((iI 24) &&& 31)) 10 = 0) (hv9 : lo x 13 = 2) (h4 : lo (x >>> ((iI 9) &&& 31)) 4 = 1) (v : Int) (b0 b1 q' : Nat → Nat) (w' : Nat) (hM : ax l yL_multiply wsL_multiply { frames := 8, cells := 1, slots := 6, locals := 129 } [Value.ref o0, .int (iI ((lo (x >>> ((iI 3) &&& 31)) 2 : Nat) : Int)), .int (iI 5)] (dC, dI) (oW o0 a0 a1 q w) (oW o0 b0 b1 q' w') (some (.int (iI v)))) : ax l yL_act wsL_act { frames := 10, cells := 1, slots := 6, locals := 174 } [.ref o0, .int x] (dC, dI) [(o0, .inr (0, [.long (pk a0), .long (pk a1), .long (pkn q w), .int (iI ((w : Nat) : Int))]))] [(o0, .inr (0, [.long (pk b0), .long (pk b1), .long (pkn (q') (w')), .int (iI ((w' : Nat) : Int))]))] (some (.int (iI v))) := by
  refine Met.ofW (cc := cL_act) (maxL := 6) (ret := (some .int)) (by decide) rfl ?_
  intro P0 e s m args below meth c s₁ B hml hv
  obtain ⟨rfl, hP, hK, hD0, hG, hN⟩ := hv
  have hx := B.exec
  have hb := B.bytes
  have hr := B.returns
  have hts := atoms_spec (ws := wsL_act) B.pre
  have hown : s.vm.findClass RL = some m.cls := findClass_of_methodNamed B.named
  have hlocks := B.notSynchronized
  have hD : va_D (inW [(o0, .inr (0, [.long (pk a0), .long (pk a1), .long (pkn q w), .int (iI ((w : Nat) : Int))]))]) [(o0, .inr (0, [.long (pk a0), .long (pk a1), .long (pkn q w), .int (iI ((w : Nat) : Int))]))] := va_D_in hD0
  have hS : va_S (inW [(o0, .inr (0, [.long (pk a0), .long (pk a1), .long (pkn q w), .int (iI ((w : Nat) : Int))]))]) s.heap s.heap [] := va_S.rf
  have hl := lv_entry ([.ref o0, .int x]) (n := 6) (Nat.le_of_ble_eq_true rfl)
  rw [lg_entry_eq]
  generalize (lg_sl ([.ref o0, .int x]) ++ List.replicate (6 - (lg_sl ([.ref o0, .int x])).length) Slot.unset).toArray = ls at hl ⊢
  have hl : lv_has ls 6 [(0, .ref o0), (1, .int x)] := hl
  refine lv_iload_n hx hb dL_act_0 rfl (lv_at hl 1 rfl) ?_
  refine ib_bi hx hb dL_act_1 (by decide) ?_
  refine lv_ishr hx hb dL_act_3 ?_
  refine ib_bi hx hb dL_act_4 (by decide) ?_
  refine rd_call (va_runS (As := [.int (x >>> ((iI 24) &&& 31)), .int (iI 10)]) (rest := []) ⟨hx, hb, hml, hown, hts⟩ (mL_low l (x >>> ((iI 24) &&& 31)) 10 (by omega) (by omega)) (va_cwS 2 hts gL_act_L_low rfl rfl rfl hdL_low ⟨Nat.le_of_ble_eq_true rfl, Nat.le_of_ble_eq_true rfl⟩) tt_pre rfl rfl hl.1 rfl (lv_room (Nat.le_of_ble_eq_true rfl)) dL_act_6 ⟨Nat.le_of_ble_eq_true rfl, Nat.le_of_ble_eq_true rfl⟩) ?_
  have hlo_6 := lo_lt (x >>> ((iI 24) &&& 31)) (n := 10) (by omega)
  refine ib_if_ne (tgt := 16) hx hb dL_act_9 (by decide) ⟨by omega, by omega⟩ (fun c_9 => ?_) (fun c_9 => absurd c_9 (by omega))
  refine ib_const hx hb dL_act_16 ?_
  refine lv_istore_n (lv' := [(2, .int (iI 0)), (0, .ref o0), (1, .int x)]) hx hb dL_act_17 rfl hl (by decide) rfl (fun ls hl => ?_)
  refine lv_iload_n hx hb dL_act_18 rfl (lv_at hl 2 rfl) ?_
  refine ib_const hx hb dL_act_19 ?_
  refine lv_ishr hx hb dL_act_20 ?_
  refine ib_const hx hb dL_act_21 ?_
  refine lv_iload_n hx hb dL_act_22 rfl (lv_at hl 0 rfl) ?_
  refine ib_add (z := 2) hx hb dL_act_23 (by omega) ?_
  refine rd_call (va_runS (As := [.int (x >>> ((iI 3) &&& 31)), .int (iI 2)]) (rest := []) ⟨hx, hb, hml, hown, hts⟩ (mL_low l (x >>> ((iI 3) &&& 31)) 2 (by omega) (by omega)) (va_cwS 2 hts gL_act_L_low rfl rfl rfl hdL_low ⟨Nat.le_of_ble_eq_true rfl, Nat.le_of_ble_eq_true rfl⟩) tt_pre rfl rfl hl.1 rfl (lv_room (Nat.le_of_ble_eq_true rfl)) dL_act_24 ⟨Nat.le_of_ble_eq_true rfl, Nat.le_of_ble_eq_true rfl⟩) ?_
  have hlo_24 := lo_lt (x >>> ((iI 3) &&& 31)) (n := 2) (by omega)
  refine lv_istore_n (lv' := [(3, .int (iI ((lo (x >>> ((iI 3) &&& 31)) 2 : Nat) : Int))), (2, .int (iI 0)), (0, .ref o0), (1, .int x)]) hx hb dL_act_27 rfl hl (by decide) rfl (fun ls hl => ?_)
  refine lv_iload_n hx hb dL_act_28 rfl (lv_at hl 3 rfl) ?_
  refine ib_bi hx hb dL_act_29 (by decide) ?_
  refine lv_ishr hx hb dL_act_31 ?_
  refine ib_bi hx hb dL_act_32 (by decide) ?_
  refine lv_iload_n hx hb dL_act_34 rfl (lv_at hl 1 rfl) ?_
  refine ib_add (z := 12) hx hb dL_act_35 (by omega) ?_
  refine rd_call (va_runS (As := [.int (x >>> ((iI 7) &&& 31)), .int (iI 12)]) (rest := []) ⟨hx, hb, hml, hown, hts⟩ (mL_low l (x >>> ((iI 7) &&& 31)) 12 (by omega) (by omega)) (va_cwS 2 hts gL_act_L_low rfl rfl rfl hdL_low ⟨Nat.le_of_ble_eq_true rfl, Nat.le_of_ble_eq_true rfl⟩) tt_pre rfl rfl hl.1 rfl (lv_room (Nat.le_of_ble_eq_true rfl)) dL_act_36 ⟨Nat.le_of_ble_eq_true rfl, Nat.le_of_ble_eq_true rfl⟩) ?_
  have hlo_36 := lo_lt (x >>> ((iI 7) &&& 31)) (n := 12) (by omega)
  refine lv_istore (lv' := [(4, .int (iI ((lo (x >>> ((iI 7) &&& 31)) 12 : Nat) : Int))), (3, .int (iI ((lo (x >>> ((iI 3) &&& 31)) 2 : Nat) : Int))), (2, .int (iI 0)), (0, .ref o0), (1, .int x)]) hx hb dL_act_39 hl (by decide) rfl (fun ls hl => ?_)
  refine lv_iload_n hx hb dL_act_41 rfl (lv_at hl 4 rfl) ?_
  refine ib_bi hx hb dL_act_42 (by decide) ?_
  refine lv_ishr hx hb dL_act_44 ?_
  refine ib_bi hx hb dL_act_45 (by decide) ?_
  refine lv_iload_n hx hb dL_act_47 rfl (lv_at hl 2 rfl) ?_
  refine ib_add (z := 12) hx hb dL_act_48 (by omega) ?_
  refine rd_call (va_runS (As := [.int (x >>> ((iI 11) &&& 31)), .int (iI 12)]) (rest := []) ⟨hx, hb, hml, hown, hts⟩ (mL_low l (x >>> ((iI 11) &&& 31)) 12 (by omega) (by omega)) (va_cwS 2 hts gL_act_L_low rfl rfl rfl hdL_low ⟨Nat.le_of_ble_eq_true rfl, Nat.le_of_ble_eq_true rfl⟩) tt_pre rfl rfl hl.1 rfl (lv_room (Nat.le_of_ble_eq_true rfl)) dL_act_49 ⟨Nat.le_of_ble_eq_true rfl, Nat.le_of_ble_eq_true rfl⟩) ?_
  have hlo_49 := lo_lt (x >>> ((iI 11) &&& 31)) (n := 12) (by omega)
  refine lv_istore (lv' := [(5, .int (iI ((lo (x >>> ((iI 11) &&& 31)) 12 : Nat) : Int))), (4, .int (iI ((lo (x >>> ((iI 7) &&& 31)) 12 : Nat) : Int))), (3, .int (iI ((lo (x >>> ((iI 3) &&& 31)) 2 : Nat) : Int))), (2, .int (iI 0)), (0, .ref o0), (1, .int x)]) hx hb dL_act_52 hl (by decide) rfl (fun ls hl => ?_)
  refine lv_iload_n hx hb dL_act_54 rfl (lv_at hl 5 rfl) ?_
  refine ib_bi hx hb dL_act_55 (by decide) ?_
  refine rd_call (va_runS (As := [.int x, .int (iI 13)]) (rest := []) ⟨hx, hb, hml, hown, hts⟩ (mL_low l x 13 (by omega) (by omega)) (va_cwS 2 hts gL_act_L_low rfl rfl rfl hdL_low ⟨Nat.le_of_ble_eq_true rfl, Nat.le_of_ble_eq_true rfl⟩) tt_pre rfl rfl hl.1 rfl (lv_room (Nat.le_of_ble_eq_true rfl)) dL_act_57 ⟨Nat.le_of_ble_eq_true rfl, Nat.le_of_ble_eq_true rfl⟩) ?_
  have hlo_57 := lo_lt x (n := 13) (by omega)
  refine st_i (y := iI 2) (congrArg (fun z : Nat => iI ((z : Nat) : Int)) hv9) ?_
  refine lv_tableIn (off := 76) (tgt := 136) hx hb dL_act_60 (by decide) (by decide) (by decide) (by decide) ?_
  refine lv_aload_n hx hb dL_act_136 rfl (lv_at hl 4 rfl) ?_
  refine lv_iload_n hx hb dL_act_137 rfl (lv_at hl 2 rfl) ?_
  refine lv_iload_n hx hb dL_act_138 rfl (lv_at hl 3 rfl) ?_
  refine ib_const hx hb dL_act_139 ?_
  refine ib_icmp_ne (tgt := 155) hx hb dL_act_140 (by decide) ⟨by omega, by omega⟩ ⟨by omega, by omega⟩ (fun c_140 => ?_) (fun c_140 => absurd c_140 (by decide))
  refine lv_iload_n hx hb dL_act_155 rfl (lv_at hl 5 rfl) ?_
  refine ib_bi hx hb dL_act_156 (by decide) ?_
  refine lv_ishr hx hb dL_act_158 ?_
  refine ib_const hx hb dL_act_159 ?_
  refine rd_call (va_runS (As := [.int (x >>> ((iI 9) &&& 31)), .int (iI 4)]) (rest := [.int (iI ((lo (x >>> ((iI 3) &&& 31)) 2 : Nat) : Int)), .ref o0]) ⟨hx, hb, hml, hown, hts⟩ (mL_low l (x >>> ((iI 9) &&& 31)) 4 (by omega) (by omega)) (va_cwS 2 hts gL_act_L_low rfl rfl rfl hdL_low ⟨Nat.le_of_ble_eq_true rfl, Nat.le_of_ble_eq_true rfl⟩) tt_pre rfl rfl hl.1 rfl (lv_room (Nat.le_of_ble_eq_true rfl)) dL_act_160 ⟨Nat.le_of_ble_eq_true rfl, Nat.le_of_ble_eq_true rfl⟩) ?_
  have hlo_160 := lo_lt (x >>> ((iI 9) &&& 31)) (n := 4) (by omega)
  refine ib_if_ne (tgt := 170) hx hb dL_act_163 (by decide) ⟨by omega, by omega⟩ (fun c_163 => ?_) (fun c_163 => absurd c_163 (by omega))
  refine lv_iload_n hx hb dL_act_170 rfl (lv_at hl 5 rfl) ?_
  refine ib_bi hx hb dL_act_171 (by decide) ?_
  refine lv_ishr hx hb dL_act_173 ?_
  refine ib_const hx hb dL_act_174 ?_
  refine rd_call (va_runS (As := [.int (x >>> ((iI 9) &&& 31)), .int (iI 4)]) (rest := [.int (iI ((lo (x >>> ((iI 3) &&& 31)) 2 : Nat) : Int)), .ref o0]) ⟨hx, hb, hml, hown, hts⟩ (mL_low l (x >>> ((iI 9) &&& 31)) 4 (by omega) (by omega)) (va_cwS 2 hts gL_act_L_low rfl rfl rfl hdL_low ⟨Nat.le_of_ble_eq_true rfl, Nat.le_of_ble_eq_true rfl⟩) tt_pre rfl rfl hl.1 rfl (lv_room (Nat.le_of_ble_eq_true rfl)) dL_act_175 ⟨Nat.le_of_ble_eq_true rfl, Nat.le_of_ble_eq_true rfl⟩) ?_
  have hlo_175 := lo_lt (x >>> ((iI 9) &&& 31)) (n := 4) (by omega)
  refine ib_const hx hb dL_act_178 ?_
  refine ib_icmp_ne (tgt := 186) hx hb dL_act_179 (by decide) ⟨by omega, by omega⟩ ⟨by omega, by omega⟩ (fun c_179 => absurd c_179 (by omega)) (fun c_179 => ?_)
  refine ib_const hx hb dL_act_182 ?_
  refine lv_goto (tgt := 205) hx hb dL_act_183 (by decide) ?_
  refine ax_call (vx_runSW (As := [.ref o0, .int (iI ((lo (x >>> ((iI 3) &&& 31)) 2 : Nat) : Int)), .int (iI 5)]) (rest := []) ⟨hx, hb, hml, hown, hts⟩ hM (vx_cwSW 3 hts gL_act_L_multiply rfl rfl rfl hdL_multiply ⟨Nat.le_of_ble_eq_true rfl, Nat.le_of_ble_eq_true rfl⟩) (bZ_preS hK hP hD hG hN) rfl rfl hl.1 rfl (lv_room (Nat.le_of_ble_eq_true rfl)) dL_act_205 ⟨Nat.le_of_ble_eq_true rfl, Nat.le_of_ble_eq_true rfl⟩) hS (fun q9 h => h) (fun H locs hP hz hk hS => ?_)
  exact W.iret hx hb hr (fun t ht _ => ⟨rfl, by rw [ht]; exact hP, hS.F ht⟩) hS.2.2 dL_act_208

set_option maxHeartbeats 4000000 in
set_option maxRecDepth 100000 in
theorem act_0_2c (l : Launch) (hfl : l.stackTraces = false) (dC : Nat → ClassId) (dI : Nat → Nat → Nat) (o0 : Nat) (a0 a1 q : Nat → Nat) (w : Nat) (hp0 : Pm a0) (hp1 : Pm a1) (hw : w ≤ 12) (hq : ∀ i, i < w → q i < 12) (hqd : ∀ i j, i < w → j < w → q i = q j → i = j) (x : Int32) (ho : ¬ lo (x >>> ((iI 24) &&& 31)) 10 = 0) (hv9 : lo x 13 = 2) (h4 : lo (x >>> ((iI 9) &&& 31)) 4 = 2) (v : Int) (b0 b1 q' : Nat → Nat) (w' : Nat) (hM : ax l yL_multiply wsL_multiply { frames := 8, cells := 1, slots := 6, locals := 129 } [Value.ref o0, .int (iI ((lo (x >>> ((iI 3) &&& 31)) 2 : Nat) : Int)), .int (iI 7)] (dC, dI) (oW o0 a0 a1 q w) (oW o0 b0 b1 q' w') (some (.int (iI v)))) : ax l yL_act wsL_act { frames := 10, cells := 1, slots := 6, locals := 174 } [.ref o0, .int x] (dC, dI) [(o0, .inr (0, [.long (pk a0), .long (pk a1), .long (pkn q w), .int (iI ((w : Nat) : Int))]))] [(o0, .inr (0, [.long (pk b0), .long (pk b1), .long (pkn (q') (w')), .int (iI ((w' : Nat) : Int))]))] (some (.int (iI v))) := by
  refine Met.ofW (cc := cL_act) (maxL := 6) (ret := (some .int)) (by decide) rfl ?_
  intro P0 e s m args below meth c s₁ B hml hv
  obtain ⟨rfl, hP, hK, hD0, hG, hN⟩ := hv
  have hx := B.exec
  have hb := B.bytes
  have hr := B.returns
  have hts := atoms_spec (ws := wsL_act) B.pre
  have hown : s.vm.findClass RL = some m.cls := findClass_of_methodNamed B.named
  have hlocks := B.notSynchronized
  have hD : va_D (inW [(o0, .inr (0, [.long (pk a0), .long (pk a1), .long (pkn q w), .int (iI ((w : Nat) : Int))]))]) [(o0, .inr (0, [.long (pk a0), .long (pk a1), .long (pkn q w), .int (iI ((w : Nat) : Int))]))] := va_D_in hD0
  have hS : va_S (inW [(o0, .inr (0, [.long (pk a0), .long (pk a1), .long (pkn q w), .int (iI ((w : Nat) : Int))]))]) s.heap s.heap [] := va_S.rf
  have hl := lv_entry ([.ref o0, .int x]) (n := 6) (Nat.le_of_ble_eq_true rfl)
  rw [lg_entry_eq]
  generalize (lg_sl ([.ref o0, .int x]) ++ List.replicate (6 - (lg_sl ([.ref o0, .int x])).length) Slot.unset).toArray = ls at hl ⊢
  have hl : lv_has ls 6 [(0, .ref o0), (1, .int x)] := hl
  refine lv_iload_n hx hb dL_act_0 rfl (lv_at hl 1 rfl) ?_
  refine ib_bi hx hb dL_act_1 (by decide) ?_
  refine lv_ishr hx hb dL_act_3 ?_
  refine ib_bi hx hb dL_act_4 (by decide) ?_
  refine rd_call (va_runS (As := [.int (x >>> ((iI 24) &&& 31)), .int (iI 10)]) (rest := []) ⟨hx, hb, hml, hown, hts⟩ (mL_low l (x >>> ((iI 24) &&& 31)) 10 (by omega) (by omega)) (va_cwS 2 hts gL_act_L_low rfl rfl rfl hdL_low ⟨Nat.le_of_ble_eq_true rfl, Nat.le_of_ble_eq_true rfl⟩) tt_pre rfl rfl hl.1 rfl (lv_room (Nat.le_of_ble_eq_true rfl)) dL_act_6 ⟨Nat.le_of_ble_eq_true rfl, Nat.le_of_ble_eq_true rfl⟩) ?_
  have hlo_6 := lo_lt (x >>> ((iI 24) &&& 31)) (n := 10) (by omega)
  refine ib_if_ne (tgt := 16) hx hb dL_act_9 (by decide) ⟨by omega, by omega⟩ (fun c_9 => ?_) (fun c_9 => absurd c_9 (by omega))
  refine ib_const hx hb dL_act_16 ?_
  refine lv_istore_n (lv' := [(2, .int (iI 0)), (0, .ref o0), (1, .int x)]) hx hb dL_act_17 rfl hl (by decide) rfl (fun ls hl => ?_)
  refine lv_iload_n hx hb dL_act_18 rfl (lv_at hl 2 rfl) ?_
  refine ib_const hx hb dL_act_19 ?_
  refine lv_ishr hx hb dL_act_20 ?_
  refine ib_const hx hb dL_act_21 ?_
  refine lv_iload_n hx hb dL_act_22 rfl (lv_at hl 0 rfl) ?_
  refine ib_add (z := 2) hx hb dL_act_23 (by omega) ?_
  refine rd_call (va_runS (As := [.int (x >>> ((iI 3) &&& 31)), .int (iI 2)]) (rest := []) ⟨hx, hb, hml, hown, hts⟩ (mL_low l (x >>> ((iI 3) &&& 31)) 2 (by omega) (by omega)) (va_cwS 2 hts gL_act_L_low rfl rfl rfl hdL_low ⟨Nat.le_of_ble_eq_true rfl, Nat.le_of_ble_eq_true rfl⟩) tt_pre rfl rfl hl.1 rfl (lv_room (Nat.le_of_ble_eq_true rfl)) dL_act_24 ⟨Nat.le_of_ble_eq_true rfl, Nat.le_of_ble_eq_true rfl⟩) ?_
  have hlo_24 := lo_lt (x >>> ((iI 3) &&& 31)) (n := 2) (by omega)
  refine lv_istore_n (lv' := [(3, .int (iI ((lo (x >>> ((iI 3) &&& 31)) 2 : Nat) : Int))), (2, .int (iI 0)), (0, .ref o0), (1, .int x)]) hx hb dL_act_27 rfl hl (by decide) rfl (fun ls hl => ?_)
  refine lv_iload_n hx hb dL_act_28 rfl (lv_at hl 3 rfl) ?_
  refine ib_bi hx hb dL_act_29 (by decide) ?_
  refine lv_ishr hx hb dL_act_31 ?_
  refine ib_bi hx hb dL_act_32 (by decide) ?_
  refine lv_iload_n hx hb dL_act_34 rfl (lv_at hl 1 rfl) ?_
  refine ib_add (z := 12) hx hb dL_act_35 (by omega) ?_
  refine rd_call (va_runS (As := [.int (x >>> ((iI 7) &&& 31)), .int (iI 12)]) (rest := []) ⟨hx, hb, hml, hown, hts⟩ (mL_low l (x >>> ((iI 7) &&& 31)) 12 (by omega) (by omega)) (va_cwS 2 hts gL_act_L_low rfl rfl rfl hdL_low ⟨Nat.le_of_ble_eq_true rfl, Nat.le_of_ble_eq_true rfl⟩) tt_pre rfl rfl hl.1 rfl (lv_room (Nat.le_of_ble_eq_true rfl)) dL_act_36 ⟨Nat.le_of_ble_eq_true rfl, Nat.le_of_ble_eq_true rfl⟩) ?_
  have hlo_36 := lo_lt (x >>> ((iI 7) &&& 31)) (n := 12) (by omega)
  refine lv_istore (lv' := [(4, .int (iI ((lo (x >>> ((iI 7) &&& 31)) 12 : Nat) : Int))), (3, .int (iI ((lo (x >>> ((iI 3) &&& 31)) 2 : Nat) : Int))), (2, .int (iI 0)), (0, .ref o0), (1, .int x)]) hx hb dL_act_39 hl (by decide) rfl (fun ls hl => ?_)
  refine lv_iload_n hx hb dL_act_41 rfl (lv_at hl 4 rfl) ?_
  refine ib_bi hx hb dL_act_42 (by decide) ?_
  refine lv_ishr hx hb dL_act_44 ?_
  refine ib_bi hx hb dL_act_45 (by decide) ?_
  refine lv_iload_n hx hb dL_act_47 rfl (lv_at hl 2 rfl) ?_
  refine ib_add (z := 12) hx hb dL_act_48 (by omega) ?_
  refine rd_call (va_runS (As := [.int (x >>> ((iI 11) &&& 31)), .int (iI 12)]) (rest := []) ⟨hx, hb, hml, hown, hts⟩ (mL_low l (x >>> ((iI 11) &&& 31)) 12 (by omega) (by omega)) (va_cwS 2 hts gL_act_L_low rfl rfl rfl hdL_low ⟨Nat.le_of_ble_eq_true rfl, Nat.le_of_ble_eq_true rfl⟩) tt_pre rfl rfl hl.1 rfl (lv_room (Nat.le_of_ble_eq_true rfl)) dL_act_49 ⟨Nat.le_of_ble_eq_true rfl, Nat.le_of_ble_eq_true rfl⟩) ?_
  have hlo_49 := lo_lt (x >>> ((iI 11) &&& 31)) (n := 12) (by omega)
  refine lv_istore (lv' := [(5, .int (iI ((lo (x >>> ((iI 11) &&& 31)) 12 : Nat) : Int))), (4, .int (iI ((lo (x >>> ((iI 7) &&& 31)) 12 : Nat) : Int))), (3, .int (iI ((lo (x >>> ((iI 3) &&& 31)) 2 : Nat) : Int))), (2, .int (iI 0)), (0, .ref o0), (1, .int x)]) hx hb dL_act_52 hl (by decide) rfl (fun ls hl => ?_)
  refine lv_iload_n hx hb dL_act_54 rfl (lv_at hl 5 rfl) ?_
  refine ib_bi hx hb dL_act_55 (by decide) ?_
  refine rd_call (va_runS (As := [.int x, .int (iI 13)]) (rest := []) ⟨hx, hb, hml, hown, hts⟩ (mL_low l x 13 (by omega) (by omega)) (va_cwS 2 hts gL_act_L_low rfl rfl rfl hdL_low ⟨Nat.le_of_ble_eq_true rfl, Nat.le_of_ble_eq_true rfl⟩) tt_pre rfl rfl hl.1 rfl (lv_room (Nat.le_of_ble_eq_true rfl)) dL_act_57 ⟨Nat.le_of_ble_eq_true rfl, Nat.le_of_ble_eq_true rfl⟩) ?_
  have hlo_57 := lo_lt x (n := 13) (by omega)
  refine st_i (y := iI 2) (congrArg (fun z : Nat => iI ((z : Nat) : Int)) hv9) ?_
  refine lv_tableIn (off := 76) (tgt := 136) hx hb dL_act_60 (by decide) (by decide) (by decide) (by decide) ?_
  refine lv_aload_n hx hb dL_act_136 rfl (lv_at hl 4 rfl) ?_
  refine lv_iload_n hx hb dL_act_137 rfl (lv_at hl 2 rfl) ?_
  refine lv_iload_n hx hb dL_act_138 rfl (lv_at hl 3 rfl) ?_
  refine ib_const hx hb dL_act_139 ?_
  refine ib_icmp_ne (tgt := 155) hx hb dL_act_140 (by decide) ⟨by omega, by omega⟩ ⟨by omega, by omega⟩ (fun c_140 => ?_) (fun c_140 => absurd c_140 (by decide))
  refine lv_iload_n hx hb dL_act_155 rfl (lv_at hl 5 rfl) ?_
  refine ib_bi hx hb dL_act_156 (by decide) ?_
  refine lv_ishr hx hb dL_act_158 ?_
  refine ib_const hx hb dL_act_159 ?_
  refine rd_call (va_runS (As := [.int (x >>> ((iI 9) &&& 31)), .int (iI 4)]) (rest := [.int (iI ((lo (x >>> ((iI 3) &&& 31)) 2 : Nat) : Int)), .ref o0]) ⟨hx, hb, hml, hown, hts⟩ (mL_low l (x >>> ((iI 9) &&& 31)) 4 (by omega) (by omega)) (va_cwS 2 hts gL_act_L_low rfl rfl rfl hdL_low ⟨Nat.le_of_ble_eq_true rfl, Nat.le_of_ble_eq_true rfl⟩) tt_pre rfl rfl hl.1 rfl (lv_room (Nat.le_of_ble_eq_true rfl)) dL_act_160 ⟨Nat.le_of_ble_eq_true rfl, Nat.le_of_ble_eq_true rfl⟩) ?_
  have hlo_160 := lo_lt (x >>> ((iI 9) &&& 31)) (n := 4) (by omega)
  refine ib_if_ne (tgt := 170) hx hb dL_act_163 (by decide) ⟨by omega, by omega⟩ (fun c_163 => ?_) (fun c_163 => absurd c_163 (by omega))
  refine lv_iload_n hx hb dL_act_170 rfl (lv_at hl 5 rfl) ?_
  refine ib_bi hx hb dL_act_171 (by decide) ?_
  refine lv_ishr hx hb dL_act_173 ?_
  refine ib_const hx hb dL_act_174 ?_
  refine rd_call (va_runS (As := [.int (x >>> ((iI 9) &&& 31)), .int (iI 4)]) (rest := [.int (iI ((lo (x >>> ((iI 3) &&& 31)) 2 : Nat) : Int)), .ref o0]) ⟨hx, hb, hml, hown, hts⟩ (mL_low l (x >>> ((iI 9) &&& 31)) 4 (by omega) (by omega)) (va_cwS 2 hts gL_act_L_low rfl rfl rfl hdL_low ⟨Nat.le_of_ble_eq_true rfl, Nat.le_of_ble_eq_true rfl⟩) tt_pre rfl rfl hl.1 rfl (lv_room (Nat.le_of_ble_eq_true rfl)) dL_act_175 ⟨Nat.le_of_ble_eq_true rfl, Nat.le_of_ble_eq_true rfl⟩) ?_
  have hlo_175 := lo_lt (x >>> ((iI 9) &&& 31)) (n := 4) (by omega)
  refine ib_const hx hb dL_act_178 ?_
  refine ib_icmp_ne (tgt := 186) hx hb dL_act_179 (by decide) ⟨by omega, by omega⟩ ⟨by omega, by omega⟩ (fun c_179 => ?_) (fun c_179 => absurd c_179 (by omega))
  refine lv_iload_n hx hb dL_act_186 rfl (lv_at hl 5 rfl) ?_
  refine ib_bi hx hb dL_act_187 (by decide) ?_
  refine lv_ishr hx hb dL_act_189 ?_
  refine ib_const hx hb dL_act_190 ?_
  refine rd_call (va_runS (As := [.int (x >>> ((iI 9) &&& 31)), .int (iI 4)]) (rest := [.int (iI ((lo (x >>> ((iI 3) &&& 31)) 2 : Nat) : Int)), .ref o0]) ⟨hx, hb, hml, hown, hts⟩ (mL_low l (x >>> ((iI 9) &&& 31)) 4 (by omega) (by omega)) (va_cwS 2 hts gL_act_L_low rfl rfl rfl hdL_low ⟨Nat.le_of_ble_eq_true rfl, Nat.le_of_ble_eq_true rfl⟩) tt_pre rfl rfl hl.1 rfl (lv_room (Nat.le_of_ble_eq_true rfl)) dL_act_191 ⟨Nat.le_of_ble_eq_true rfl, Nat.le_of_ble_eq_true rfl⟩) ?_
  have hlo_191 := lo_lt (x >>> ((iI 9) &&& 31)) (n := 4) (by omega)
  refine ib_const hx hb dL_act_194 ?_
  refine ib_icmp_ne (tgt := 203) hx hb dL_act_195 (by decide) ⟨by omega, by omega⟩ ⟨by omega, by omega⟩ (fun c_195 => absurd c_195 (by omega)) (fun c_195 => ?_)
  refine ib_bi hx hb dL_act_198 (by decide) ?_
  refine lv_goto (tgt := 205) hx hb dL_act_200 (by decide) ?_
  refine ax_call (vx_runSW (As := [.ref o0, .int (iI ((lo (x >>> ((iI 3) &&& 31)) 2 : Nat) : Int)), .int (iI 7)]) (rest := []) ⟨hx, hb, hml, hown, hts⟩ hM (vx_cwSW 3 hts gL_act_L_multiply rfl rfl rfl hdL_multiply ⟨Nat.le_of_ble_eq_true rfl, Nat.le_of_ble_eq_true rfl⟩) (bZ_preS hK hP hD hG hN) rfl rfl hl.1 rfl (lv_room (Nat.le_of_ble_eq_true rfl)) dL_act_205 ⟨Nat.le_of_ble_eq_true rfl, Nat.le_of_ble_eq_true rfl⟩) hS (fun q9 h => h) (fun H locs hP hz hk hS => ?_)
  exact W.iret hx hb hr (fun t ht _ => ⟨rfl, by rw [ht]; exact hP, hS.F ht⟩) hS.2.2 dL_act_208

set_option maxHeartbeats 4000000 in
set_option maxRecDepth 100000 in
theorem act_0_2d (l : Launch) (hfl : l.stackTraces = false) (dC : Nat → ClassId) (dI : Nat → Nat → Nat) (o0 : Nat) (a0 a1 q : Nat → Nat) (w : Nat) (hp0 : Pm a0) (hp1 : Pm a1) (hw : w ≤ 12) (hq : ∀ i, i < w → q i < 12) (hqd : ∀ i j, i < w → j < w → q i = q j → i = j) (x : Int32) (ho : ¬ lo (x >>> ((iI 24) &&& 31)) 10 = 0) (hv9 : lo x 13 = 2) (h4 : lo (x >>> ((iI 9) &&& 31)) 4 = 3) (v : Int) (b0 b1 q' : Nat → Nat) (w' : Nat) (hM : ax l yL_multiply wsL_multiply { frames := 8, cells := 1, slots := 6, locals := 129 } [Value.ref o0, .int (iI ((lo (x >>> ((iI 3) &&& 31)) 2 : Nat) : Int)), .int (iI 11)] (dC, dI) (oW o0 a0 a1 q w) (oW o0 b0 b1 q' w') (some (.int (iI v)))) : ax l yL_act wsL_act { frames := 10, cells := 1, slots := 6, locals := 174 } [.ref o0, .int x] (dC, dI) [(o0, .inr (0, [.long (pk a0), .long (pk a1), .long (pkn q w), .int (iI ((w : Nat) : Int))]))] [(o0, .inr (0, [.long (pk b0), .long (pk b1), .long (pkn (q') (w')), .int (iI ((w' : Nat) : Int))]))] (some (.int (iI v))) := by
  refine Met.ofW (cc := cL_act) (maxL := 6) (ret := (some .int)) (by decide) rfl ?_
  intro P0 e s m args below meth c s₁ B hml hv
  obtain ⟨rfl, hP, hK, hD0, hG, hN⟩ := hv
  have hx := B.exec
  have hb := B.bytes
  have hr := B.returns
  have hts := atoms_spec (ws := wsL_act) B.pre
  have hown : s.vm.findClass RL = some m.cls := findClass_of_methodNamed B.named
  have hlocks := B.notSynchronized
  have hD : va_D (inW [(o0, .inr (0, [.long (pk a0), .long (pk a1), .long (pkn q w), .int (iI ((w : Nat) : Int))]))]) [(o0, .inr (0, [.long (pk a0), .long (pk a1), .long (pkn q w), .int (iI ((w : Nat) : Int))]))] := va_D_in hD0
  have hS : va_S (inW [(o0, .inr (0, [.long (pk a0), .long (pk a1), .long (pkn q w), .int (iI ((w : Nat) : Int))]))]) s.heap s.heap [] := va_S.rf
  have hl := lv_entry ([.ref o0, .int x]) (n := 6) (Nat.le_of_ble_eq_true rfl)
  rw [lg_entry_eq]
  generalize (lg_sl ([.ref o0, .int x]) ++ List.replicate (6 - (lg_sl ([.ref o0, .int x])).length) Slot.unset).toArray = ls at hl ⊢
  have hl : lv_has ls 6 [(0, .ref o0), (1, .int x)] := hl
  refine lv_iload_n hx hb dL_act_0 rfl (lv_at hl 1 rfl) ?_
  refine ib_bi hx hb dL_act_1 (by decide) ?_
  refine lv_ishr hx hb dL_act_3 ?_
  refine ib_bi hx hb dL_act_4 (by decide) ?_
  refine rd_call (va_runS (As := [.int (x >>> ((iI 24) &&& 31)), .int (iI 10)]) (rest := []) ⟨hx, hb, hml, hown, hts⟩ (mL_low l (x >>> ((iI 24) &&& 31)) 10 (by omega) (by omega)) (va_cwS 2 hts gL_act_L_low rfl rfl rfl hdL_low ⟨Nat.le_of_ble_eq_true rfl, Nat.le_of_ble_eq_true rfl⟩) tt_pre rfl rfl hl.1 rfl (lv_room (Nat.le_of_ble_eq_true rfl)) dL_act_6 ⟨Nat.le_of_ble_eq_true rfl, Nat.le_of_ble_eq_true rfl⟩) ?_
  have hlo_6 := lo_lt (x >>> ((iI 24) &&& 31)) (n := 10) (by omega)
  refine ib_if_ne (tgt := 16) hx hb dL_act_9 (by decide) ⟨by omega, by omega⟩ (fun c_9 => ?_) (fun c_9 => absurd c_9 (by omega))
  refine ib_const hx hb dL_act_16 ?_
  refine lv_istore_n (lv' := [(2, .int (iI 0)), (0, .ref o0), (1, .int x)]) hx hb dL_act_17 rfl hl (by decide) rfl (fun ls hl => ?_)
  refine lv_iload_n hx hb dL_act_18 rfl (lv_at hl 2 rfl) ?_
  refine ib_const hx hb dL_act_19 ?_
  refine lv_ishr hx hb dL_act_20 ?_
  refine ib_const hx hb dL_act_21 ?_
  refine lv_iload_n hx hb dL_act_22 rfl (lv_at hl 0 rfl) ?_
  refine ib_add (z := 2) hx hb dL_act_23 (by omega) ?_
  refine rd_call (va_runS (As := [.int (x >>> ((iI 3) &&& 31)), .int (iI 2)]) (rest := []) ⟨hx, hb, hml, hown, hts⟩ (mL_low l (x >>> ((iI 3) &&& 31)) 2 (by omega) (by omega)) (va_cwS 2 hts gL_act_L_low rfl rfl rfl hdL_low ⟨Nat.le_of_ble_eq_true rfl, Nat.le_of_ble_eq_true rfl⟩) tt_pre rfl rfl hl.1 rfl (lv_room (Nat.le_of_ble_eq_true rfl)) dL_act_24 ⟨Nat.le_of_ble_eq_true rfl, Nat.le_of_ble_eq_true rfl⟩) ?_
  have hlo_24 := lo_lt (x >>> ((iI 3) &&& 31)) (n := 2) (by omega)
  refine lv_istore_n (lv' := [(3, .int (iI ((lo (x >>> ((iI 3) &&& 31)) 2 : Nat) : Int))), (2, .int (iI 0)), (0, .ref o0), (1, .int x)]) hx hb dL_act_27 rfl hl (by decide) rfl (fun ls hl => ?_)
  refine lv_iload_n hx hb dL_act_28 rfl (lv_at hl 3 rfl) ?_
  refine ib_bi hx hb dL_act_29 (by decide) ?_
  refine lv_ishr hx hb dL_act_31 ?_
  refine ib_bi hx hb dL_act_32 (by decide) ?_
  refine lv_iload_n hx hb dL_act_34 rfl (lv_at hl 1 rfl) ?_
  refine ib_add (z := 12) hx hb dL_act_35 (by omega) ?_
  refine rd_call (va_runS (As := [.int (x >>> ((iI 7) &&& 31)), .int (iI 12)]) (rest := []) ⟨hx, hb, hml, hown, hts⟩ (mL_low l (x >>> ((iI 7) &&& 31)) 12 (by omega) (by omega)) (va_cwS 2 hts gL_act_L_low rfl rfl rfl hdL_low ⟨Nat.le_of_ble_eq_true rfl, Nat.le_of_ble_eq_true rfl⟩) tt_pre rfl rfl hl.1 rfl (lv_room (Nat.le_of_ble_eq_true rfl)) dL_act_36 ⟨Nat.le_of_ble_eq_true rfl, Nat.le_of_ble_eq_true rfl⟩) ?_
  have hlo_36 := lo_lt (x >>> ((iI 7) &&& 31)) (n := 12) (by omega)
  refine lv_istore (lv' := [(4, .int (iI ((lo (x >>> ((iI 7) &&& 31)) 12 : Nat) : Int))), (3, .int (iI ((lo (x >>> ((iI 3) &&& 31)) 2 : Nat) : Int))), (2, .int (iI 0)), (0, .ref o0), (1, .int x)]) hx hb dL_act_39 hl (by decide) rfl (fun ls hl => ?_)
  refine lv_iload_n hx hb dL_act_41 rfl (lv_at hl 4 rfl) ?_
  refine ib_bi hx hb dL_act_42 (by decide) ?_
  refine lv_ishr hx hb dL_act_44 ?_
  refine ib_bi hx hb dL_act_45 (by decide) ?_
  refine lv_iload_n hx hb dL_act_47 rfl (lv_at hl 2 rfl) ?_
  refine ib_add (z := 12) hx hb dL_act_48 (by omega) ?_
  refine rd_call (va_runS (As := [.int (x >>> ((iI 11) &&& 31)), .int (iI 12)]) (rest := []) ⟨hx, hb, hml, hown, hts⟩ (mL_low l (x >>> ((iI 11) &&& 31)) 12 (by omega) (by omega)) (va_cwS 2 hts gL_act_L_low rfl rfl rfl hdL_low ⟨Nat.le_of_ble_eq_true rfl, Nat.le_of_ble_eq_true rfl⟩) tt_pre rfl rfl hl.1 rfl (lv_room (Nat.le_of_ble_eq_true rfl)) dL_act_49 ⟨Nat.le_of_ble_eq_true rfl, Nat.le_of_ble_eq_true rfl⟩) ?_
  have hlo_49 := lo_lt (x >>> ((iI 11) &&& 31)) (n := 12) (by omega)
  refine lv_istore (lv' := [(5, .int (iI ((lo (x >>> ((iI 11) &&& 31)) 12 : Nat) : Int))), (4, .int (iI ((lo (x >>> ((iI 7) &&& 31)) 12 : Nat) : Int))), (3, .int (iI ((lo (x >>> ((iI 3) &&& 31)) 2 : Nat) : Int))), (2, .int (iI 0)), (0, .ref o0), (1, .int x)]) hx hb dL_act_52 hl (by decide) rfl (fun ls hl => ?_)
  refine lv_iload_n hx hb dL_act_54 rfl (lv_at hl 5 rfl) ?_
  refine ib_bi hx hb dL_act_55 (by decide) ?_
  refine rd_call (va_runS (As := [.int x, .int (iI 13)]) (rest := []) ⟨hx, hb, hml, hown, hts⟩ (mL_low l x 13 (by omega) (by omega)) (va_cwS 2 hts gL_act_L_low rfl rfl rfl hdL_low ⟨Nat.le_of_ble_eq_true rfl, Nat.le_of_ble_eq_true rfl⟩) tt_pre rfl rfl hl.1 rfl (lv_room (Nat.le_of_ble_eq_true rfl)) dL_act_57 ⟨Nat.le_of_ble_eq_true rfl, Nat.le_of_ble_eq_true rfl⟩) ?_
  have hlo_57 := lo_lt x (n := 13) (by omega)
  refine st_i (y := iI 2) (congrArg (fun z : Nat => iI ((z : Nat) : Int)) hv9) ?_
  refine lv_tableIn (off := 76) (tgt := 136) hx hb dL_act_60 (by decide) (by decide) (by decide) (by decide) ?_
  refine lv_aload_n hx hb dL_act_136 rfl (lv_at hl 4 rfl) ?_
  refine lv_iload_n hx hb dL_act_137 rfl (lv_at hl 2 rfl) ?_
  refine lv_iload_n hx hb dL_act_138 rfl (lv_at hl 3 rfl) ?_
  refine ib_const hx hb dL_act_139 ?_
  refine ib_icmp_ne (tgt := 155) hx hb dL_act_140 (by decide) ⟨by omega, by omega⟩ ⟨by omega, by omega⟩ (fun c_140 => ?_) (fun c_140 => absurd c_140 (by decide))
  refine lv_iload_n hx hb dL_act_155 rfl (lv_at hl 5 rfl) ?_
  refine ib_bi hx hb dL_act_156 (by decide) ?_
  refine lv_ishr hx hb dL_act_158 ?_
  refine ib_const hx hb dL_act_159 ?_
  refine rd_call (va_runS (As := [.int (x >>> ((iI 9) &&& 31)), .int (iI 4)]) (rest := [.int (iI ((lo (x >>> ((iI 3) &&& 31)) 2 : Nat) : Int)), .ref o0]) ⟨hx, hb, hml, hown, hts⟩ (mL_low l (x >>> ((iI 9) &&& 31)) 4 (by omega) (by omega)) (va_cwS 2 hts gL_act_L_low rfl rfl rfl hdL_low ⟨Nat.le_of_ble_eq_true rfl, Nat.le_of_ble_eq_true rfl⟩) tt_pre rfl rfl hl.1 rfl (lv_room (Nat.le_of_ble_eq_true rfl)) dL_act_160 ⟨Nat.le_of_ble_eq_true rfl, Nat.le_of_ble_eq_true rfl⟩) ?_
  have hlo_160 := lo_lt (x >>> ((iI 9) &&& 31)) (n := 4) (by omega)
  refine ib_if_ne (tgt := 170) hx hb dL_act_163 (by decide) ⟨by omega, by omega⟩ (fun c_163 => ?_) (fun c_163 => absurd c_163 (by omega))
  refine lv_iload_n hx hb dL_act_170 rfl (lv_at hl 5 rfl) ?_
  refine ib_bi hx hb dL_act_171 (by decide) ?_
  refine lv_ishr hx hb dL_act_173 ?_
  refine ib_const hx hb dL_act_174 ?_
  refine rd_call (va_runS (As := [.int (x >>> ((iI 9) &&& 31)), .int (iI 4)]) (rest := [.int (iI ((lo (x >>> ((iI 3) &&& 31)) 2 : Nat) : Int)), .ref o0]) ⟨hx, hb, hml, hown, hts⟩ (mL_low l (x >>> ((iI 9) &&& 31)) 4 (by omega) (by omega)) (va_cwS 2 hts gL_act_L_low rfl rfl rfl hdL_low ⟨Nat.le_of_ble_eq_true rfl, Nat.le_of_ble_eq_true rfl⟩) tt_pre rfl rfl hl.1 rfl (lv_room (Nat.le_of_ble_eq_true rfl)) dL_act_175 ⟨Nat.le_of_ble_eq_true rfl, Nat.le_of_ble_eq_true rfl⟩) ?_
  have hlo_175 := lo_lt (x >>> ((iI 9) &&& 31)) (n := 4) (by omega)
  refine ib_const hx hb dL_act_178 ?_
  refine ib_icmp_ne (tgt := 186) hx hb dL_act_179 (by decide) ⟨by omega, by omega⟩ ⟨by omega, by omega⟩ (fun c_179 => ?_) (fun c_179 => absurd c_179 (by omega))
  refine lv_iload_n hx hb dL_act_186 rfl (lv_at hl 5 rfl) ?_
  refine ib_bi hx hb dL_act_187 (by decide) ?_
  refine lv_ishr hx hb dL_act_189 ?_
  refine ib_const hx hb dL_act_190 ?_
  refine rd_call (va_runS (As := [.int (x >>> ((iI 9) &&& 31)), .int (iI 4)]) (rest := [.int (iI ((lo (x >>> ((iI 3) &&& 31)) 2 : Nat) : Int)), .ref o0]) ⟨hx, hb, hml, hown, hts⟩ (mL_low l (x >>> ((iI 9) &&& 31)) 4 (by omega) (by omega)) (va_cwS 2 hts gL_act_L_low rfl rfl rfl hdL_low ⟨Nat.le_of_ble_eq_true rfl, Nat.le_of_ble_eq_true rfl⟩) tt_pre rfl rfl hl.1 rfl (lv_room (Nat.le_of_ble_eq_true rfl)) dL_act_191 ⟨Nat.le_of_ble_eq_true rfl, Nat.le_of_ble_eq_true rfl⟩) ?_
  have hlo_191 := lo_lt (x >>> ((iI 9) &&& 31)) (n := 4) (by omega)
  refine ib_const hx hb dL_act_194 ?_
  refine ib_icmp_ne (tgt := 203) hx hb dL_act_195 (by decide) ⟨by omega, by omega⟩ ⟨by omega, by omega⟩ (fun c_195 => ?_) (fun c_195 => absurd c_195 (by omega))
  refine ib_bi hx hb dL_act_203 (by decide) ?_
  refine ax_call (vx_runSW (As := [.ref o0, .int (iI ((lo (x >>> ((iI 3) &&& 31)) 2 : Nat) : Int)), .int (iI 11)]) (rest := []) ⟨hx, hb, hml, hown, hts⟩ hM (vx_cwSW 3 hts gL_act_L_multiply rfl rfl rfl hdL_multiply ⟨Nat.le_of_ble_eq_true rfl, Nat.le_of_ble_eq_true rfl⟩) (bZ_preS hK hP hD hG hN) rfl rfl hl.1 rfl (lv_room (Nat.le_of_ble_eq_true rfl)) dL_act_205 ⟨Nat.le_of_ble_eq_true rfl, Nat.le_of_ble_eq_true rfl⟩) hS (fun q9 h => h) (fun H locs hP hz hk hS => ?_)
  exact W.iret hx hb hr (fun t ht _ => ⟨rfl, by rw [ht]; exact hP, hS.F ht⟩) hS.2.2 dL_act_208

set_option maxHeartbeats 4000000 in
set_option maxRecDepth 100000 in
theorem act_0_3 (l : Launch) (hfl : l.stackTraces = false) (dC : Nat → ClassId) (dI : Nat → Nat → Nat) (o0 : Nat) (a0 a1 q : Nat → Nat) (w : Nat) (hp0 : Pm a0) (hp1 : Pm a1) (hw : w ≤ 12) (hq : ∀ i, i < w → q i < 12) (hqd : ∀ i j, i < w → j < w → q i = q j → i = j) (x : Int32) (ho : ¬ lo (x >>> ((iI 24) &&& 31)) 10 = 0) (hv9 : lo x 13 = 3)  (v : Int) (b0 b1 q' : Nat → Nat) (w' : Nat) (hM : ax l yL_rotate wsL_rotate { frames := 8, cells := 1, slots := 6, locals := 131 } [Value.ref o0, .int (iI ((lo (x >>> ((iI 3) &&& 31)) 2 : Nat) : Int)), .int (iI ((lo (x >>> ((iI 7) &&& 31)) 12 : Nat) : Int))] (dC, dI) (oW o0 a0 a1 q w) (oW o0 b0 b1 q' w') (some (.int (iI v)))) : ax l yL_act wsL_act { frames := 10, cells := 1, slots := 6, locals := 174 } [.ref o0, .int x] (dC, dI) [(o0, .inr (0, [.long (pk a0), .long (pk a1), .long (pkn q w), .int (iI ((w : Nat) : Int))]))] [(o0, .inr (0, [.long (pk b0), .long (pk b1), .long (pkn (q') (w')), .int (iI ((w' : Nat) : Int))]))] (some (.int (iI v))) := by
  refine Met.ofW (cc := cL_act) (maxL := 6) (ret := (some .int)) (by decide) rfl ?_
  intro P0 e s m args below meth c s₁ B hml hv
  obtain ⟨rfl, hP, hK, hD0, hG, hN⟩ := hv
  have hx := B.exec
  have hb := B.bytes
  have hr := B.returns
  have hts := atoms_spec (ws := wsL_act) B.pre
  have hown : s.vm.findClass RL = some m.cls := findClass_of_methodNamed B.named
  have hlocks := B.notSynchronized
  have hD : va_D (inW [(o0, .inr (0, [.long (pk a0), .long (pk a1), .long (pkn q w), .int (iI ((w : Nat) : Int))]))]) [(o0, .inr (0, [.long (pk a0), .long (pk a1), .long (pkn q w), .int (iI ((w : Nat) : Int))]))] := va_D_in hD0
  have hS : va_S (inW [(o0, .inr (0, [.long (pk a0), .long (pk a1), .long (pkn q w), .int (iI ((w : Nat) : Int))]))]) s.heap s.heap [] := va_S.rf
  have hl := lv_entry ([.ref o0, .int x]) (n := 6) (Nat.le_of_ble_eq_true rfl)
  rw [lg_entry_eq]
  generalize (lg_sl ([.ref o0, .int x]) ++ List.replicate (6 - (lg_sl ([.ref o0, .int x])).length) Slot.unset).toArray = ls at hl ⊢
  have hl : lv_has ls 6 [(0, .ref o0), (1, .int x)] := hl
  refine lv_iload_n hx hb dL_act_0 rfl (lv_at hl 1 rfl) ?_
  refine ib_bi hx hb dL_act_1 (by decide) ?_
  refine lv_ishr hx hb dL_act_3 ?_
  refine ib_bi hx hb dL_act_4 (by decide) ?_
  refine rd_call (va_runS (As := [.int (x >>> ((iI 24) &&& 31)), .int (iI 10)]) (rest := []) ⟨hx, hb, hml, hown, hts⟩ (mL_low l (x >>> ((iI 24) &&& 31)) 10 (by omega) (by omega)) (va_cwS 2 hts gL_act_L_low rfl rfl rfl hdL_low ⟨Nat.le_of_ble_eq_true rfl, Nat.le_of_ble_eq_true rfl⟩) tt_pre rfl rfl hl.1 rfl (lv_room (Nat.le_of_ble_eq_true rfl)) dL_act_6 ⟨Nat.le_of_ble_eq_true rfl, Nat.le_of_ble_eq_true rfl⟩) ?_
  have hlo_6 := lo_lt (x >>> ((iI 24) &&& 31)) (n := 10) (by omega)
  refine ib_if_ne (tgt := 16) hx hb dL_act_9 (by decide) ⟨by omega, by omega⟩ (fun c_9 => ?_) (fun c_9 => absurd c_9 (by omega))
  refine ib_const hx hb dL_act_16 ?_
  refine lv_istore_n (lv' := [(2, .int (iI 0)), (0, .ref o0), (1, .int x)]) hx hb dL_act_17 rfl hl (by decide) rfl (fun ls hl => ?_)
  refine lv_iload_n hx hb dL_act_18 rfl (lv_at hl 2 rfl) ?_
  refine ib_const hx hb dL_act_19 ?_
  refine lv_ishr hx hb dL_act_20 ?_
  refine ib_const hx hb dL_act_21 ?_
  refine lv_iload_n hx hb dL_act_22 rfl (lv_at hl 0 rfl) ?_
  refine ib_add (z := 2) hx hb dL_act_23 (by omega) ?_
  refine rd_call (va_runS (As := [.int (x >>> ((iI 3) &&& 31)), .int (iI 2)]) (rest := []) ⟨hx, hb, hml, hown, hts⟩ (mL_low l (x >>> ((iI 3) &&& 31)) 2 (by omega) (by omega)) (va_cwS 2 hts gL_act_L_low rfl rfl rfl hdL_low ⟨Nat.le_of_ble_eq_true rfl, Nat.le_of_ble_eq_true rfl⟩) tt_pre rfl rfl hl.1 rfl (lv_room (Nat.le_of_ble_eq_true rfl)) dL_act_24 ⟨Nat.le_of_ble_eq_true rfl, Nat.le_of_ble_eq_true rfl⟩) ?_
  have hlo_24 := lo_lt (x >>> ((iI 3) &&& 31)) (n := 2) (by omega)
  refine lv_istore_n (lv' := [(3, .int (iI ((lo (x >>> ((iI 3) &&& 31)) 2 : Nat) : Int))), (2, .int (iI 0)), (0, .ref o0), (1, .int x)]) hx hb dL_act_27 rfl hl (by decide) rfl (fun ls hl => ?_)
  refine lv_iload_n hx hb dL_act_28 rfl (lv_at hl 3 rfl) ?_
  refine ib_bi hx hb dL_act_29 (by decide) ?_
  refine lv_ishr hx hb dL_act_31 ?_
  refine ib_bi hx hb dL_act_32 (by decide) ?_
  refine lv_iload_n hx hb dL_act_34 rfl (lv_at hl 1 rfl) ?_
  refine ib_add (z := 12) hx hb dL_act_35 (by omega) ?_
  refine rd_call (va_runS (As := [.int (x >>> ((iI 7) &&& 31)), .int (iI 12)]) (rest := []) ⟨hx, hb, hml, hown, hts⟩ (mL_low l (x >>> ((iI 7) &&& 31)) 12 (by omega) (by omega)) (va_cwS 2 hts gL_act_L_low rfl rfl rfl hdL_low ⟨Nat.le_of_ble_eq_true rfl, Nat.le_of_ble_eq_true rfl⟩) tt_pre rfl rfl hl.1 rfl (lv_room (Nat.le_of_ble_eq_true rfl)) dL_act_36 ⟨Nat.le_of_ble_eq_true rfl, Nat.le_of_ble_eq_true rfl⟩) ?_
  have hlo_36 := lo_lt (x >>> ((iI 7) &&& 31)) (n := 12) (by omega)
  refine lv_istore (lv' := [(4, .int (iI ((lo (x >>> ((iI 7) &&& 31)) 12 : Nat) : Int))), (3, .int (iI ((lo (x >>> ((iI 3) &&& 31)) 2 : Nat) : Int))), (2, .int (iI 0)), (0, .ref o0), (1, .int x)]) hx hb dL_act_39 hl (by decide) rfl (fun ls hl => ?_)
  refine lv_iload_n hx hb dL_act_41 rfl (lv_at hl 4 rfl) ?_
  refine ib_bi hx hb dL_act_42 (by decide) ?_
  refine lv_ishr hx hb dL_act_44 ?_
  refine ib_bi hx hb dL_act_45 (by decide) ?_
  refine lv_iload_n hx hb dL_act_47 rfl (lv_at hl 2 rfl) ?_
  refine ib_add (z := 12) hx hb dL_act_48 (by omega) ?_
  refine rd_call (va_runS (As := [.int (x >>> ((iI 11) &&& 31)), .int (iI 12)]) (rest := []) ⟨hx, hb, hml, hown, hts⟩ (mL_low l (x >>> ((iI 11) &&& 31)) 12 (by omega) (by omega)) (va_cwS 2 hts gL_act_L_low rfl rfl rfl hdL_low ⟨Nat.le_of_ble_eq_true rfl, Nat.le_of_ble_eq_true rfl⟩) tt_pre rfl rfl hl.1 rfl (lv_room (Nat.le_of_ble_eq_true rfl)) dL_act_49 ⟨Nat.le_of_ble_eq_true rfl, Nat.le_of_ble_eq_true rfl⟩) ?_
  have hlo_49 := lo_lt (x >>> ((iI 11) &&& 31)) (n := 12) (by omega)
  refine lv_istore (lv' := [(5, .int (iI ((lo (x >>> ((iI 11) &&& 31)) 12 : Nat) : Int))), (4, .int (iI ((lo (x >>> ((iI 7) &&& 31)) 12 : Nat) : Int))), (3, .int (iI ((lo (x >>> ((iI 3) &&& 31)) 2 : Nat) : Int))), (2, .int (iI 0)), (0, .ref o0), (1, .int x)]) hx hb dL_act_52 hl (by decide) rfl (fun ls hl => ?_)
  refine lv_iload_n hx hb dL_act_54 rfl (lv_at hl 5 rfl) ?_
  refine ib_bi hx hb dL_act_55 (by decide) ?_
  refine rd_call (va_runS (As := [.int x, .int (iI 13)]) (rest := []) ⟨hx, hb, hml, hown, hts⟩ (mL_low l x 13 (by omega) (by omega)) (va_cwS 2 hts gL_act_L_low rfl rfl rfl hdL_low ⟨Nat.le_of_ble_eq_true rfl, Nat.le_of_ble_eq_true rfl⟩) tt_pre rfl rfl hl.1 rfl (lv_room (Nat.le_of_ble_eq_true rfl)) dL_act_57 ⟨Nat.le_of_ble_eq_true rfl, Nat.le_of_ble_eq_true rfl⟩) ?_
  have hlo_57 := lo_lt x (n := 13) (by omega)
  refine st_i (y := iI 3) (congrArg (fun z : Nat => iI ((z : Nat) : Int)) hv9) ?_
  refine lv_tableIn (off := 149) (tgt := 209) hx hb dL_act_60 (by decide) (by decide) (by decide) (by decide) ?_
  refine lv_aload_n hx hb dL_act_209 rfl (lv_at hl 4 rfl) ?_
  refine lv_iload_n hx hb dL_act_210 rfl (lv_at hl 2 rfl) ?_
  refine lv_iload hx hb dL_act_211 (lv_at hl 1 rfl) ?_
  refine ax_call (vx_runSW (As := [.ref o0, .int (iI ((lo (x >>> ((iI 3) &&& 31)) 2 : Nat) : Int)), .int (iI ((lo (x >>> ((iI 7) &&& 31)) 12 : Nat) : Int))]) (rest := []) ⟨hx, hb, hml, hown, hts⟩ hM (vx_cwSW 3 hts gL_act_L_rotate rfl rfl rfl hdL_rotate ⟨Nat.le_of_ble_eq_true rfl, Nat.le_of_ble_eq_true rfl⟩) (bZ_preS hK hP hD hG hN) rfl rfl hl.1 rfl (lv_room (Nat.le_of_ble_eq_true rfl)) dL_act_213 ⟨Nat.le_of_ble_eq_true rfl, Nat.le_of_ble_eq_true rfl⟩) hS (fun q9 h => h) (fun H locs hP hz hk hS => ?_)
  exact W.iret hx hb hr (fun t ht _ => ⟨rfl, by rw [ht]; exact hP, hS.F ht⟩) hS.2.2 dL_act_216

set_option maxHeartbeats 4000000 in
set_option maxRecDepth 100000 in
theorem act_0_4 (l : Launch) (hfl : l.stackTraces = false) (dC : Nat → ClassId) (dI : Nat → Nat → Nat) (o0 : Nat) (a0 a1 q : Nat → Nat) (w : Nat) (hp0 : Pm a0) (hp1 : Pm a1) (hw : w ≤ 12) (hq : ∀ i, i < w → q i < 12) (hqd : ∀ i j, i < w → j < w → q i = q j → i = j) (x : Int32) (ho : ¬ lo (x >>> ((iI 24) &&& 31)) 10 = 0) (hv9 : lo x 13 = 4)  (v : Int) (b0 b1 q' : Nat → Nat) (w' : Nat) (hM : ax l yL_write wsL_write { frames := 8, cells := 1, slots := 6, locals := 125 } [Value.ref o0, .int (iI ((lo (x >>> ((iI 7) &&& 31)) 12 : Nat) : Int))] (dC, dI) (oW o0 a0 a1 q w) (oW o0 b0 b1 q' w') (some (.int (iI v)))) : ax l yL_act wsL_act { frames := 10, cells := 1, slots := 6, locals := 174 } [.ref o0, .int x] (dC, dI) [(o0, .inr (0, [.long (pk a0), .long (pk a1), .long (pkn q w), .int (iI ((w : Nat) : Int))]))] [(o0, .inr (0, [.long (pk b0), .long (pk b1), .long (pkn (q') (w')), .int (iI ((w' : Nat) : Int))]))] (some (.int (iI v))) := by
  refine Met.ofW (cc := cL_act) (maxL := 6) (ret := (some .int)) (by decide) rfl ?_
  intro P0 e s m args below meth c s₁ B hml hv
  obtain ⟨rfl, hP, hK, hD0, hG, hN⟩ := hv
  have hx := B.exec
  have hb := B.bytes
  have hr := B.returns
  have hts := atoms_spec (ws := wsL_act) B.pre
  have hown : s.vm.findClass RL = some m.cls := findClass_of_methodNamed B.named
  have hlocks := B.notSynchronized
  have hD : va_D (inW [(o0, .inr (0, [.long (pk a0), .long (pk a1), .long (pkn q w), .int (iI ((w : Nat) : Int))]))]) [(o0, .inr (0, [.long (pk a0), .long (pk a1), .long (pkn q w), .int (iI ((w : Nat) : Int))]))] := va_D_in hD0
  have hS : va_S (inW [(o0, .inr (0, [.long (pk a0), .long (pk a1), .long (pkn q w), .int (iI ((w : Nat) : Int))]))]) s.heap s.heap [] := va_S.rf
  have hl := lv_entry ([.ref o0, .int x]) (n := 6) (Nat.le_of_ble_eq_true rfl)
  rw [lg_entry_eq]
  generalize (lg_sl ([.ref o0, .int x]) ++ List.replicate (6 - (lg_sl ([.ref o0, .int x])).length) Slot.unset).toArray = ls at hl ⊢
  have hl : lv_has ls 6 [(0, .ref o0), (1, .int x)] := hl
  refine lv_iload_n hx hb dL_act_0 rfl (lv_at hl 1 rfl) ?_
  refine ib_bi hx hb dL_act_1 (by decide) ?_
  refine lv_ishr hx hb dL_act_3 ?_
  refine ib_bi hx hb dL_act_4 (by decide) ?_
  refine rd_call (va_runS (As := [.int (x >>> ((iI 24) &&& 31)), .int (iI 10)]) (rest := []) ⟨hx, hb, hml, hown, hts⟩ (mL_low l (x >>> ((iI 24) &&& 31)) 10 (by omega) (by omega)) (va_cwS 2 hts gL_act_L_low rfl rfl rfl hdL_low ⟨Nat.le_of_ble_eq_true rfl, Nat.le_of_ble_eq_true rfl⟩) tt_pre rfl rfl hl.1 rfl (lv_room (Nat.le_of_ble_eq_true rfl)) dL_act_6 ⟨Nat.le_of_ble_eq_true rfl, Nat.le_of_ble_eq_true rfl⟩) ?_
  have hlo_6 := lo_lt (x >>> ((iI 24) &&& 31)) (n := 10) (by omega)
  refine ib_if_ne (tgt := 16) hx hb dL_act_9 (by decide) ⟨by omega, by omega⟩ (fun c_9 => ?_) (fun c_9 => absurd c_9 (by omega))
  refine ib_const hx hb dL_act_16 ?_
  refine lv_istore_n (lv' := [(2, .int (iI 0)), (0, .ref o0), (1, .int x)]) hx hb dL_act_17 rfl hl (by decide) rfl (fun ls hl => ?_)
  refine lv_iload_n hx hb dL_act_18 rfl (lv_at hl 2 rfl) ?_
  refine ib_const hx hb dL_act_19 ?_
  refine lv_ishr hx hb dL_act_20 ?_
  refine ib_const hx hb dL_act_21 ?_
  refine lv_iload_n hx hb dL_act_22 rfl (lv_at hl 0 rfl) ?_
  refine ib_add (z := 2) hx hb dL_act_23 (by omega) ?_
  refine rd_call (va_runS (As := [.int (x >>> ((iI 3) &&& 31)), .int (iI 2)]) (rest := []) ⟨hx, hb, hml, hown, hts⟩ (mL_low l (x >>> ((iI 3) &&& 31)) 2 (by omega) (by omega)) (va_cwS 2 hts gL_act_L_low rfl rfl rfl hdL_low ⟨Nat.le_of_ble_eq_true rfl, Nat.le_of_ble_eq_true rfl⟩) tt_pre rfl rfl hl.1 rfl (lv_room (Nat.le_of_ble_eq_true rfl)) dL_act_24 ⟨Nat.le_of_ble_eq_true rfl, Nat.le_of_ble_eq_true rfl⟩) ?_
  have hlo_24 := lo_lt (x >>> ((iI 3) &&& 31)) (n := 2) (by omega)
  refine lv_istore_n (lv' := [(3, .int (iI ((lo (x >>> ((iI 3) &&& 31)) 2 : Nat) : Int))), (2, .int (iI 0)), (0, .ref o0), (1, .int x)]) hx hb dL_act_27 rfl hl (by decide) rfl (fun ls hl => ?_)
  refine lv_iload_n hx hb dL_act_28 rfl (lv_at hl 3 rfl) ?_
  refine ib_bi hx hb dL_act_29 (by decide) ?_
  refine lv_ishr hx hb dL_act_31 ?_
  refine ib_bi hx hb dL_act_32 (by decide) ?_
  refine lv_iload_n hx hb dL_act_34 rfl (lv_at hl 1 rfl) ?_
  refine ib_add (z := 12) hx hb dL_act_35 (by omega) ?_
  refine rd_call (va_runS (As := [.int (x >>> ((iI 7) &&& 31)), .int (iI 12)]) (rest := []) ⟨hx, hb, hml, hown, hts⟩ (mL_low l (x >>> ((iI 7) &&& 31)) 12 (by omega) (by omega)) (va_cwS 2 hts gL_act_L_low rfl rfl rfl hdL_low ⟨Nat.le_of_ble_eq_true rfl, Nat.le_of_ble_eq_true rfl⟩) tt_pre rfl rfl hl.1 rfl (lv_room (Nat.le_of_ble_eq_true rfl)) dL_act_36 ⟨Nat.le_of_ble_eq_true rfl, Nat.le_of_ble_eq_true rfl⟩) ?_
  have hlo_36 := lo_lt (x >>> ((iI 7) &&& 31)) (n := 12) (by omega)
  refine lv_istore (lv' := [(4, .int (iI ((lo (x >>> ((iI 7) &&& 31)) 12 : Nat) : Int))), (3, .int (iI ((lo (x >>> ((iI 3) &&& 31)) 2 : Nat) : Int))), (2, .int (iI 0)), (0, .ref o0), (1, .int x)]) hx hb dL_act_39 hl (by decide) rfl (fun ls hl => ?_)
  refine lv_iload_n hx hb dL_act_41 rfl (lv_at hl 4 rfl) ?_
  refine ib_bi hx hb dL_act_42 (by decide) ?_
  refine lv_ishr hx hb dL_act_44 ?_
  refine ib_bi hx hb dL_act_45 (by decide) ?_
  refine lv_iload_n hx hb dL_act_47 rfl (lv_at hl 2 rfl) ?_
  refine ib_add (z := 12) hx hb dL_act_48 (by omega) ?_
  refine rd_call (va_runS (As := [.int (x >>> ((iI 11) &&& 31)), .int (iI 12)]) (rest := []) ⟨hx, hb, hml, hown, hts⟩ (mL_low l (x >>> ((iI 11) &&& 31)) 12 (by omega) (by omega)) (va_cwS 2 hts gL_act_L_low rfl rfl rfl hdL_low ⟨Nat.le_of_ble_eq_true rfl, Nat.le_of_ble_eq_true rfl⟩) tt_pre rfl rfl hl.1 rfl (lv_room (Nat.le_of_ble_eq_true rfl)) dL_act_49 ⟨Nat.le_of_ble_eq_true rfl, Nat.le_of_ble_eq_true rfl⟩) ?_
  have hlo_49 := lo_lt (x >>> ((iI 11) &&& 31)) (n := 12) (by omega)
  refine lv_istore (lv' := [(5, .int (iI ((lo (x >>> ((iI 11) &&& 31)) 12 : Nat) : Int))), (4, .int (iI ((lo (x >>> ((iI 7) &&& 31)) 12 : Nat) : Int))), (3, .int (iI ((lo (x >>> ((iI 3) &&& 31)) 2 : Nat) : Int))), (2, .int (iI 0)), (0, .ref o0), (1, .int x)]) hx hb dL_act_52 hl (by decide) rfl (fun ls hl => ?_)
  refine lv_iload_n hx hb dL_act_54 rfl (lv_at hl 5 rfl) ?_
  refine ib_bi hx hb dL_act_55 (by decide) ?_
  refine rd_call (va_runS (As := [.int x, .int (iI 13)]) (rest := []) ⟨hx, hb, hml, hown, hts⟩ (mL_low l x 13 (by omega) (by omega)) (va_cwS 2 hts gL_act_L_low rfl rfl rfl hdL_low ⟨Nat.le_of_ble_eq_true rfl, Nat.le_of_ble_eq_true rfl⟩) tt_pre rfl rfl hl.1 rfl (lv_room (Nat.le_of_ble_eq_true rfl)) dL_act_57 ⟨Nat.le_of_ble_eq_true rfl, Nat.le_of_ble_eq_true rfl⟩) ?_
  have hlo_57 := lo_lt x (n := 13) (by omega)
  refine st_i (y := iI 4) (congrArg (fun z : Nat => iI ((z : Nat) : Int)) hv9) ?_
  refine lv_tableIn (off := 157) (tgt := 217) hx hb dL_act_60 (by decide) (by decide) (by decide) (by decide) ?_
  refine lv_aload_n hx hb dL_act_217 rfl (lv_at hl 4 rfl) ?_
  refine lv_iload hx hb dL_act_218 (lv_at hl 1 rfl) ?_
  refine ax_call (vx_runSW (As := [.ref o0, .int (iI ((lo (x >>> ((iI 7) &&& 31)) 12 : Nat) : Int))]) (rest := []) ⟨hx, hb, hml, hown, hts⟩ hM (vx_cwSW 2 hts gL_act_L_write rfl rfl rfl hdL_write ⟨Nat.le_of_ble_eq_true rfl, Nat.le_of_ble_eq_true rfl⟩) (bZ_preS hK hP hD hG hN) rfl rfl hl.1 rfl (lv_room (Nat.le_of_ble_eq_true rfl)) dL_act_220 ⟨Nat.le_of_ble_eq_true rfl, Nat.le_of_ble_eq_true rfl⟩) hS (fun q9 h => h) (fun H locs hP hz hk hS => ?_)
  exact W.iret hx hb hr (fun t ht _ => ⟨rfl, by rw [ht]; exact hP, hS.F ht⟩) hS.2.2 dL_act_223

set_option maxHeartbeats 4000000 in
set_option maxRecDepth 100000 in
theorem act_0_5 (l : Launch) (hfl : l.stackTraces = false) (dC : Nat → ClassId) (dI : Nat → Nat → Nat) (o0 : Nat) (a0 a1 q : Nat → Nat) (w : Nat) (hp0 : Pm a0) (hp1 : Pm a1) (hw : w ≤ 12) (hq : ∀ i, i < w → q i < 12) (hqd : ∀ i j, i < w → j < w → q i = q j → i = j) (x : Int32) (ho : ¬ lo (x >>> ((iI 24) &&& 31)) 10 = 0) (hv9 : lo x 13 = 5)  (v : Int) (b0 b1 q' : Nat → Nat) (w' : Nat) (hM : ax l yL_write wsL_write { frames := 8, cells := 1, slots := 6, locals := 125 } [Value.ref o0, .int (iI ((lo (x >>> ((iI 7) &&& 31)) 12 : Nat) : Int))] (dC, dI) (oW o0 a0 a1 q w) (oW o0 b0 b1 q' w') (some (.int (iI v)))) : ax l yL_act wsL_act { frames := 10, cells := 1, slots := 6, locals := 174 } [.ref o0, .int x] (dC, dI) [(o0, .inr (0, [.long (pk a0), .long (pk a1), .long (pkn q w), .int (iI ((w : Nat) : Int))]))] [(o0, .inr (0, [.long (pk b0), .long (pk b1), .long (pkn (q') (w')), .int (iI ((w' : Nat) : Int))]))] (some (.int (iI v))) := by
  refine Met.ofW (cc := cL_act) (maxL := 6) (ret := (some .int)) (by decide) rfl ?_
  intro P0 e s m args below meth c s₁ B hml hv
  obtain ⟨rfl, hP, hK, hD0, hG, hN⟩ := hv
  have hx := B.exec
  have hb := B.bytes
  have hr := B.returns
  have hts := atoms_spec (ws := wsL_act) B.pre
  have hown : s.vm.findClass RL = some m.cls := findClass_of_methodNamed B.named
  have hlocks := B.notSynchronized
  have hD : va_D (inW [(o0, .inr (0, [.long (pk a0), .long (pk a1), .long (pkn q w), .int (iI ((w : Nat) : Int))]))]) [(o0, .inr (0, [.long (pk a0), .long (pk a1), .long (pkn q w), .int (iI ((w : Nat) : Int))]))] := va_D_in hD0
  have hS : va_S (inW [(o0, .inr (0, [.long (pk a0), .long (pk a1), .long (pkn q w), .int (iI ((w : Nat) : Int))]))]) s.heap s.heap [] := va_S.rf
  have hl := lv_entry ([.ref o0, .int x]) (n := 6) (Nat.le_of_ble_eq_true rfl)
  rw [lg_entry_eq]
  generalize (lg_sl ([.ref o0, .int x]) ++ List.replicate (6 - (lg_sl ([.ref o0, .int x])).length) Slot.unset).toArray = ls at hl ⊢
  have hl : lv_has ls 6 [(0, .ref o0), (1, .int x)] := hl
  refine lv_iload_n hx hb dL_act_0 rfl (lv_at hl 1 rfl) ?_
  refine ib_bi hx hb dL_act_1 (by decide) ?_
  refine lv_ishr hx hb dL_act_3 ?_
  refine ib_bi hx hb dL_act_4 (by decide) ?_
  refine rd_call (va_runS (As := [.int (x >>> ((iI 24) &&& 31)), .int (iI 10)]) (rest := []) ⟨hx, hb, hml, hown, hts⟩ (mL_low l (x >>> ((iI 24) &&& 31)) 10 (by omega) (by omega)) (va_cwS 2 hts gL_act_L_low rfl rfl rfl hdL_low ⟨Nat.le_of_ble_eq_true rfl, Nat.le_of_ble_eq_true rfl⟩) tt_pre rfl rfl hl.1 rfl (lv_room (Nat.le_of_ble_eq_true rfl)) dL_act_6 ⟨Nat.le_of_ble_eq_true rfl, Nat.le_of_ble_eq_true rfl⟩) ?_
  have hlo_6 := lo_lt (x >>> ((iI 24) &&& 31)) (n := 10) (by omega)
  refine ib_if_ne (tgt := 16) hx hb dL_act_9 (by decide) ⟨by omega, by omega⟩ (fun c_9 => ?_) (fun c_9 => absurd c_9 (by omega))
  refine ib_const hx hb dL_act_16 ?_
  refine lv_istore_n (lv' := [(2, .int (iI 0)), (0, .ref o0), (1, .int x)]) hx hb dL_act_17 rfl hl (by decide) rfl (fun ls hl => ?_)
  refine lv_iload_n hx hb dL_act_18 rfl (lv_at hl 2 rfl) ?_
  refine ib_const hx hb dL_act_19 ?_
  refine lv_ishr hx hb dL_act_20 ?_
  refine ib_const hx hb dL_act_21 ?_
  refine lv_iload_n hx hb dL_act_22 rfl (lv_at hl 0 rfl) ?_
  refine ib_add (z := 2) hx hb dL_act_23 (by omega) ?_
  refine rd_call (va_runS (As := [.int (x >>> ((iI 3) &&& 31)), .int (iI 2)]) (rest := []) ⟨hx, hb, hml, hown, hts⟩ (mL_low l (x >>> ((iI 3) &&& 31)) 2 (by omega) (by omega)) (va_cwS 2 hts gL_act_L_low rfl rfl rfl hdL_low ⟨Nat.le_of_ble_eq_true rfl, Nat.le_of_ble_eq_true rfl⟩) tt_pre rfl rfl hl.1 rfl (lv_room (Nat.le_of_ble_eq_true rfl)) dL_act_24 ⟨Nat.le_of_ble_eq_true rfl, Nat.le_of_ble_eq_true rfl⟩) ?_
  have hlo_24 := lo_lt (x >>> ((iI 3) &&& 31)) (n := 2) (by omega)
  refine lv_istore_n (lv' := [(3, .int (iI ((lo (x >>> ((iI 3) &&& 31)) 2 : Nat) : Int))), (2, .int (iI 0)), (0, .ref o0), (1, .int x)]) hx hb dL_act_27 rfl hl (by decide) rfl (fun ls hl => ?_)
  refine lv_iload_n hx hb dL_act_28 rfl (lv_at hl 3 rfl) ?_
  refine ib_bi hx hb dL_act_29 (by decide) ?_
  refine lv_ishr hx hb dL_act_31 ?_
  refine ib_bi hx hb dL_act_32 (by decide) ?_
  refine lv_iload_n hx hb dL_act_34 rfl (lv_at hl 1 rfl) ?_
  refine ib_add (z := 12) hx hb dL_act_35 (by omega) ?_
  refine rd_call (va_runS (As := [.int (x >>> ((iI 7) &&& 31)), .int (iI 12)]) (rest := []) ⟨hx, hb, hml, hown, hts⟩ (mL_low l (x >>> ((iI 7) &&& 31)) 12 (by omega) (by omega)) (va_cwS 2 hts gL_act_L_low rfl rfl rfl hdL_low ⟨Nat.le_of_ble_eq_true rfl, Nat.le_of_ble_eq_true rfl⟩) tt_pre rfl rfl hl.1 rfl (lv_room (Nat.le_of_ble_eq_true rfl)) dL_act_36 ⟨Nat.le_of_ble_eq_true rfl, Nat.le_of_ble_eq_true rfl⟩) ?_
  have hlo_36 := lo_lt (x >>> ((iI 7) &&& 31)) (n := 12) (by omega)
  refine lv_istore (lv' := [(4, .int (iI ((lo (x >>> ((iI 7) &&& 31)) 12 : Nat) : Int))), (3, .int (iI ((lo (x >>> ((iI 3) &&& 31)) 2 : Nat) : Int))), (2, .int (iI 0)), (0, .ref o0), (1, .int x)]) hx hb dL_act_39 hl (by decide) rfl (fun ls hl => ?_)
  refine lv_iload_n hx hb dL_act_41 rfl (lv_at hl 4 rfl) ?_
  refine ib_bi hx hb dL_act_42 (by decide) ?_
  refine lv_ishr hx hb dL_act_44 ?_
  refine ib_bi hx hb dL_act_45 (by decide) ?_
  refine lv_iload_n hx hb dL_act_47 rfl (lv_at hl 2 rfl) ?_
  refine ib_add (z := 12) hx hb dL_act_48 (by omega) ?_
  refine rd_call (va_runS (As := [.int (x >>> ((iI 11) &&& 31)), .int (iI 12)]) (rest := []) ⟨hx, hb, hml, hown, hts⟩ (mL_low l (x >>> ((iI 11) &&& 31)) 12 (by omega) (by omega)) (va_cwS 2 hts gL_act_L_low rfl rfl rfl hdL_low ⟨Nat.le_of_ble_eq_true rfl, Nat.le_of_ble_eq_true rfl⟩) tt_pre rfl rfl hl.1 rfl (lv_room (Nat.le_of_ble_eq_true rfl)) dL_act_49 ⟨Nat.le_of_ble_eq_true rfl, Nat.le_of_ble_eq_true rfl⟩) ?_
  have hlo_49 := lo_lt (x >>> ((iI 11) &&& 31)) (n := 12) (by omega)
  refine lv_istore (lv' := [(5, .int (iI ((lo (x >>> ((iI 11) &&& 31)) 12 : Nat) : Int))), (4, .int (iI ((lo (x >>> ((iI 7) &&& 31)) 12 : Nat) : Int))), (3, .int (iI ((lo (x >>> ((iI 3) &&& 31)) 2 : Nat) : Int))), (2, .int (iI 0)), (0, .ref o0), (1, .int x)]) hx hb dL_act_52 hl (by decide) rfl (fun ls hl => ?_)
  refine lv_iload_n hx hb dL_act_54 rfl (lv_at hl 5 rfl) ?_
  refine ib_bi hx hb dL_act_55 (by decide) ?_
  refine rd_call (va_runS (As := [.int x, .int (iI 13)]) (rest := []) ⟨hx, hb, hml, hown, hts⟩ (mL_low l x 13 (by omega) (by omega)) (va_cwS 2 hts gL_act_L_low rfl rfl rfl hdL_low ⟨Nat.le_of_ble_eq_true rfl, Nat.le_of_ble_eq_true rfl⟩) tt_pre rfl rfl hl.1 rfl (lv_room (Nat.le_of_ble_eq_true rfl)) dL_act_57 ⟨Nat.le_of_ble_eq_true rfl, Nat.le_of_ble_eq_true rfl⟩) ?_
  have hlo_57 := lo_lt x (n := 13) (by omega)
  refine st_i (y := iI 5) (congrArg (fun z : Nat => iI ((z : Nat) : Int)) hv9) ?_
  refine lv_tableIn (off := 157) (tgt := 217) hx hb dL_act_60 (by decide) (by decide) (by decide) (by decide) ?_
  refine lv_aload_n hx hb dL_act_217 rfl (lv_at hl 4 rfl) ?_
  refine lv_iload hx hb dL_act_218 (lv_at hl 1 rfl) ?_
  refine ax_call (vx_runSW (As := [.ref o0, .int (iI ((lo (x >>> ((iI 7) &&& 31)) 12 : Nat) : Int))]) (rest := []) ⟨hx, hb, hml, hown, hts⟩ hM (vx_cwSW 2 hts gL_act_L_write rfl rfl rfl hdL_write ⟨Nat.le_of_ble_eq_true rfl, Nat.le_of_ble_eq_true rfl⟩) (bZ_preS hK hP hD hG hN) rfl rfl hl.1 rfl (lv_room (Nat.le_of_ble_eq_true rfl)) dL_act_220 ⟨Nat.le_of_ble_eq_true rfl, Nat.le_of_ble_eq_true rfl⟩) hS (fun q9 h => h) (fun H locs hP hz hk hS => ?_)
  exact W.iret hx hb hr (fun t ht _ => ⟨rfl, by rw [ht]; exact hP, hS.F ht⟩) hS.2.2 dL_act_223

set_option maxHeartbeats 4000000 in
set_option maxRecDepth 100000 in
theorem act_0_6 (l : Launch) (hfl : l.stackTraces = false) (dC : Nat → ClassId) (dI : Nat → Nat → Nat) (o0 : Nat) (a0 a1 q : Nat → Nat) (w : Nat) (hp0 : Pm a0) (hp1 : Pm a1) (hw : w ≤ 12) (hq : ∀ i, i < w → q i < 12) (hqd : ∀ i j, i < w → j < w → q i = q j → i = j) (x : Int32) (ho : ¬ lo (x >>> ((iI 24) &&& 31)) 10 = 0) (hv9 : lo x 13 = 6)  (v : Int) (b0 b1 q' : Nat → Nat) (w' : Nat) (hM : ax l yL_complete wsL_complete { frames := 8, cells := 1, slots := 6, locals := 130 } [Value.ref o0, .int (iI ((lo (x >>> ((iI 3) &&& 31)) 2 : Nat) : Int))] (dC, dI) (oW o0 a0 a1 q w) (oW o0 b0 b1 q' w') (some (.int (iI v)))) : ax l yL_act wsL_act { frames := 10, cells := 1, slots := 6, locals := 174 } [.ref o0, .int x] (dC, dI) [(o0, .inr (0, [.long (pk a0), .long (pk a1), .long (pkn q w), .int (iI ((w : Nat) : Int))]))] [(o0, .inr (0, [.long (pk b0), .long (pk b1), .long (pkn (q') (w')), .int (iI ((w' : Nat) : Int))]))] (some (.int (iI v))) := by
  refine Met.ofW (cc := cL_act) (maxL := 6) (ret := (some .int)) (by decide) rfl ?_
  intro P0 e s m args below meth c s₁ B hml hv
  obtain ⟨rfl, hP, hK, hD0, hG, hN⟩ := hv
  have hx := B.exec
  have hb := B.bytes
  have hr := B.returns
  have hts := atoms_spec (ws := wsL_act) B.pre
  have hown : s.vm.findClass RL = some m.cls := findClass_of_methodNamed B.named
  have hlocks := B.notSynchronized
  have hD : va_D (inW [(o0, .inr (0, [.long (pk a0), .long (pk a1), .long (pkn q w), .int (iI ((w : Nat) : Int))]))]) [(o0, .inr (0, [.long (pk a0), .long (pk a1), .long (pkn q w), .int (iI ((w : Nat) : Int))]))] := va_D_in hD0
  have hS : va_S (inW [(o0, .inr (0, [.long (pk a0), .long (pk a1), .long (pkn q w), .int (iI ((w : Nat) : Int))]))]) s.heap s.heap [] := va_S.rf
  have hl := lv_entry ([.ref o0, .int x]) (n := 6) (Nat.le_of_ble_eq_true rfl)
  rw [lg_entry_eq]
  generalize (lg_sl ([.ref o0, .int x]) ++ List.replicate (6 - (lg_sl ([.ref o0, .int x])).length) Slot.unset).toArray = ls at hl ⊢
  have hl : lv_has ls 6 [(0, .ref o0), (1, .int x)] := hl
  refine lv_iload_n hx hb dL_act_0 rfl (lv_at hl 1 rfl) ?_
  refine ib_bi hx hb dL_act_1 (by decide) ?_
  refine lv_ishr hx hb dL_act_3 ?_
  refine ib_bi hx hb dL_act_4 (by decide) ?_
  refine rd_call (va_runS (As := [.int (x >>> ((iI 24) &&& 31)), .int (iI 10)]) (rest := []) ⟨hx, hb, hml, hown, hts⟩ (mL_low l (x >>> ((iI 24) &&& 31)) 10 (by omega) (by omega)) (va_cwS 2 hts gL_act_L_low rfl rfl rfl hdL_low ⟨Nat.le_of_ble_eq_true rfl, Nat.le_of_ble_eq_true rfl⟩) tt_pre rfl rfl hl.1 rfl (lv_room (Nat.le_of_ble_eq_true rfl)) dL_act_6 ⟨Nat.le_of_ble_eq_true rfl, Nat.le_of_ble_eq_true rfl⟩) ?_
  have hlo_6 := lo_lt (x >>> ((iI 24) &&& 31)) (n := 10) (by omega)
  refine ib_if_ne (tgt := 16) hx hb dL_act_9 (by decide) ⟨by omega, by omega⟩ (fun c_9 => ?_) (fun c_9 => absurd c_9 (by omega))
  refine ib_const hx hb dL_act_16 ?_
  refine lv_istore_n (lv' := [(2, .int (iI 0)), (0, .ref o0), (1, .int x)]) hx hb dL_act_17 rfl hl (by decide) rfl (fun ls hl => ?_)
  refine lv_iload_n hx hb dL_act_18 rfl (lv_at hl 2 rfl) ?_
  refine ib_const hx hb dL_act_19 ?_
  refine lv_ishr hx hb dL_act_20 ?_
  refine ib_const hx hb dL_act_21 ?_
  refine lv_iload_n hx hb dL_act_22 rfl (lv_at hl 0 rfl) ?_
  refine ib_add (z := 2) hx hb dL_act_23 (by omega) ?_
  refine rd_call (va_runS (As := [.int (x >>> ((iI 3) &&& 31)), .int (iI 2)]) (rest := []) ⟨hx, hb, hml, hown, hts⟩ (mL_low l (x >>> ((iI 3) &&& 31)) 2 (by omega) (by omega)) (va_cwS 2 hts gL_act_L_low rfl rfl rfl hdL_low ⟨Nat.le_of_ble_eq_true rfl, Nat.le_of_ble_eq_true rfl⟩) tt_pre rfl rfl hl.1 rfl (lv_room (Nat.le_of_ble_eq_true rfl)) dL_act_24 ⟨Nat.le_of_ble_eq_true rfl, Nat.le_of_ble_eq_true rfl⟩) ?_
  have hlo_24 := lo_lt (x >>> ((iI 3) &&& 31)) (n := 2) (by omega)
  refine lv_istore_n (lv' := [(3, .int (iI ((lo (x >>> ((iI 3) &&& 31)) 2 : Nat) : Int))), (2, .int (iI 0)), (0, .ref o0), (1, .int x)]) hx hb dL_act_27 rfl hl (by decide) rfl (fun ls hl => ?_)
  refine lv_iload_n hx hb dL_act_28 rfl (lv_at hl 3 rfl) ?_
  refine ib_bi hx hb dL_act_29 (by decide) ?_
  refine lv_ishr hx hb dL_act_31 ?_
  refine ib_bi hx hb dL_act_32 (by decide) ?_
  refine lv_iload_n hx hb dL_act_34 rfl (lv_at hl 1 rfl) ?_
  refine ib_add (z := 12) hx hb dL_act_35 (by omega) ?_
  refine rd_call (va_runS (As := [.int (x >>> ((iI 7) &&& 31)), .int (iI 12)]) (rest := []) ⟨hx, hb, hml, hown, hts⟩ (mL_low l (x >>> ((iI 7) &&& 31)) 12 (by omega) (by omega)) (va_cwS 2 hts gL_act_L_low rfl rfl rfl hdL_low ⟨Nat.le_of_ble_eq_true rfl, Nat.le_of_ble_eq_true rfl⟩) tt_pre rfl rfl hl.1 rfl (lv_room (Nat.le_of_ble_eq_true rfl)) dL_act_36 ⟨Nat.le_of_ble_eq_true rfl, Nat.le_of_ble_eq_true rfl⟩) ?_
  have hlo_36 := lo_lt (x >>> ((iI 7) &&& 31)) (n := 12) (by omega)
  refine lv_istore (lv' := [(4, .int (iI ((lo (x >>> ((iI 7) &&& 31)) 12 : Nat) : Int))), (3, .int (iI ((lo (x >>> ((iI 3) &&& 31)) 2 : Nat) : Int))), (2, .int (iI 0)), (0, .ref o0), (1, .int x)]) hx hb dL_act_39 hl (by decide) rfl (fun ls hl => ?_)
  refine lv_iload_n hx hb dL_act_41 rfl (lv_at hl 4 rfl) ?_
  refine ib_bi hx hb dL_act_42 (by decide) ?_
  refine lv_ishr hx hb dL_act_44 ?_
  refine ib_bi hx hb dL_act_45 (by decide) ?_
  refine lv_iload_n hx hb dL_act_47 rfl (lv_at hl 2 rfl) ?_
  refine ib_add (z := 12) hx hb dL_act_48 (by omega) ?_
  refine rd_call (va_runS (As := [.int (x >>> ((iI 11) &&& 31)), .int (iI 12)]) (rest := []) ⟨hx, hb, hml, hown, hts⟩ (mL_low l (x >>> ((iI 11) &&& 31)) 12 (by omega) (by omega)) (va_cwS 2 hts gL_act_L_low rfl rfl rfl hdL_low ⟨Nat.le_of_ble_eq_true rfl, Nat.le_of_ble_eq_true rfl⟩) tt_pre rfl rfl hl.1 rfl (lv_room (Nat.le_of_ble_eq_true rfl)) dL_act_49 ⟨Nat.le_of_ble_eq_true rfl, Nat.le_of_ble_eq_true rfl⟩) ?_
  have hlo_49 := lo_lt (x >>> ((iI 11) &&& 31)) (n := 12) (by omega)
  refine lv_istore (lv' := [(5, .int (iI ((lo (x >>> ((iI 11) &&& 31)) 12 : Nat) : Int))), (4, .int (iI ((lo (x >>> ((iI 7) &&& 31)) 12 : Nat) : Int))), (3, .int (iI ((lo (x >>> ((iI 3) &&& 31)) 2 : Nat) : Int))), (2, .int (iI 0)), (0, .ref o0), (1, .int x)]) hx hb dL_act_52 hl (by decide) rfl (fun ls hl => ?_)
  refine lv_iload_n hx hb dL_act_54 rfl (lv_at hl 5 rfl) ?_
  refine ib_bi hx hb dL_act_55 (by decide) ?_
  refine rd_call (va_runS (As := [.int x, .int (iI 13)]) (rest := []) ⟨hx, hb, hml, hown, hts⟩ (mL_low l x 13 (by omega) (by omega)) (va_cwS 2 hts gL_act_L_low rfl rfl rfl hdL_low ⟨Nat.le_of_ble_eq_true rfl, Nat.le_of_ble_eq_true rfl⟩) tt_pre rfl rfl hl.1 rfl (lv_room (Nat.le_of_ble_eq_true rfl)) dL_act_57 ⟨Nat.le_of_ble_eq_true rfl, Nat.le_of_ble_eq_true rfl⟩) ?_
  have hlo_57 := lo_lt x (n := 13) (by omega)
  refine st_i (y := iI 6) (congrArg (fun z : Nat => iI ((z : Nat) : Int)) hv9) ?_
  refine lv_tableIn (off := 164) (tgt := 224) hx hb dL_act_60 (by decide) (by decide) (by decide) (by decide) ?_
  refine lv_aload_n hx hb dL_act_224 rfl (lv_at hl 4 rfl) ?_
  refine lv_iload_n hx hb dL_act_225 rfl (lv_at hl 2 rfl) ?_
  refine ax_call (vx_runSW (As := [.ref o0, .int (iI ((lo (x >>> ((iI 3) &&& 31)) 2 : Nat) : Int))]) (rest := []) ⟨hx, hb, hml, hown, hts⟩ hM (vx_cwSW 2 hts gL_act_L_complete rfl rfl rfl hdL_complete ⟨Nat.le_of_ble_eq_true rfl, Nat.le_of_ble_eq_true rfl⟩) (bZ_preS hK hP hD hG hN) rfl rfl hl.1 rfl (lv_room (Nat.le_of_ble_eq_true rfl)) dL_act_226 ⟨Nat.le_of_ble_eq_true rfl, Nat.le_of_ble_eq_true rfl⟩) hS (fun q9 h => h) (fun H locs hP hz hk hS => ?_)
  exact W.iret hx hb hr (fun t ht _ => ⟨rfl, by rw [ht]; exact hP, hS.F ht⟩) hS.2.2 dL_act_229

set_option maxHeartbeats 4000000 in
set_option maxRecDepth 100000 in
theorem act_0_7a (l : Launch) (hfl : l.stackTraces = false) (dC : Nat → ClassId) (dI : Nat → Nat → Nat) (o0 : Nat) (a0 a1 q : Nat → Nat) (w : Nat) (hp0 : Pm a0) (hp1 : Pm a1) (hw : w ≤ 12) (hq : ∀ i, i < w → q i < 12) (hqd : ∀ i j, i < w → j < w → q i = q j → i = j) (x : Int32) (ho : ¬ lo (x >>> ((iI 24) &&& 31)) 10 = 0) (hv9 : lo x 13 = 7) (hz3 : (x >>> ((iI 9) &&& 31)) &&& (iI 3) = 0) : ax l yL_act wsL_act { frames := 10, cells := 1, slots := 6, locals := 174 } [.ref o0, .int x] (dC, dI) [(o0, .inr (0, [.long (pk a0), .long (pk a1), .long (pkn q w), .int (iI ((w : Nat) : Int))]))] [(o0, .inr (0, [.long (pk a0), .long (pk a1), .long (pkn q 0), .int (iI 0)]))] (some (.int (iI ((w : Nat) : Int)))) := by
  refine Met.ofW (cc := cL_act) (maxL := 6) (ret := (some .int)) (by decide) rfl ?_
  intro P0 e s m args below meth c s₁ B hml hv
  obtain ⟨rfl, hP, hK, hD0, hG, hN⟩ := hv
  have hx := B.exec
  have hb := B.bytes
  have hr := B.returns
  have hts := atoms_spec (ws := wsL_act) B.pre
  have hown : s.vm.findClass RL = some m.cls := findClass_of_methodNamed B.named
  have hlocks := B.notSynchronized
  have hD : va_D (inW [(o0, .inr (0, [.long (pk a0), .long (pk a1), .long (pkn q w), .int (iI ((w : Nat) : Int))]))]) [(o0, .inr (0, [.long (pk a0), .long (pk a1), .long (pkn q w), .int (iI ((w : Nat) : Int))]))] := va_D_in hD0
  have hS : va_S (inW [(o0, .inr (0, [.long (pk a0), .long (pk a1), .long (pkn q w), .int (iI ((w : Nat) : Int))]))]) s.heap s.heap [] := va_S.rf
  have hl := lv_entry ([.ref o0, .int x]) (n := 6) (Nat.le_of_ble_eq_true rfl)
  rw [lg_entry_eq]
  generalize (lg_sl ([.ref o0, .int x]) ++ List.replicate (6 - (lg_sl ([.ref o0, .int x])).length) Slot.unset).toArray = ls at hl ⊢
  have hl : lv_has ls 6 [(0, .ref o0), (1, .int x)] := hl
  refine lv_iload_n hx hb dL_act_0 rfl (lv_at hl 1 rfl) ?_
  refine ib_bi hx hb dL_act_1 (by decide) ?_
  refine lv_ishr hx hb dL_act_3 ?_
  refine ib_bi hx hb dL_act_4 (by decide) ?_
  refine rd_call (va_runS (As := [.int (x >>> ((iI 24) &&& 31)), .int (iI 10)]) (rest := []) ⟨hx, hb, hml, hown, hts⟩ (mL_low l (x >>> ((iI 24) &&& 31)) 10 (by omega) (by omega)) (va_cwS 2 hts gL_act_L_low rfl rfl rfl hdL_low ⟨Nat.le_of_ble_eq_true rfl, Nat.le_of_ble_eq_true rfl⟩) tt_pre rfl rfl hl.1 rfl (lv_room (Nat.le_of_ble_eq_true rfl)) dL_act_6 ⟨Nat.le_of_ble_eq_true rfl, Nat.le_of_ble_eq_true rfl⟩) ?_
  have hlo_6 := lo_lt (x >>> ((iI 24) &&& 31)) (n := 10) (by omega)
  refine ib_if_ne (tgt := 16) hx hb dL_act_9 (by decide) ⟨by omega, by omega⟩ (fun c_9 => ?_) (fun c_9 => absurd c_9 (by omega))
  refine ib_const hx hb dL_act_16 ?_
  refine lv_istore_n (lv' := [(2, .int (iI 0)), (0, .ref o0), (1, .int x)]) hx hb dL_act_17 rfl hl (by decide) rfl (fun ls hl => ?_)
  refine lv_iload_n hx hb dL_act_18 rfl (lv_at hl 2 rfl) ?_
  refine ib_const hx hb dL_act_19 ?_
  refine lv_ishr hx hb dL_act_20 ?_
  refine ib_const hx hb dL_act_21 ?_
  refine lv_iload_n hx hb dL_act_22 rfl (lv_at hl 0 rfl) ?_
  refine ib_add (z := 2) hx hb dL_act_23 (by omega) ?_
  refine rd_call (va_runS (As := [.int (x >>> ((iI 3) &&& 31)), .int (iI 2)]) (rest := []) ⟨hx, hb, hml, hown, hts⟩ (mL_low l (x >>> ((iI 3) &&& 31)) 2 (by omega) (by omega)) (va_cwS 2 hts gL_act_L_low rfl rfl rfl hdL_low ⟨Nat.le_of_ble_eq_true rfl, Nat.le_of_ble_eq_true rfl⟩) tt_pre rfl rfl hl.1 rfl (lv_room (Nat.le_of_ble_eq_true rfl)) dL_act_24 ⟨Nat.le_of_ble_eq_true rfl, Nat.le_of_ble_eq_true rfl⟩) ?_
  have hlo_24 := lo_lt (x >>> ((iI 3) &&& 31)) (n := 2) (by omega)
  refine lv_istore_n (lv' := [(3, .int (iI ((lo (x >>> ((iI 3) &&& 31)) 2 : Nat) : Int))), (2, .int (iI 0)), (0, .ref o0), (1, .int x)]) hx hb dL_act_27 rfl hl (by decide) rfl (fun ls hl => ?_)
  refine lv_iload_n hx hb dL_act_28 rfl (lv_at hl 3 rfl) ?_
  refine ib_bi hx hb dL_act_29 (by decide) ?_
  refine lv_ishr hx hb dL_act_31 ?_
  refine ib_bi hx hb dL_act_32 (by decide) ?_
  refine lv_iload_n hx hb dL_act_34 rfl (lv_at hl 1 rfl) ?_
  refine ib_add (z := 12) hx hb dL_act_35 (by omega) ?_
  refine rd_call (va_runS (As := [.int (x >>> ((iI 7) &&& 31)), .int (iI 12)]) (rest := []) ⟨hx, hb, hml, hown, hts⟩ (mL_low l (x >>> ((iI 7) &&& 31)) 12 (by omega) (by omega)) (va_cwS 2 hts gL_act_L_low rfl rfl rfl hdL_low ⟨Nat.le_of_ble_eq_true rfl, Nat.le_of_ble_eq_true rfl⟩) tt_pre rfl rfl hl.1 rfl (lv_room (Nat.le_of_ble_eq_true rfl)) dL_act_36 ⟨Nat.le_of_ble_eq_true rfl, Nat.le_of_ble_eq_true rfl⟩) ?_
  have hlo_36 := lo_lt (x >>> ((iI 7) &&& 31)) (n := 12) (by omega)
  refine lv_istore (lv' := [(4, .int (iI ((lo (x >>> ((iI 7) &&& 31)) 12 : Nat) : Int))), (3, .int (iI ((lo (x >>> ((iI 3) &&& 31)) 2 : Nat) : Int))), (2, .int (iI 0)), (0, .ref o0), (1, .int x)]) hx hb dL_act_39 hl (by decide) rfl (fun ls hl => ?_)
  refine lv_iload_n hx hb dL_act_41 rfl (lv_at hl 4 rfl) ?_
  refine ib_bi hx hb dL_act_42 (by decide) ?_
  refine lv_ishr hx hb dL_act_44 ?_
  refine ib_bi hx hb dL_act_45 (by decide) ?_
  refine lv_iload_n hx hb dL_act_47 rfl (lv_at hl 2 rfl) ?_
  refine ib_add (z := 12) hx hb dL_act_48 (by omega) ?_
  refine rd_call (va_runS (As := [.int (x >>> ((iI 11) &&& 31)), .int (iI 12)]) (rest := []) ⟨hx, hb, hml, hown, hts⟩ (mL_low l (x >>> ((iI 11) &&& 31)) 12 (by omega) (by omega)) (va_cwS 2 hts gL_act_L_low rfl rfl rfl hdL_low ⟨Nat.le_of_ble_eq_true rfl, Nat.le_of_ble_eq_true rfl⟩) tt_pre rfl rfl hl.1 rfl (lv_room (Nat.le_of_ble_eq_true rfl)) dL_act_49 ⟨Nat.le_of_ble_eq_true rfl, Nat.le_of_ble_eq_true rfl⟩) ?_
  have hlo_49 := lo_lt (x >>> ((iI 11) &&& 31)) (n := 12) (by omega)
  refine lv_istore (lv' := [(5, .int (iI ((lo (x >>> ((iI 11) &&& 31)) 12 : Nat) : Int))), (4, .int (iI ((lo (x >>> ((iI 7) &&& 31)) 12 : Nat) : Int))), (3, .int (iI ((lo (x >>> ((iI 3) &&& 31)) 2 : Nat) : Int))), (2, .int (iI 0)), (0, .ref o0), (1, .int x)]) hx hb dL_act_52 hl (by decide) rfl (fun ls hl => ?_)
  refine lv_iload_n hx hb dL_act_54 rfl (lv_at hl 5 rfl) ?_
  refine ib_bi hx hb dL_act_55 (by decide) ?_
  refine rd_call (va_runS (As := [.int x, .int (iI 13)]) (rest := []) ⟨hx, hb, hml, hown, hts⟩ (mL_low l x 13 (by omega) (by omega)) (va_cwS 2 hts gL_act_L_low rfl rfl rfl hdL_low ⟨Nat.le_of_ble_eq_true rfl, Nat.le_of_ble_eq_true rfl⟩) tt_pre rfl rfl hl.1 rfl (lv_room (Nat.le_of_ble_eq_true rfl)) dL_act_57 ⟨Nat.le_of_ble_eq_true rfl, Nat.le_of_ble_eq_true rfl⟩) ?_
  have hlo_57 := lo_lt x (n := 13) (by omega)
  refine st_i (y := iI 7) (congrArg (fun z : Nat => iI ((z : Nat) : Int)) hv9) ?_
  refine lv_tableIn (off := 170) (tgt := 230) hx hb dL_act_60 (by decide) (by decide) (by decide) (by decide) ?_
  refine lv_iload_n hx hb dL_act_230 rfl (lv_at hl 5 rfl) ?_
  refine ib_bi hx hb dL_act_231 (by decide) ?_
  refine lv_ishr hx hb dL_act_233 ?_
  refine ib_const hx hb dL_act_234 ?_
  refine lv_iand hx hb dL_act_235 ?_
  refine lv_if_ne (tgt := 246) hx hb dL_act_236 (by decide) (fun h => absurd hz3 h) (fun _ => ?_)
  refine lv_aload_n hx hb dL_act_239 rfl (lv_at hl 4 rfl) ?_
  refine wr_call (va_runV (As := []) (rest := []) ⟨hx, hb, hml, hown, hts⟩ (mX0_erase_ok l dC dI o0 a0 a1 q w hp0 hp1 hw hq hqd) (cwV 0 hts gL_act_X0_erase rfl rfl rfl hvX0_erase ⟨Nat.le_of_ble_eq_true rfl, Nat.le_of_ble_eq_true rfl⟩) (bD_pre (ci := 0) (q0 := 0) hK hP hD rfl rfl rfl) rfl rfl hl.1 rfl (lv_room (Nat.le_of_ble_eq_true rfl)) dL_act_240 ⟨Nat.le_of_ble_eq_true rfl, Nat.le_of_ble_eq_true rfl⟩) hS (fun q9 h => h) (fun H locs hP hz hk hS => ?_)
  refine lv_goto (tgt := 252) hx hb dL_act_243 (by decide) ?_
  refine W.widen (k := 1) (n := 6) (by omega) (by omega) ?_
  exact W.iret hx hb hr (fun t ht _ => ⟨rfl, by rw [ht]; exact hP, hS.F ht⟩) hS.2.2 dL_act_252

set_option maxHeartbeats 4000000 in
set_option maxRecDepth 100000 in
theorem act_0_7b (l : Launch) (hfl : l.stackTraces = false) (dC : Nat → ClassId) (dI : Nat → Nat → Nat) (o0 : Nat) (a0 a1 q : Nat → Nat) (w : Nat) (hp0 : Pm a0) (hp1 : Pm a1) (hw : w ≤ 12) (hq : ∀ i, i < w → q i < 12) (hqd : ∀ i j, i < w → j < w → q i = q j → i = j) (x : Int32) (ho : ¬ lo (x >>> ((iI 24) &&& 31)) 10 = 0) (hv9 : lo x 13 = 7) (hz3 : ¬ (x >>> ((iI 9) &&& 31)) &&& (iI 3) = 0) (v : Int) (b0 b1 q' : Nat → Nat) (w' : Nat) (hM : ax l yL_write wsL_write { frames := 8, cells := 1, slots := 6, locals := 125 } [Value.ref o0, .int (iI ((lo (x >>> ((iI 11) &&& 31)) 12 : Nat) : Int))] (dC, dI) (oW o0 a0 a1 q w) (oW o0 b0 b1 q' w') (some (.int (iI v)))) : ax l yL_act wsL_act { frames := 10, cells := 1, slots := 6, locals := 174 } [.ref o0, .int x] (dC, dI) [(o0, .inr (0, [.long (pk a0), .long (pk a1), .long (pkn q w), .int (iI ((w : Nat) : Int))]))] [(o0, .inr (0, [.long (pk b0), .long (pk b1), .long (pkn (q') (w')), .int (iI ((w' : Nat) : Int))]))] (some (.int (iI v))) := by
  refine Met.ofW (cc := cL_act) (maxL := 6) (ret := (some .int)) (by decide) rfl ?_
  intro P0 e s m args below meth c s₁ B hml hv
  obtain ⟨rfl, hP, hK, hD0, hG, hN⟩ := hv
  have hx := B.exec
  have hb := B.bytes
  have hr := B.returns
  have hts := atoms_spec (ws := wsL_act) B.pre
  have hown : s.vm.findClass RL = some m.cls := findClass_of_methodNamed B.named
  have hlocks := B.notSynchronized
  have hD : va_D (inW [(o0, .inr (0, [.long (pk a0), .long (pk a1), .long (pkn q w), .int (iI ((w : Nat) : Int))]))]) [(o0, .inr (0, [.long (pk a0), .long (pk a1), .long (pkn q w), .int (iI ((w : Nat) : Int))]))] := va_D_in hD0
  have hS : va_S (inW [(o0, .inr (0, [.long (pk a0), .long (pk a1), .long (pkn q w), .int (iI ((w : Nat) : Int))]))]) s.heap s.heap [] := va_S.rf
  have hl := lv_entry ([.ref o0, .int x]) (n := 6) (Nat.le_of_ble_eq_true rfl)
  rw [lg_entry_eq]
  generalize (lg_sl ([.ref o0, .int x]) ++ List.replicate (6 - (lg_sl ([.ref o0, .int x])).length) Slot.unset).toArray = ls at hl ⊢
  have hl : lv_has ls 6 [(0, .ref o0), (1, .int x)] := hl
  refine lv_iload_n hx hb dL_act_0 rfl (lv_at hl 1 rfl) ?_
  refine ib_bi hx hb dL_act_1 (by decide) ?_
  refine lv_ishr hx hb dL_act_3 ?_
  refine ib_bi hx hb dL_act_4 (by decide) ?_
  refine rd_call (va_runS (As := [.int (x >>> ((iI 24) &&& 31)), .int (iI 10)]) (rest := []) ⟨hx, hb, hml, hown, hts⟩ (mL_low l (x >>> ((iI 24) &&& 31)) 10 (by omega) (by omega)) (va_cwS 2 hts gL_act_L_low rfl rfl rfl hdL_low ⟨Nat.le_of_ble_eq_true rfl, Nat.le_of_ble_eq_true rfl⟩) tt_pre rfl rfl hl.1 rfl (lv_room (Nat.le_of_ble_eq_true rfl)) dL_act_6 ⟨Nat.le_of_ble_eq_true rfl, Nat.le_of_ble_eq_true rfl⟩) ?_
  have hlo_6 := lo_lt (x >>> ((iI 24) &&& 31)) (n := 10) (by omega)
  refine ib_if_ne (tgt := 16) hx hb dL_act_9 (by decide) ⟨by omega, by omega⟩ (fun c_9 => ?_) (fun c_9 => absurd c_9 (by omega))
  refine ib_const hx hb dL_act_16 ?_
  refine lv_istore_n (lv' := [(2, .int (iI 0)), (0, .ref o0), (1, .int x)]) hx hb dL_act_17 rfl hl (by decide) rfl (fun ls hl => ?_)
  refine lv_iload_n hx hb dL_act_18 rfl (lv_at hl 2 rfl) ?_
  refine ib_const hx hb dL_act_19 ?_
  refine lv_ishr hx hb dL_act_20 ?_
  refine ib_const hx hb dL_act_21 ?_
  refine lv_iload_n hx hb dL_act_22 rfl (lv_at hl 0 rfl) ?_
  refine ib_add (z := 2) hx hb dL_act_23 (by omega) ?_
  refine rd_call (va_runS (As := [.int (x >>> ((iI 3) &&& 31)), .int (iI 2)]) (rest := []) ⟨hx, hb, hml, hown, hts⟩ (mL_low l (x >>> ((iI 3) &&& 31)) 2 (by omega) (by omega)) (va_cwS 2 hts gL_act_L_low rfl rfl rfl hdL_low ⟨Nat.le_of_ble_eq_true rfl, Nat.le_of_ble_eq_true rfl⟩) tt_pre rfl rfl hl.1 rfl (lv_room (Nat.le_of_ble_eq_true rfl)) dL_act_24 ⟨Nat.le_of_ble_eq_true rfl, Nat.le_of_ble_eq_true rfl⟩) ?_
  have hlo_24 := lo_lt (x >>> ((iI 3) &&& 31)) (n := 2) (by omega)
  refine lv_istore_n (lv' := [(3, .int (iI ((lo (x >>> ((iI 3) &&& 31)) 2 : Nat) : Int))), (2, .int (iI 0)), (0, .ref o0), (1, .int x)]) hx hb dL_act_27 rfl hl (by decide) rfl (fun ls hl => ?_)
  refine lv_iload_n hx hb dL_act_28 rfl (lv_at hl 3 rfl) ?_
  refine ib_bi hx hb dL_act_29 (by decide) ?_
  refine lv_ishr hx hb dL_act_31 ?_
  refine ib_bi hx hb dL_act_32 (by decide) ?_
  refine lv_iload_n hx hb dL_act_34 rfl (lv_at hl 1 rfl) ?_
  refine ib_add (z := 12) hx hb dL_act_35 (by omega) ?_
  refine rd_call (va_runS (As := [.int (x >>> ((iI 7) &&& 31)), .int (iI 12)]) (rest := []) ⟨hx, hb, hml, hown, hts⟩ (mL_low l (x >>> ((iI 7) &&& 31)) 12 (by omega) (by omega)) (va_cwS 2 hts gL_act_L_low rfl rfl rfl hdL_low ⟨Nat.le_of_ble_eq_true rfl, Nat.le_of_ble_eq_true rfl⟩) tt_pre rfl rfl hl.1 rfl (lv_room (Nat.le_of_ble_eq_true rfl)) dL_act_36 ⟨Nat.le_of_ble_eq_true rfl, Nat.le_of_ble_eq_true rfl⟩) ?_
  have hlo_36 := lo_lt (x >>> ((iI 7) &&& 31)) (n := 12) (by omega)
  refine lv_istore (lv' := [(4, .int (iI ((lo (x >>> ((iI 7) &&& 31)) 12 : Nat) : Int))), (3, .int (iI ((lo (x >>> ((iI 3) &&& 31)) 2 : Nat) : Int))), (2, .int (iI 0)), (0, .ref o0), (1, .int x)]) hx hb dL_act_39 hl (by decide) rfl (fun ls hl => ?_)
  refine lv_iload_n hx hb dL_act_41 rfl (lv_at hl 4 rfl) ?_
  refine ib_bi hx hb dL_act_42 (by decide) ?_
  refine lv_ishr hx hb dL_act_44 ?_
  refine ib_bi hx hb dL_act_45 (by decide) ?_
  refine lv_iload_n hx hb dL_act_47 rfl (lv_at hl 2 rfl) ?_
  refine ib_add (z := 12) hx hb dL_act_48 (by omega) ?_
  refine rd_call (va_runS (As := [.int (x >>> ((iI 11) &&& 31)), .int (iI 12)]) (rest := []) ⟨hx, hb, hml, hown, hts⟩ (mL_low l (x >>> ((iI 11) &&& 31)) 12 (by omega) (by omega)) (va_cwS 2 hts gL_act_L_low rfl rfl rfl hdL_low ⟨Nat.le_of_ble_eq_true rfl, Nat.le_of_ble_eq_true rfl⟩) tt_pre rfl rfl hl.1 rfl (lv_room (Nat.le_of_ble_eq_true rfl)) dL_act_49 ⟨Nat.le_of_ble_eq_true rfl, Nat.le_of_ble_eq_true rfl⟩) ?_
  have hlo_49 := lo_lt (x >>> ((iI 11) &&& 31)) (n := 12) (by omega)
  refine lv_istore (lv' := [(5, .int (iI ((lo (x >>> ((iI 11) &&& 31)) 12 : Nat) : Int))), (4, .int (iI ((lo (x >>> ((iI 7) &&& 31)) 12 : Nat) : Int))), (3, .int (iI ((lo (x >>> ((iI 3) &&& 31)) 2 : Nat) : Int))), (2, .int (iI 0)), (0, .ref o0), (1, .int x)]) hx hb dL_act_52 hl (by decide) rfl (fun ls hl => ?_)
  refine lv_iload_n hx hb dL_act_54 rfl (lv_at hl 5 rfl) ?_
  refine ib_bi hx hb dL_act_55 (by decide) ?_
  refine rd_call (va_runS (As := [.int x, .int (iI 13)]) (rest := []) ⟨hx, hb, hml, hown, hts⟩ (mL_low l x 13 (by omega) (by omega)) (va_cwS 2 hts gL_act_L_low rfl rfl rfl hdL_low ⟨Nat.le_of_ble_eq_true rfl, Nat.le_of_ble_eq_true rfl⟩) tt_pre rfl rfl hl.1 rfl (lv_room (Nat.le_of_ble_eq_true rfl)) dL_act_57 ⟨Nat.le_of_ble_eq_true rfl, Nat.le_of_ble_eq_true rfl⟩) ?_
  have hlo_57 := lo_lt x (n := 13) (by omega)
  refine st_i (y := iI 7) (congrArg (fun z : Nat => iI ((z : Nat) : Int)) hv9) ?_
  refine lv_tableIn (off := 170) (tgt := 230) hx hb dL_act_60 (by decide) (by decide) (by decide) (by decide) ?_
  refine lv_iload_n hx hb dL_act_230 rfl (lv_at hl 5 rfl) ?_
  refine ib_bi hx hb dL_act_231 (by decide) ?_
  refine lv_ishr hx hb dL_act_233 ?_
  refine ib_const hx hb dL_act_234 ?_
  refine lv_iand hx hb dL_act_235 ?_
  refine lv_if_ne (tgt := 246) hx hb dL_act_236 (by decide) (fun _ => ?_) (fun h => absurd h hz3)
  refine lv_aload_n hx hb dL_act_246 rfl (lv_at hl 4 rfl) ?_
  refine lv_iload hx hb dL_act_247 (lv_at hl 0 rfl) ?_
  refine ax_call (vx_runSW (As := [.ref o0, .int (iI ((lo (x >>> ((iI 11) &&& 31)) 12 : Nat) : Int))]) (rest := []) ⟨hx, hb, hml, hown, hts⟩ hM (vx_cwSW 2 hts gL_act_L_write rfl rfl rfl hdL_write ⟨Nat.le_of_ble_eq_true rfl, Nat.le_of_ble_eq_true rfl⟩) (bZ_preS hK hP hD hG hN) rfl rfl hl.1 rfl (lv_room (Nat.le_of_ble_eq_true rfl)) dL_act_249 ⟨Nat.le_of_ble_eq_true rfl, Nat.le_of_ble_eq_true rfl⟩) hS (fun q9 h => h) (fun H locs hP hz hk hS => ?_)
  exact W.iret hx hb hr (fun t ht _ => ⟨rfl, by rw [ht]; exact hP, hS.F ht⟩) hS.2.2 dL_act_252

set_option maxHeartbeats 4000000 in
set_option maxRecDepth 100000 in
theorem act_0_8 (l : Launch) (hfl : l.stackTraces = false) (dC : Nat → ClassId) (dI : Nat → Nat → Nat) (o0 : Nat) (a0 a1 q : Nat → Nat) (w : Nat) (hp0 : Pm a0) (hp1 : Pm a1) (hw : w ≤ 12) (hq : ∀ i, i < w → q i < 12) (hqd : ∀ i j, i < w → j < w → q i = q j → i = j) (x : Int32) (ho : ¬ lo (x >>> ((iI 24) &&& 31)) 10 = 0) (hv9 : 8 ≤ lo x 13)  (v : Int) (b0 b1 q' : Nat → Nat) (w' : Nat) (hM : ax l yL_put wsL_put { frames := 8, cells := 1, slots := 6, locals := 132 } [Value.ref o0, .int (iI ((lo (x >>> ((iI 3) &&& 31)) 2 : Nat) : Int)), .int (iI ((lo (x >>> ((iI 11) &&& 31)) 12 : Nat) : Int)), .int (iI ((lo (x >>> ((iI 7) &&& 31)) 12 : Nat) : Int))] (dC, dI) (oW o0 a0 a1 q w) (oW o0 b0 b1 q' w') (some (.int (iI v)))) : ax l yL_act wsL_act { frames := 10, cells := 1, slots := 6, locals := 174 } [.ref o0, .int x] (dC, dI) [(o0, .inr (0, [.long (pk a0), .long (pk a1), .long (pkn q w), .int (iI ((w : Nat) : Int))]))] [(o0, .inr (0, [.long (pk b0), .long (pk b1), .long (pkn (q') (w')), .int (iI ((w' : Nat) : Int))]))] (some (.int (iI v))) := by
  refine Met.ofW (cc := cL_act) (maxL := 6) (ret := (some .int)) (by decide) rfl ?_
  intro P0 e s m args below meth c s₁ B hml hv
  obtain ⟨rfl, hP, hK, hD0, hG, hN⟩ := hv
  have hx := B.exec
  have hb := B.bytes
  have hr := B.returns
  have hts := atoms_spec (ws := wsL_act) B.pre
  have hown : s.vm.findClass RL = some m.cls := findClass_of_methodNamed B.named
  have hlocks := B.notSynchronized
  have hD : va_D (inW [(o0, .inr (0, [.long (pk a0), .long (pk a1), .long (pkn q w), .int (iI ((w : Nat) : Int))]))]) [(o0, .inr (0, [.long (pk a0), .long (pk a1), .long (pkn q w), .int (iI ((w : Nat) : Int))]))] := va_D_in hD0
  have hS : va_S (inW [(o0, .inr (0, [.long (pk a0), .long (pk a1), .long (pkn q w), .int (iI ((w : Nat) : Int))]))]) s.heap s.heap [] := va_S.rf
  have hl := lv_entry ([.ref o0, .int x]) (n := 6) (Nat.le_of_ble_eq_true rfl)
  rw [lg_entry_eq]
  generalize (lg_sl ([.ref o0, .int x]) ++ List.replicate (6 - (lg_sl ([.ref o0, .int x])).length) Slot.unset).toArray = ls at hl ⊢
  have hl : lv_has ls 6 [(0, .ref o0), (1, .int x)] := hl
  refine lv_iload_n hx hb dL_act_0 rfl (lv_at hl 1 rfl) ?_
  refine ib_bi hx hb dL_act_1 (by decide) ?_
  refine lv_ishr hx hb dL_act_3 ?_
  refine ib_bi hx hb dL_act_4 (by decide) ?_
  refine rd_call (va_runS (As := [.int (x >>> ((iI 24) &&& 31)), .int (iI 10)]) (rest := []) ⟨hx, hb, hml, hown, hts⟩ (mL_low l (x >>> ((iI 24) &&& 31)) 10 (by omega) (by omega)) (va_cwS 2 hts gL_act_L_low rfl rfl rfl hdL_low ⟨Nat.le_of_ble_eq_true rfl, Nat.le_of_ble_eq_true rfl⟩) tt_pre rfl rfl hl.1 rfl (lv_room (Nat.le_of_ble_eq_true rfl)) dL_act_6 ⟨Nat.le_of_ble_eq_true rfl, Nat.le_of_ble_eq_true rfl⟩) ?_
  have hlo_6 := lo_lt (x >>> ((iI 24) &&& 31)) (n := 10) (by omega)
  refine ib_if_ne (tgt := 16) hx hb dL_act_9 (by decide) ⟨by omega, by omega⟩ (fun c_9 => ?_) (fun c_9 => absurd c_9 (by omega))
  refine ib_const hx hb dL_act_16 ?_
  refine lv_istore_n (lv' := [(2, .int (iI 0)), (0, .ref o0), (1, .int x)]) hx hb dL_act_17 rfl hl (by decide) rfl (fun ls hl => ?_)
  refine lv_iload_n hx hb dL_act_18 rfl (lv_at hl 2 rfl) ?_
  refine ib_const hx hb dL_act_19 ?_
  refine lv_ishr hx hb dL_act_20 ?_
  refine ib_const hx hb dL_act_21 ?_
  refine lv_iload_n hx hb dL_act_22 rfl (lv_at hl 0 rfl) ?_
  refine ib_add (z := 2) hx hb dL_act_23 (by omega) ?_
  refine rd_call (va_runS (As := [.int (x >>> ((iI 3) &&& 31)), .int (iI 2)]) (rest := []) ⟨hx, hb, hml, hown, hts⟩ (mL_low l (x >>> ((iI 3) &&& 31)) 2 (by omega) (by omega)) (va_cwS 2 hts gL_act_L_low rfl rfl rfl hdL_low ⟨Nat.le_of_ble_eq_true rfl, Nat.le_of_ble_eq_true rfl⟩) tt_pre rfl rfl hl.1 rfl (lv_room (Nat.le_of_ble_eq_true rfl)) dL_act_24 ⟨Nat.le_of_ble_eq_true rfl, Nat.le_of_ble_eq_true rfl⟩) ?_
  have hlo_24 := lo_lt (x >>> ((iI 3) &&& 31)) (n := 2) (by omega)
  refine lv_istore_n (lv' := [(3, .int (iI ((lo (x >>> ((iI 3) &&& 31)) 2 : Nat) : Int))), (2, .int (iI 0)), (0, .ref o0), (1, .int x)]) hx hb dL_act_27 rfl hl (by decide) rfl (fun ls hl => ?_)
  refine lv_iload_n hx hb dL_act_28 rfl (lv_at hl 3 rfl) ?_
  refine ib_bi hx hb dL_act_29 (by decide) ?_
  refine lv_ishr hx hb dL_act_31 ?_
  refine ib_bi hx hb dL_act_32 (by decide) ?_
  refine lv_iload_n hx hb dL_act_34 rfl (lv_at hl 1 rfl) ?_
  refine ib_add (z := 12) hx hb dL_act_35 (by omega) ?_
  refine rd_call (va_runS (As := [.int (x >>> ((iI 7) &&& 31)), .int (iI 12)]) (rest := []) ⟨hx, hb, hml, hown, hts⟩ (mL_low l (x >>> ((iI 7) &&& 31)) 12 (by omega) (by omega)) (va_cwS 2 hts gL_act_L_low rfl rfl rfl hdL_low ⟨Nat.le_of_ble_eq_true rfl, Nat.le_of_ble_eq_true rfl⟩) tt_pre rfl rfl hl.1 rfl (lv_room (Nat.le_of_ble_eq_true rfl)) dL_act_36 ⟨Nat.le_of_ble_eq_true rfl, Nat.le_of_ble_eq_true rfl⟩) ?_
  have hlo_36 := lo_lt (x >>> ((iI 7) &&& 31)) (n := 12) (by omega)
  refine lv_istore (lv' := [(4, .int (iI ((lo (x >>> ((iI 7) &&& 31)) 12 : Nat) : Int))), (3, .int (iI ((lo (x >>> ((iI 3) &&& 31)) 2 : Nat) : Int))), (2, .int (iI 0)), (0, .ref o0), (1, .int x)]) hx hb dL_act_39 hl (by decide) rfl (fun ls hl => ?_)
  refine lv_iload_n hx hb dL_act_41 rfl (lv_at hl 4 rfl) ?_
  refine ib_bi hx hb dL_act_42 (by decide) ?_
  refine lv_ishr hx hb dL_act_44 ?_
  refine ib_bi hx hb dL_act_45 (by decide) ?_
  refine lv_iload_n hx hb dL_act_47 rfl (lv_at hl 2 rfl) ?_
  refine ib_add (z := 12) hx hb dL_act_48 (by omega) ?_
  refine rd_call (va_runS (As := [.int (x >>> ((iI 11) &&& 31)), .int (iI 12)]) (rest := []) ⟨hx, hb, hml, hown, hts⟩ (mL_low l (x >>> ((iI 11) &&& 31)) 12 (by omega) (by omega)) (va_cwS 2 hts gL_act_L_low rfl rfl rfl hdL_low ⟨Nat.le_of_ble_eq_true rfl, Nat.le_of_ble_eq_true rfl⟩) tt_pre rfl rfl hl.1 rfl (lv_room (Nat.le_of_ble_eq_true rfl)) dL_act_49 ⟨Nat.le_of_ble_eq_true rfl, Nat.le_of_ble_eq_true rfl⟩) ?_
  have hlo_49 := lo_lt (x >>> ((iI 11) &&& 31)) (n := 12) (by omega)
  refine lv_istore (lv' := [(5, .int (iI ((lo (x >>> ((iI 11) &&& 31)) 12 : Nat) : Int))), (4, .int (iI ((lo (x >>> ((iI 7) &&& 31)) 12 : Nat) : Int))), (3, .int (iI ((lo (x >>> ((iI 3) &&& 31)) 2 : Nat) : Int))), (2, .int (iI 0)), (0, .ref o0), (1, .int x)]) hx hb dL_act_52 hl (by decide) rfl (fun ls hl => ?_)
  refine lv_iload_n hx hb dL_act_54 rfl (lv_at hl 5 rfl) ?_
  refine ib_bi hx hb dL_act_55 (by decide) ?_
  refine rd_call (va_runS (As := [.int x, .int (iI 13)]) (rest := []) ⟨hx, hb, hml, hown, hts⟩ (mL_low l x 13 (by omega) (by omega)) (va_cwS 2 hts gL_act_L_low rfl rfl rfl hdL_low ⟨Nat.le_of_ble_eq_true rfl, Nat.le_of_ble_eq_true rfl⟩) tt_pre rfl rfl hl.1 rfl (lv_room (Nat.le_of_ble_eq_true rfl)) dL_act_57 ⟨Nat.le_of_ble_eq_true rfl, Nat.le_of_ble_eq_true rfl⟩) ?_
  have hlo_57 := lo_lt x (n := 13) (by omega)
  refine lv_tableOut (tgt := 253) hx hb dL_act_60 (Or.inr (act_out _ (by omega) (by omega))) (by decide) ?_
  refine lv_aload_n hx hb dL_act_253 rfl (lv_at hl 4 rfl) ?_
  refine lv_iload_n hx hb dL_act_254 rfl (lv_at hl 2 rfl) ?_
  refine lv_iload hx hb dL_act_255 (lv_at hl 0 rfl) ?_
  refine lv_iload hx hb dL_act_257 (lv_at hl 1 rfl) ?_
  refine ax_call (vx_runSW (As := [.ref o0, .int (iI ((lo (x >>> ((iI 3) &&& 31)) 2 : Nat) : Int)), .int (iI ((lo (x >>> ((iI 11) &&& 31)) 12 : Nat) : Int)), .int (iI ((lo (x >>> ((iI 7) &&& 31)) 12 : Nat) : Int))]) (rest := []) ⟨hx, hb, hml, hown, hts⟩ hM (vx_cwSW 4 hts gL_act_L_put rfl rfl rfl hdL_put ⟨Nat.le_of_ble_eq_true rfl, Nat.le_of_ble_eq_true rfl⟩) (bZ_preS hK hP hD hG hN) rfl rfl hl.1 rfl (lv_room (Nat.le_of_ble_eq_true rfl)) dL_act_259 ⟨Nat.le_of_ble_eq_true rfl, Nat.le_of_ble_eq_true rfl⟩) hS (fun q9 h => h) (fun H locs hP hz hk hS => ?_)
  exact W.iret hx hb hr (fun t ht _ => ⟨rfl, by rw [ht]; exact hP, hS.F ht⟩) hS.2.2 dL_act_262

theorem eL_act {a0 a1 q : Nat → Nat} {w : Nat} (S : Gs a0 a1 q w) (x : Int32) : ∃ (v : Int) (b0 b1 q' : Nat → Nat) (w' : Nat), Rs a0 a1 q w v b0 b1 q' w' ∧ ∀ (l : Launch) (_ : l.stackTraces = false) (dC : Nat → ClassId) (dI : Nat → Nat → Nat) (o0 : Nat), ax l yL_act wsL_act { frames := 10, cells := 1, slots := 6, locals := 174 } [Value.ref o0, .int x] (dC, dI) (oW o0 a0 a1 q w) (oW o0 b0 b1 q' w') (some (.int (iI v))) := by
  have S0 := S
  obtain ⟨hp0, hp1, hw, hq, hqd⟩ := S0
  have hx13 := lo_lt x (n := 13) (by decide)
  have hx4 := lo_lt (x >>> ((iI 9) &&& 31)) (n := 4) (by decide)
  by_cases ho : lo (x >>> ((iI 24) &&& 31)) 10 = 0
  · rcases (show lo x 13 = 0 ∨ lo x 13 = 1 ∨ lo x 13 = 2 ∨ lo x 13 = 3 ∨ lo x 13 = 4 ∨ lo x 13 = 5 ∨ lo x 13 = 6 ∨ lo x 13 = 7 ∨ 8 ≤ lo x 13 by omega) with hv9 | hv9 | hv9 | hv9 | hv9 | hv9 | hv9 | hv9 | hv9
    · skip
      obtain ⟨v, b0, b1, q', w', hR, hM⟩ := eL_take S (r := lo (x >>> ((iI 3) &&& 31)) 3) (k := lo (x >>> ((iI 15) &&& 31)) 5) (i := lo (x >>> ((iI 7) &&& 31)) 13) (t := lo (x >>> ((iI 18) &&& 31)) 3) (Nat.lt_of_lt_of_le (lo_lt (x >>> ((iI 3) &&& 31)) (n := 3) (by decide)) (by decide)) (Nat.lt_of_lt_of_le (lo_lt (x >>> ((iI 15) &&& 31)) (n := 5) (by decide)) (by decide)) (Nat.lt_of_lt_of_le (lo_lt (x >>> ((iI 7) &&& 31)) (n := 13) (by decide)) (by decide)) (Nat.lt_of_lt_of_le (lo_lt (x >>> ((iI 18) &&& 31)) (n := 3) (by decide)) (by decide))
      exact ⟨v, b0, b1, q', w', hR, fun l hfl dC dI o0 => act_1_0 l hfl dC dI o0 a0 a1 q w hp0 hp1 hw hq hqd x ho hv9 v b0 b1 q' w' (hM l hfl dC dI o0)⟩
    · skip
      obtain ⟨v, b0, b1, q', w', hR, hM⟩ := eL_take S (r := lo (x >>> ((iI 3) &&& 31)) 3) (k := lo (x >>> ((iI 15) &&& 31)) 5) (i := lo (x >>> ((iI 7) &&& 31)) 13) (t := lo (x >>> ((iI 18) &&& 31)) 3) (Nat.lt_of_lt_of_le (lo_lt (x >>> ((iI 3) &&& 31)) (n := 3) (by decide)) (by decide)) (Nat.lt_of_lt_of_le (lo_lt (x >>> ((iI 15) &&& 31)) (n := 5) (by decide)) (by decide)) (Nat.lt_of_lt_of_le (lo_lt (x >>> ((iI 7) &&& 31)) (n := 13) (by decide)) (by decide)) (Nat.lt_of_lt_of_le (lo_lt (x >>> ((iI 18) &&& 31)) (n := 3) (by decide)) (by decide))
      exact ⟨v, b0, b1, q', w', hR, fun l hfl dC dI o0 => act_1_1 l hfl dC dI o0 a0 a1 q w hp0 hp1 hw hq hqd x ho hv9 v b0 b1 q' w' (hM l hfl dC dI o0)⟩
    · skip
      obtain ⟨v, b0, b1, q', w', hR, hM⟩ := eL_multiply S (r := lo (x >>> ((iI 3) &&& 31)) 3) (f := lo (x >>> ((iI 9) &&& 31)) 13) (Nat.lt_of_lt_of_le (lo_lt (x >>> ((iI 3) &&& 31)) (n := 3) (by decide)) (by decide)) (Nat.lt_of_lt_of_le (lo_lt (x >>> ((iI 9) &&& 31)) (n := 13) (by decide)) (by decide))
      exact ⟨v, b0, b1, q', w', hR, fun l hfl dC dI o0 => act_1_2 l hfl dC dI o0 a0 a1 q w hp0 hp1 hw hq hqd x ho hv9 v b0 b1 q' w' (hM l hfl dC dI o0)⟩
    · skip
      obtain ⟨v, b0, b1, q', w', hR, hM⟩ := eL_rotate S (r := lo (x >>> ((iI 3) &&& 31)) 3) (b := lo (x >>> ((iI 7) &&& 31)) 13) (Nat.lt_of_lt_of_le (lo_lt (x >>> ((iI 3) &&& 31)) (n := 3) (by decide)) (by decide)) (Nat.lt_of_lt_of_le (lo_lt (x >>> ((iI 7) &&& 31)) (n := 13) (by decide)) (by decide))
      exact ⟨v, b0, b1, q', w', hR, fun l hfl dC dI o0 => act_1_3 l hfl dC dI o0 a0 a1 q w hp0 hp1 hw hq hqd x ho hv9 v b0 b1 q' w' (hM l hfl dC dI o0)⟩
    · skip
      obtain ⟨v, b0, b1, q', w', hR, hM⟩ := eL_write S (t := lo (x >>> ((iI 7) &&& 31)) 13) (Nat.lt_of_lt_of_le (lo_lt (x >>> ((iI 7) &&& 31)) (n := 13) (by decide)) (by decide))
      exact ⟨v, b0, b1, q', w', hR, fun l hfl dC dI o0 => act_1_4 l hfl dC dI o0 a0 a1 q w hp0 hp1 hw hq hqd x ho hv9 v b0 b1 q' w' (hM l hfl dC dI o0)⟩
    · skip
      obtain ⟨v, b0, b1, q', w', hR, hM⟩ := eL_write S (t := lo (x >>> ((iI 7) &&& 31)) 13) (Nat.lt_of_lt_of_le (lo_lt (x >>> ((iI 7) &&& 31)) (n := 13) (by decide)) (by decide))
      exact ⟨v, b0, b1, q', w', hR, fun l hfl dC dI o0 => act_1_5 l hfl dC dI o0 a0 a1 q w hp0 hp1 hw hq hqd x ho hv9 v b0 b1 q' w' (hM l hfl dC dI o0)⟩
    · skip
      obtain ⟨v, b0, b1, q', w', hR, hM⟩ := eL_complete S (r := lo (x >>> ((iI 3) &&& 31)) 3) (Nat.lt_of_lt_of_le (lo_lt (x >>> ((iI 3) &&& 31)) (n := 3) (by decide)) (by decide))
      exact ⟨v, b0, b1, q', w', hR, fun l hfl dC dI o0 => act_1_6 l hfl dC dI o0 a0 a1 q w hp0 hp1 hw hq hqd x ho hv9 v b0 b1 q' w' (hM l hfl dC dI o0)⟩
    · by_cases hz3 : (x >>> ((iI 9) &&& 31)) &&& (iI 3) = 0
      · skip
        refine ⟨((w : Nat) : Int), a0, a1, q, 0, ⟨⟨hp0, hp1, by decide, fun i h => absurd h (Nat.not_lt_zero i), fun i j h => absurd h (Nat.not_lt_zero i)⟩, ⟨by omega, by omega⟩, fun h => by omega⟩, fun l hfl dC dI o0 => ?_⟩
        exact act_1_7a l hfl dC dI o0 a0 a1 q w hp0 hp1 hw hq hqd x ho hv9 hz3
      · skip
        obtain ⟨v, b0, b1, q', w', hR, hM⟩ := eL_write S (t := lo (x >>> ((iI 11) &&& 31)) 13) (Nat.lt_of_lt_of_le (lo_lt (x >>> ((iI 11) &&& 31)) (n := 13) (by decide)) (by decide))
        exact ⟨v, b0, b1, q', w', hR, fun l hfl dC dI o0 => act_1_7b l hfl dC dI o0 a0 a1 q w hp0 hp1 hw hq hqd x ho hv9 hz3 v b0 b1 q' w' (hM l hfl dC dI o0)⟩
    · skip
      obtain ⟨v, b0, b1, q', w', hR, hM⟩ := eL_put S (r := lo (x >>> ((iI 3) &&& 31)) 3) (i := lo (x >>> ((iI 11) &&& 31)) 13) (t := lo (x >>> ((iI 7) &&& 31)) 13) (Nat.lt_of_lt_of_le (lo_lt (x >>> ((iI 3) &&& 31)) (n := 3) (by decide)) (by decide)) (Nat.lt_of_lt_of_le (lo_lt (x >>> ((iI 11) &&& 31)) (n := 13) (by decide)) (by decide)) (Nat.lt_of_lt_of_le (lo_lt (x >>> ((iI 7) &&& 31)) (n := 13) (by decide)) (by decide))
      exact ⟨v, b0, b1, q', w', hR, fun l hfl dC dI o0 => act_1_8 l hfl dC dI o0 a0 a1 q w hp0 hp1 hw hq hqd x ho hv9 v b0 b1 q' w' (hM l hfl dC dI o0)⟩
  · rcases (show lo x 13 = 0 ∨ lo x 13 = 1 ∨ lo x 13 = 2 ∨ lo x 13 = 3 ∨ lo x 13 = 4 ∨ lo x 13 = 5 ∨ lo x 13 = 6 ∨ lo x 13 = 7 ∨ 8 ≤ lo x 13 by omega) with hv9 | hv9 | hv9 | hv9 | hv9 | hv9 | hv9 | hv9 | hv9
    · skip
      obtain ⟨v, b0, b1, q', w', hR, hM⟩ := eL_take S (r := lo (x >>> ((iI 3) &&& 31)) 2) (k := lo (x >>> ((iI 15) &&& 31)) 4) (i := lo (x >>> ((iI 7) &&& 31)) 12) (t := lo (x >>> ((iI 18) &&& 31)) 2) (Nat.lt_of_lt_of_le (lo_lt (x >>> ((iI 3) &&& 31)) (n := 2) (by decide)) (by decide)) (Nat.lt_of_lt_of_le (lo_lt (x >>> ((iI 15) &&& 31)) (n := 4) (by decide)) (by decide)) (Nat.lt_of_lt_of_le (lo_lt (x >>> ((iI 7) &&& 31)) (n := 12) (by decide)) (by decide)) (Nat.lt_of_lt_of_le (lo_lt (x >>> ((iI 18) &&& 31)) (n := 2) (by decide)) (by decide))
      exact ⟨v, b0, b1, q', w', hR, fun l hfl dC dI o0 => act_0_0 l hfl dC dI o0 a0 a1 q w hp0 hp1 hw hq hqd x ho hv9 v b0 b1 q' w' (hM l hfl dC dI o0)⟩
    · skip
      obtain ⟨v, b0, b1, q', w', hR, hM⟩ := eL_take S (r := lo (x >>> ((iI 3) &&& 31)) 2) (k := lo (x >>> ((iI 15) &&& 31)) 4) (i := lo (x >>> ((iI 7) &&& 31)) 12) (t := lo (x >>> ((iI 18) &&& 31)) 2) (Nat.lt_of_lt_of_le (lo_lt (x >>> ((iI 3) &&& 31)) (n := 2) (by decide)) (by decide)) (Nat.lt_of_lt_of_le (lo_lt (x >>> ((iI 15) &&& 31)) (n := 4) (by decide)) (by decide)) (Nat.lt_of_lt_of_le (lo_lt (x >>> ((iI 7) &&& 31)) (n := 12) (by decide)) (by decide)) (Nat.lt_of_lt_of_le (lo_lt (x >>> ((iI 18) &&& 31)) (n := 2) (by decide)) (by decide))
      exact ⟨v, b0, b1, q', w', hR, fun l hfl dC dI o0 => act_0_1 l hfl dC dI o0 a0 a1 q w hp0 hp1 hw hq hqd x ho hv9 v b0 b1 q' w' (hM l hfl dC dI o0)⟩
    · rcases (show lo (x >>> ((iI 9) &&& 31)) 4 = 0 ∨ lo (x >>> ((iI 9) &&& 31)) 4 = 1 ∨ lo (x >>> ((iI 9) &&& 31)) 4 = 2 ∨ lo (x >>> ((iI 9) &&& 31)) 4 = 3 by omega) with h4 | h4 | h4 | h4
      · skip
        obtain ⟨v, b0, b1, q', w', hR, hM⟩ := eL_multiply S (r := lo (x >>> ((iI 3) &&& 31)) 2) (f := 1) (Nat.lt_of_lt_of_le (lo_lt (x >>> ((iI 3) &&& 31)) (n := 2) (by decide)) (by decide)) (by decide)
        exact ⟨v, b0, b1, q', w', hR, fun l hfl dC dI o0 => act_0_2a l hfl dC dI o0 a0 a1 q w hp0 hp1 hw hq hqd x ho hv9 h4 v b0 b1 q' w' (hM l hfl dC dI o0)⟩
      · skip
        obtain ⟨v, b0, b1, q', w', hR, hM⟩ := eL_multiply S (r := lo (x >>> ((iI 3) &&& 31)) 2) (f := 5) (Nat.lt_of_lt_of_le (lo_lt (x >>> ((iI 3) &&& 31)) (n := 2) (by decide)) (by decide)) (by decide)
        exact ⟨v, b0, b1, q', w', hR, fun l hfl dC dI o0 => act_0_2b l hfl dC dI o0 a0 a1 q w hp0 hp1 hw hq hqd x ho hv9 h4 v b0 b1 q' w' (hM l hfl dC dI o0)⟩
      · skip
        obtain ⟨v, b0, b1, q', w', hR, hM⟩ := eL_multiply S (r := lo (x >>> ((iI 3) &&& 31)) 2) (f := 7) (Nat.lt_of_lt_of_le (lo_lt (x >>> ((iI 3) &&& 31)) (n := 2) (by decide)) (by decide)) (by decide)
        exact ⟨v, b0, b1, q', w', hR, fun l hfl dC dI o0 => act_0_2c l hfl dC dI o0 a0 a1 q w hp0 hp1 hw hq hqd x ho hv9 h4 v b0 b1 q' w' (hM l hfl dC dI o0)⟩
      · skip
        obtain ⟨v, b0, b1, q', w', hR, hM⟩ := eL_multiply S (r := lo (x >>> ((iI 3) &&& 31)) 2) (f := 11) (Nat.lt_of_lt_of_le (lo_lt (x >>> ((iI 3) &&& 31)) (n := 2) (by decide)) (by decide)) (by decide)
        exact ⟨v, b0, b1, q', w', hR, fun l hfl dC dI o0 => act_0_2d l hfl dC dI o0 a0 a1 q w hp0 hp1 hw hq hqd x ho hv9 h4 v b0 b1 q' w' (hM l hfl dC dI o0)⟩
    · skip
      obtain ⟨v, b0, b1, q', w', hR, hM⟩ := eL_rotate S (r := lo (x >>> ((iI 3) &&& 31)) 2) (b := lo (x >>> ((iI 7) &&& 31)) 12) (Nat.lt_of_lt_of_le (lo_lt (x >>> ((iI 3) &&& 31)) (n := 2) (by decide)) (by decide)) (Nat.lt_of_lt_of_le (lo_lt (x >>> ((iI 7) &&& 31)) (n := 12) (by decide)) (by decide))
      exact ⟨v, b0, b1, q', w', hR, fun l hfl dC dI o0 => act_0_3 l hfl dC dI o0 a0 a1 q w hp0 hp1 hw hq hqd x ho hv9 v b0 b1 q' w' (hM l hfl dC dI o0)⟩
    · skip
      obtain ⟨v, b0, b1, q', w', hR, hM⟩ := eL_write S (t := lo (x >>> ((iI 7) &&& 31)) 12) (Nat.lt_of_lt_of_le (lo_lt (x >>> ((iI 7) &&& 31)) (n := 12) (by decide)) (by decide))
      exact ⟨v, b0, b1, q', w', hR, fun l hfl dC dI o0 => act_0_4 l hfl dC dI o0 a0 a1 q w hp0 hp1 hw hq hqd x ho hv9 v b0 b1 q' w' (hM l hfl dC dI o0)⟩
    · skip
      obtain ⟨v, b0, b1, q', w', hR, hM⟩ := eL_write S (t := lo (x >>> ((iI 7) &&& 31)) 12) (Nat.lt_of_lt_of_le (lo_lt (x >>> ((iI 7) &&& 31)) (n := 12) (by decide)) (by decide))
      exact ⟨v, b0, b1, q', w', hR, fun l hfl dC dI o0 => act_0_5 l hfl dC dI o0 a0 a1 q w hp0 hp1 hw hq hqd x ho hv9 v b0 b1 q' w' (hM l hfl dC dI o0)⟩
    · skip
      obtain ⟨v, b0, b1, q', w', hR, hM⟩ := eL_complete S (r := lo (x >>> ((iI 3) &&& 31)) 2) (Nat.lt_of_lt_of_le (lo_lt (x >>> ((iI 3) &&& 31)) (n := 2) (by decide)) (by decide))
      exact ⟨v, b0, b1, q', w', hR, fun l hfl dC dI o0 => act_0_6 l hfl dC dI o0 a0 a1 q w hp0 hp1 hw hq hqd x ho hv9 v b0 b1 q' w' (hM l hfl dC dI o0)⟩
    · by_cases hz3 : (x >>> ((iI 9) &&& 31)) &&& (iI 3) = 0
      · skip
        refine ⟨((w : Nat) : Int), a0, a1, q, 0, ⟨⟨hp0, hp1, by decide, fun i h => absurd h (Nat.not_lt_zero i), fun i j h => absurd h (Nat.not_lt_zero i)⟩, ⟨by omega, by omega⟩, fun h => by omega⟩, fun l hfl dC dI o0 => ?_⟩
        exact act_0_7a l hfl dC dI o0 a0 a1 q w hp0 hp1 hw hq hqd x ho hv9 hz3
      · skip
        obtain ⟨v, b0, b1, q', w', hR, hM⟩ := eL_write S (t := lo (x >>> ((iI 11) &&& 31)) 12) (Nat.lt_of_lt_of_le (lo_lt (x >>> ((iI 11) &&& 31)) (n := 12) (by decide)) (by decide))
        exact ⟨v, b0, b1, q', w', hR, fun l hfl dC dI o0 => act_0_7b l hfl dC dI o0 a0 a1 q w hp0 hp1 hw hq hqd x ho hv9 hz3 v b0 b1 q' w' (hM l hfl dC dI o0)⟩
    · skip
      obtain ⟨v, b0, b1, q', w', hR, hM⟩ := eL_put S (r := lo (x >>> ((iI 3) &&& 31)) 2) (i := lo (x >>> ((iI 11) &&& 31)) 12) (t := lo (x >>> ((iI 7) &&& 31)) 12) (Nat.lt_of_lt_of_le (lo_lt (x >>> ((iI 3) &&& 31)) (n := 2) (by decide)) (by decide)) (Nat.lt_of_lt_of_le (lo_lt (x >>> ((iI 11) &&& 31)) (n := 12) (by decide)) (by decide)) (Nat.lt_of_lt_of_le (lo_lt (x >>> ((iI 7) &&& 31)) (n := 12) (by decide)) (by decide))
      exact ⟨v, b0, b1, q', w', hR, fun l hfl dC dI o0 => act_0_8 l hfl dC dI o0 a0 a1 q w hp0 hp1 hw hq hqd x ho hv9 v b0 b1 q' w' (hM l hfl dC dI o0)⟩
