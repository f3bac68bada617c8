set_option maxHeartbeats 4000000 in
set_option maxRecDepth 100000 in
theorem law_c18 {p : Program} {l : Launch} {e : Env} {s : State} {m : MethodId} {below : List Frame} {meth : Method} {c : Code} {Q : State → Prop} {dC : Nat → ClassId} {dI : Nat → Nat → Nat} {cI cJ : ClassId} {b L : Nat} {xs : Nat → Int32} (C : LC p l s m meth c (dC, dI) cI cJ b L xs) {o0 u0 m0 t0 k0 p0 : Nat} {a0 a1 q K : Nat → Nat} {w : Nat} {th : Int32} {g : Nat → Int64} {H : Heap} (hI : LI s (dC, dI) cI cJ o0 u0 m0 t0 k0 p0 a0 a1 q K w th g H) {n cells slots : Nat} (hc1 : cells + 1 ≤ 1036) (hc2 : slots + 6 ≤ 8286) (hn : 5 * n + 5 ≤ L) (hL : L ≤ 2560) {ls : Array Slot} (hl : lv_has ls 8 [(0, .ref b), (1, .ref o0), (2, .ref m0), (3, .ref u0), (4, .int (iI ((5 * n : Nat) : Int)))])
    (kk : ∀ (a0 a1 q K : Nat → Nat) (w : Nat) (th : Int32) (g : Nat → Int64) (H : Heap) (ls : Array Slot), LI s (dC, dI) cI cJ o0 u0 m0 t0 k0 p0 a0 a1 q K w th g H → lv_has ls 8 [(0, .ref b), (1, .ref o0), (2, .ref m0), (3, .ref u0), (4, .int (iI ((5 * n : Nat) : Int)))] → W p l e room_1 s m #[Value.ref b] below meth c H [] (cells + 1) (slots + 6) Q (F0 m 1833 ls [])) : W p l e room_1 s m #[Value.ref b] below meth c H [] cells slots Q (F0 m 1449 ls []) := by
  obtain ⟨hx, hb, hml, hown, hts, hK, hG0, hN, hX, hbl, hfl⟩ := C
  obtain ⟨hp0, hp1, hw, hq, hqd, hP, hD, hS⟩ := hI
  have hbA : ¬ LA s b := Nat.not_le.mpr hbl
  obtain ⟨z0, hz0, e0⟩ := ex_i (xs (5 * n + 1))
  obtain ⟨z1, hz1, e1⟩ := ex_i (xs (5 * n + 2))
  have hza0 := hz0.1
  have hzb0 := hz0.2
  have hza1 := hz1.1
  have hzb1 := hz1.2
  by_cases b1 : ¬ (z0 = 0 ∨ z0 = 1)
  · skip
    refine lv_aload_n hx hb dL_law_1449 rfl (lv_at hl 1 rfl) ?_
    refine lv_aload_n hx hb dL_law_1450 rfl (lv_at hl 0 rfl) ?_
    refine lv_iload hx hb dL_law_1451 (lv_at hl 4 rfl) ?_
    refine ib_const hx hb dL_law_1453 ?_
    refine ib_add (z := (((5 * n) + 1 : Nat) : Int)) hx hb dL_law_1454 (by omega) ?_
    refine st_i (y := iI ((5 * n + 1 : Nat) : Int)) (congrArg iI (by omega)) ?_
    refine va_sld (b := b) (L := L) (xs := xs) hx hb hX hbl hbA hS (iI_vp (i := 5 * n + 1) (by omega) (by omega)) dL_law_1455 ?_
    refine st_i (y := iI z0) ((congrArg xs (iI_cl (by omega))).trans e0) ?_
    refine lv_aload_n hx hb dL_law_1456 rfl (lv_at hl 0 rfl) ?_
    refine lv_iload hx hb dL_law_1457 (lv_at hl 4 rfl) ?_
    refine ib_const hx hb dL_law_1459 ?_
    refine ib_add (z := (((5 * n) + 2 : Nat) : Int)) hx hb dL_law_1460 (by omega) ?_
    refine st_i (y := iI ((5 * n + 2 : Nat) : Int)) (congrArg iI (by omega)) ?_
    refine va_sld (b := b) (L := L) (xs := xs) hx hb hX hbl hbA hS (iI_vp (i := 5 * n + 2) (by omega) (by omega)) dL_law_1461 ?_
    refine st_i (y := iI z1) ((congrArg xs (iI_cl (by omega))).trans e1) ?_
    refine lv_aload_n hx hb dL_law_1462 rfl (lv_at hl 3 rfl) ?_
    have hf9 : cells + 1 ≤ room_1.cells ∧ slots + 6 ≤ room_1.slots := ⟨by show cells + 1 ≤ 1036; omega, by show slots + 6 ≤ 8286; omega⟩
    have hP1 : va_P (dC, dI) vwCl [(o0, .inr (0, [.long (pk a0), .long (pk a1), .long (pkn q w), .int (iI ((w : Nat) : Int))]))] H := va_P_l (w1 := [(o0, .inr (0, [.long (pk a0), .long (pk a1), .long (pkn q w), .int (iI ((w : Nat) : Int))]))]) (w2 := [(u0, .inl (cJ, 1, .inr (.inl (g)))), (m0, .inr (1, [.int th, .ref t0, .ref k0, .ref p0, .int (iI ((w : Nat) : Int))])), (t0, .inl (cI, 24, .inl (fun j => iI ((tb a0 a1 j : Nat) : Int)))), (k0, .inl (cI, 12, .inl (fun j => iI ((K j : Nat) : Int)))), (p0, .inl (cI, 12, .inl (fun j => iI ((q j : Nat) : Int))))]) hP
    have hK1 := hK.sub (tys' := []) [] rfl
    refine rdK_call (vx_runSW (As := [.ref o0, .int (iI z0), .int (iI z1), .ref u0]) (rest := []) ⟨hx, hb, hml, hown, hts⟩ (mL_mostKept_x1 l hfl dC dI o0 a0 a1 q w hp0 hp1 hw hq hqd u0 z0 z1 hz0 hz1 b1) (vx_cwSW 4 hts gL_law_L_mostKept rfl rfl rfl hdL_mostKept ⟨(Nat.le_of_ble_eq_true rfl), (Nat.le_of_ble_eq_true rfl)⟩) (bY_preS hK1 hP1 (hG0.at hS) hN) rfl rfl hl.1 rfl (lv_room (Nat.le_of_ble_eq_true rfl)) dL_law_1463 hf9) (fun H hz hk => ?_)
    have hP : va_P (dC, dI) vwCl ([(o0, .inr (0, [.long (pk a0), .long (pk a1), .long (pkn q w), .int (iI ((w : Nat) : Int))])), (u0, .inl (cJ, 1, .inr (.inl (g))))] ++ [(m0, .inr (1, [.int th, .ref t0, .ref k0, .ref p0, .int (iI ((w : Nat) : Int))])), (t0, .inl (cI, 24, .inl (fun j => iI ((tb a0 a1 j : Nat) : Int)))), (k0, .inl (cI, 12, .inl (fun j => iI ((K j : Nat) : Int)))), (p0, .inl (cI, 12, .inl (fun j => iI ((q j : Nat) : Int))))]) H := va_P_new hP hk
    have hS := va_S_new hS hz hk
    refine lv_istore (lv' := [(5, .int (iI 1)), (0, .ref b), (1, .ref o0), (2, .ref m0), (3, .ref u0), (4, .int (iI ((5 * n : Nat) : Int)))]) hx hb dL_law_1466 hl (by decide) rfl (fun ls hl => ?_)
    refine lv_aload_n hx hb dL_law_1468 rfl (lv_at hl 3 rfl) ?_
    refine lv_aload_n hx hb dL_law_1469 rfl (lv_at hl 1 rfl) ?_
    refine lv_iload hx hb dL_law_1470 (lv_at hl 5 rfl) ?_
    refine ib_const hx hb dL_law_1472 ?_
    refine ib_add (z := (((5 * n) + 1 : Nat) : Int)) hx hb dL_law_1473 (by omega) ?_
    refine st_i (y := iI ((5 * n + 1 : Nat) : Int)) (congrArg iI (by omega)) ?_
    refine va_sld (b := b) (L := L) (xs := xs) hx hb hX hbl hbA hS (iI_vp (i := 5 * n + 1) (by omega) (by omega)) dL_law_1474 ?_
    refine st_i (y := iI z0) ((congrArg xs (iI_cl (by omega))).trans e0) ?_
    refine lv_aload_n hx hb dL_law_1475 rfl (lv_at hl 1 rfl) ?_
    refine lv_iload hx hb dL_law_1476 (lv_at hl 5 rfl) ?_
    refine ib_const hx hb dL_law_1478 ?_
    refine ib_add (z := (((5 * n) + 2 : Nat) : Int)) hx hb dL_law_1479 (by omega) ?_
    refine st_i (y := iI ((5 * n + 2 : Nat) : Int)) (congrArg iI (by omega)) ?_
    refine va_sld (b := b) (L := L) (xs := xs) hx hb hX hbl hbA hS (iI_vp (i := 5 * n + 2) (by omega) (by omega)) dL_law_1480 ?_
    refine st_i (y := iI z1) ((congrArg xs (iI_cl (by omega))).trans e1) ?_
    have hP2 : va_P (dC, dI) vwCl [(m0, .inr (1, [.int th, .ref t0, .ref k0, .ref p0, .int (iI ((w : Nat) : Int))])), (t0, .inl (cI, 24, .inl (fun j => iI ((tb a0 a1 j : Nat) : Int)))), (k0, .inl (cI, 12, .inl (fun j => iI ((K j : Nat) : Int)))), (p0, .inl (cI, 12, .inl (fun j => iI ((q j : Nat) : Int))))] H := va_P_r (w1 := [(o0, .inr (0, [.long (pk a0), .long (pk a1), .long (pkn q w), .int (iI ((w : Nat) : Int))])), (u0, .inl (cJ, 1, .inr (.inl (g))))]) (w2 := [(m0, .inr (1, [.int th, .ref t0, .ref k0, .ref p0, .int (iI ((w : Nat) : Int))])), (t0, .inl (cI, 24, .inl (fun j => iI ((tb a0 a1 j : Nat) : Int)))), (k0, .inl (cI, 12, .inl (fun j => iI ((K j : Nat) : Int)))), (p0, .inl (cI, 12, .inl (fun j => iI ((q j : Nat) : Int))))]) hP
    have hK2 := hK.sub (tys' := [(cI, .int)]) [1] rfl
    have hf9 : cells + 1 + 0 ≤ room_1.cells ∧ slots + 6 + 0 ≤ room_1.slots := ⟨by show cells + 1 + 0 ≤ 1036; omega, by show slots + 6 + 0 ≤ 8286; omega⟩
    have hD2 : va_D (LA s) [(m0, .inr (1, [.int th, .ref t0, .ref k0, .ref p0, .int (iI ((w : Nat) : Int))])), (t0, .inl (cI, 24, .inl (fun j => iI ((tb a0 a1 j : Nat) : Int)))), (k0, .inl (cI, 12, .inl (fun j => iI ((K j : Nat) : Int)))), (p0, .inl (cI, 12, .inl (fun j => iI ((q j : Nat) : Int))))] := va_D_r (w1 := [(o0, .inr (0, [.long (pk a0), .long (pk a1), .long (pkn q w), .int (iI ((w : Nat) : Int))])), (u0, .inl (cJ, 1, .inr (.inl (g))))]) (w2 := [(m0, .inr (1, [.int th, .ref t0, .ref k0, .ref p0, .int (iI ((w : Nat) : Int))])), (t0, .inl (cI, 24, .inl (fun j => iI ((tb a0 a1 j : Nat) : Int)))), (k0, .inl (cI, 12, .inl (fun j => iI ((K j : Nat) : Int)))), (p0, .inl (cI, 12, .inl (fun j => iI ((q j : Nat) : Int))))]) hD
    refine wr_call (va_runV (As := [.int (iI z0), .int (iI z1)]) (rest := []) ⟨hx, hb, hml, hown, hts⟩ (mX1_mostKept_x1 l dC dI cI m0 t0 k0 p0 a0 a1 K q th w hp0.1 hp1.1 hw hq z0 z1 hz0 hz1 b1) (cwV 2 hts gL_law_X1_mostKept rfl rfl rfl hvX1_mostKept ⟨(Nat.le_of_ble_eq_true rfl), (Nat.le_of_ble_eq_true rfl)⟩) (bD_pre (ci := 1) (q0 := 0) hK2 hP2 hD2 rfl rfl rfl) rfl rfl hl.1 rfl (lv_room (Nat.le_of_ble_eq_true rfl)) dL_law_1481 hf9) hS (fun q9 h => inW_A hD2 h) (fun H locs hPn hz hk hS => ?_)
    have hP : va_P (dC, dI) vwCl ([(o0, .inr (0, [.long (pk a0), .long (pk a1), .long (pkn q w), .int (iI ((w : Nat) : Int))])), (u0, .inl (cJ, 1, .inr (.inl (g))))] ++ [(m0, .inr (1, [.int (iI 1), .ref t0, .ref k0, .ref p0, .int (iI ((w : Nat) : Int))])), (t0, .inl (cI, 24, .inl (fun j => iI ((tb a0 a1 j : Nat) : Int)))), (k0, .inl (cI, 12, .inl (fun j => iI ((K j : Nat) : Int)))), (p0, .inl (cI, 12, .inl (fun j => iI ((q j : Nat) : Int))))]) H := wj_r (w1 := [(o0, .inr (0, [.long (pk a0), .long (pk a1), .long (pkn q w), .int (iI ((w : Nat) : Int))])), (u0, .inl (cJ, 1, .inr (.inl (g))))]) (w2 := [(m0, .inr (1, [.int th, .ref t0, .ref k0, .ref p0, .int (iI ((w : Nat) : Int))])), (t0, .inl (cI, 24, .inl (fun j => iI ((tb a0 a1 j : Nat) : Int)))), (k0, .inl (cI, 12, .inl (fun j => iI ((K j : Nat) : Int)))), (p0, .inl (cI, 12, .inl (fun j => iI ((q j : Nat) : Int))))]) (w2' := [(m0, .inr (1, [.int (iI 1), .ref t0, .ref k0, .ref p0, .int (iI ((w : Nat) : Int))])), (t0, .inl (cI, 24, .inl (fun j => iI ((tb a0 a1 j : Nat) : Int)))), (k0, .inl (cI, 12, .inl (fun j => iI ((K j : Nat) : Int)))), (p0, .inl (cI, 12, .inl (fun j => iI ((q j : Nat) : Int))))]) hP hD hPn hk
    have hD : va_D (LA s) ([(o0, .inr (0, [.long (pk a0), .long (pk a1), .long (pkn q w), .int (iI ((w : Nat) : Int))])), (u0, .inl (cJ, 1, .inr (.inl (g))))] ++ [(m0, .inr (1, [.int (iI 1), .ref t0, .ref k0, .ref p0, .int (iI ((w : Nat) : Int))])), (t0, .inl (cI, 24, .inl (fun j => iI ((tb a0 a1 j : Nat) : Int)))), (k0, .inl (cI, 12, .inl (fun j => iI ((K j : Nat) : Int)))), (p0, .inl (cI, 12, .inl (fun j => iI ((q j : Nat) : Int))))]) := va_D_same (w := ([(o0, .inr (0, [.long (pk a0), .long (pk a1), .long (pkn q w), .int (iI ((w : Nat) : Int))])), (u0, .inl (cJ, 1, .inr (.inl (g))))] ++ [(m0, .inr (1, [.int th, .ref t0, .ref k0, .ref p0, .int (iI ((w : Nat) : Int))])), (t0, .inl (cI, 24, .inl (fun j => iI ((tb a0 a1 j : Nat) : Int)))), (k0, .inl (cI, 12, .inl (fun j => iI ((K j : Nat) : Int)))), (p0, .inl (cI, 12, .inl (fun j => iI ((q j : Nat) : Int))))])) (Eq.trans (b := [o0, u0, m0, t0, k0, p0]) rfl rfl) hD
    refine va_forget hS.2.2 ?_
    have hS := va_S_nil hS
    refine lv_istore (lv' := [(6, .int (iI 0)), (5, .int (iI 1)), (0, .ref b), (1, .ref o0), (2, .ref m0), (3, .ref u0), (4, .int (iI ((5 * n : Nat) : Int)))]) hx hb dL_law_1484 hl (by decide) rfl (fun ls hl => ?_)
    refine lv_aload_n hx hb dL_law_1486 rfl (lv_at hl 4 rfl) ?_
    have hP2 : va_P (dC, dI) vwCl [(m0, .inr (1, [.int (iI 1), .ref t0, .ref k0, .ref p0, .int (iI ((w : Nat) : Int))])), (t0, .inl (cI, 24, .inl (fun j => iI ((tb a0 a1 j : Nat) : Int)))), (k0, .inl (cI, 12, .inl (fun j => iI ((K j : Nat) : Int)))), (p0, .inl (cI, 12, .inl (fun j => iI ((q j : Nat) : Int))))] H := va_P_r (w1 := [(o0, .inr (0, [.long (pk a0), .long (pk a1), .long (pkn q w), .int (iI ((w : Nat) : Int))])), (u0, .inl (cJ, 1, .inr (.inl (g))))]) (w2 := [(m0, .inr (1, [.int (iI 1), .ref t0, .ref k0, .ref p0, .int (iI ((w : Nat) : Int))])), (t0, .inl (cI, 24, .inl (fun j => iI ((tb a0 a1 j : Nat) : Int)))), (k0, .inl (cI, 12, .inl (fun j => iI ((K j : Nat) : Int)))), (p0, .inl (cI, 12, .inl (fun j => iI ((q j : Nat) : Int))))]) hP
    have hK2 := hK.sub (tys' := [(cI, .int)]) [1] rfl
    have hf9 : cells + 1 + 0 ≤ room_1.cells ∧ slots + 6 + 0 ≤ room_1.slots := ⟨by show cells + 1 + 0 ≤ 1036; omega, by show slots + 6 + 0 ≤ 8286; omega⟩
    refine rd_call (va_runV (As := []) (rest := []) ⟨hx, hb, hml, hown, hts⟩ (mX1_thrown l dC dI cI m0 t0 k0 p0 a0 a1 K q (iI 1) w hp0.1 hp1.1 hw hq) (cwV 0 hts gL_law_X1_thrown rfl rfl rfl hvX1_thrown ⟨(Nat.le_of_ble_eq_true rfl), (Nat.le_of_ble_eq_true rfl)⟩) (bW_pre (ci := 1) (q0 := 0) hK2 hP2 rfl rfl rfl) rfl rfl hl.1 rfl (lv_room (Nat.le_of_ble_eq_true rfl)) dL_law_1487 hf9) ?_
    refine lv_iload hx hb dL_law_1490 (lv_at hl 1 rfl) ?_
    refine ib_icmp_eq (tgt := 1497) hx hb dL_law_1492 (by decide) ⟨by omega, by omega⟩ ⟨by omega, by omega⟩ (fun c_1492 => ?_) (fun c_1492 => absurd c_1492 (by decide))
    refine lv_iload hx hb dL_law_1497 (lv_at hl 1 rfl) ?_
    refine ib_if_ne (tgt := 1514) hx hb dL_law_1499 (by decide) ⟨by omega, by omega⟩ (fun c_1499 => ?_) (fun c_1499 => absurd c_1499 (by decide))
    refine lv_goto (tgt := 1833) hx hb dL_law_1514 (by decide) ?_
    exact kk a0 a1 q K w (iI 1) (g) H ls ⟨hp0, hp1, hw, hq, hqd, hP, hD, hS⟩ (lv_sub hl [2, 3, 4, 5, 6] rfl)
  by_cases b2 : (z0 = 0 ∨ z0 = 1) ∧ ¬ (2 ≤ z1 ∧ z1 ≤ 11)
  · skip
    refine lv_aload_n hx hb dL_law_1449 rfl (lv_at hl 1 rfl) ?_
    refine lv_aload_n hx hb dL_law_1450 rfl (lv_at hl 0 rfl) ?_
    refine lv_iload hx hb dL_law_1451 (lv_at hl 4 rfl) ?_
    refine ib_const hx hb dL_law_1453 ?_
    refine ib_add (z := (((5 * n) + 1 : Nat) : Int)) hx hb dL_law_1454 (by omega) ?_
    refine st_i (y := iI ((5 * n + 1 : Nat) : Int)) (congrArg iI (by omega)) ?_
    refine va_sld (b := b) (L := L) (xs := xs) hx hb hX hbl hbA hS (iI_vp (i := 5 * n + 1) (by omega) (by omega)) dL_law_1455 ?_
    refine st_i (y := iI z0) ((congrArg xs (iI_cl (by omega))).trans e0) ?_
    refine lv_aload_n hx hb dL_law_1456 rfl (lv_at hl 0 rfl) ?_
    refine lv_iload hx hb dL_law_1457 (lv_at hl 4 rfl) ?_
    refine ib_const hx hb dL_law_1459 ?_
    refine ib_add (z := (((5 * n) + 2 : Nat) : Int)) hx hb dL_law_1460 (by omega) ?_
    refine st_i (y := iI ((5 * n + 2 : Nat) : Int)) (congrArg iI (by omega)) ?_
    refine va_sld (b := b) (L := L) (xs := xs) hx hb hX hbl hbA hS (iI_vp (i := 5 * n + 2) (by omega) (by omega)) dL_law_1461 ?_
    refine st_i (y := iI z1) ((congrArg xs (iI_cl (by omega))).trans e1) ?_
    refine lv_aload_n hx hb dL_law_1462 rfl (lv_at hl 3 rfl) ?_
    have hf9 : cells + 1 ≤ room_1.cells ∧ slots + 6 ≤ room_1.slots := ⟨by show cells + 1 ≤ 1036; omega, by show slots + 6 ≤ 8286; omega⟩
    have hP1 : va_P (dC, dI) vwCl [(o0, .inr (0, [.long (pk a0), .long (pk a1), .long (pkn q w), .int (iI ((w : Nat) : Int))]))] H := va_P_l (w1 := [(o0, .inr (0, [.long (pk a0), .long (pk a1), .long (pkn q w), .int (iI ((w : Nat) : Int))]))]) (w2 := [(u0, .inl (cJ, 1, .inr (.inl (g)))), (m0, .inr (1, [.int th, .ref t0, .ref k0, .ref p0, .int (iI ((w : Nat) : Int))])), (t0, .inl (cI, 24, .inl (fun j => iI ((tb a0 a1 j : Nat) : Int)))), (k0, .inl (cI, 12, .inl (fun j => iI ((K j : Nat) : Int)))), (p0, .inl (cI, 12, .inl (fun j => iI ((q j : Nat) : Int))))]) hP
    have hK1 := hK.sub (tys' := []) [] rfl
    refine rdK_call (vx_runSW (As := [.ref o0, .int (iI z0), .int (iI z1), .ref u0]) (rest := []) ⟨hx, hb, hml, hown, hts⟩ (mL_mostKept_x2 l hfl dC dI o0 a0 a1 q w hp0 hp1 hw hq hqd u0 z0 z1 hz0 hz1 b2) (vx_cwSW 4 hts gL_law_L_mostKept rfl rfl rfl hdL_mostKept ⟨(Nat.le_of_ble_eq_true rfl), (Nat.le_of_ble_eq_true rfl)⟩) (bY_preS hK1 hP1 (hG0.at hS) hN) rfl rfl hl.1 rfl (lv_room (Nat.le_of_ble_eq_true rfl)) dL_law_1463 hf9) (fun H hz hk => ?_)
    have hP : va_P (dC, dI) vwCl ([(o0, .inr (0, [.long (pk a0), .long (pk a1), .long (pkn q w), .int (iI ((w : Nat) : Int))])), (u0, .inl (cJ, 1, .inr (.inl (g))))] ++ [(m0, .inr (1, [.int th, .ref t0, .ref k0, .ref p0, .int (iI ((w : Nat) : Int))])), (t0, .inl (cI, 24, .inl (fun j => iI ((tb a0 a1 j : Nat) : Int)))), (k0, .inl (cI, 12, .inl (fun j => iI ((K j : Nat) : Int)))), (p0, .inl (cI, 12, .inl (fun j => iI ((q j : Nat) : Int))))]) H := va_P_new hP hk
    have hS := va_S_new hS hz hk
    refine lv_istore (lv' := [(5, .int (iI 2)), (0, .ref b), (1, .ref o0), (2, .ref m0), (3, .ref u0), (4, .int (iI ((5 * n : Nat) : Int)))]) hx hb dL_law_1466 hl (by decide) rfl (fun ls hl => ?_)
    refine lv_aload_n hx hb dL_law_1468 rfl (lv_at hl 3 rfl) ?_
    refine lv_aload_n hx hb dL_law_1469 rfl (lv_at hl 1 rfl) ?_
    refine lv_iload hx hb dL_law_1470 (lv_at hl 5 rfl) ?_
    refine ib_const hx hb dL_law_1472 ?_
    refine ib_add (z := (((5 * n) + 1 : Nat) : Int)) hx hb dL_law_1473 (by omega) ?_
    refine st_i (y := iI ((5 * n + 1 : Nat) : Int)) (congrArg iI (by omega)) ?_
    refine va_sld (b := b) (L := L) (xs := xs) hx hb hX hbl hbA hS (iI_vp (i := 5 * n + 1) (by omega) (by omega)) dL_law_1474 ?_
    refine st_i (y := iI z0) ((congrArg xs (iI_cl (by omega))).trans e0) ?_
    refine lv_aload_n hx hb dL_law_1475 rfl (lv_at hl 1 rfl) ?_
    refine lv_iload hx hb dL_law_1476 (lv_at hl 5 rfl) ?_
    refine ib_const hx hb dL_law_1478 ?_
    refine ib_add (z := (((5 * n) + 2 : Nat) : Int)) hx hb dL_law_1479 (by omega) ?_
    refine st_i (y := iI ((5 * n + 2 : Nat) : Int)) (congrArg iI (by omega)) ?_
    refine va_sld (b := b) (L := L) (xs := xs) hx hb hX hbl hbA hS (iI_vp (i := 5 * n + 2) (by omega) (by omega)) dL_law_1480 ?_
    refine st_i (y := iI z1) ((congrArg xs (iI_cl (by omega))).trans e1) ?_
    have hP2 : va_P (dC, dI) vwCl [(m0, .inr (1, [.int th, .ref t0, .ref k0, .ref p0, .int (iI ((w : Nat) : Int))])), (t0, .inl (cI, 24, .inl (fun j => iI ((tb a0 a1 j : Nat) : Int)))), (k0, .inl (cI, 12, .inl (fun j => iI ((K j : Nat) : Int)))), (p0, .inl (cI, 12, .inl (fun j => iI ((q j : Nat) : Int))))] H := va_P_r (w1 := [(o0, .inr (0, [.long (pk a0), .long (pk a1), .long (pkn q w), .int (iI ((w : Nat) : Int))])), (u0, .inl (cJ, 1, .inr (.inl (g))))]) (w2 := [(m0, .inr (1, [.int th, .ref t0, .ref k0, .ref p0, .int (iI ((w : Nat) : Int))])), (t0, .inl (cI, 24, .inl (fun j => iI ((tb a0 a1 j : Nat) : Int)))), (k0, .inl (cI, 12, .inl (fun j => iI ((K j : Nat) : Int)))), (p0, .inl (cI, 12, .inl (fun j => iI ((q j : Nat) : Int))))]) hP
    have hK2 := hK.sub (tys' := [(cI, .int)]) [1] rfl
    have hf9 : cells + 1 + 0 ≤ room_1.cells ∧ slots + 6 + 0 ≤ room_1.slots := ⟨by show cells + 1 + 0 ≤ 1036; omega, by show slots + 6 + 0 ≤ 8286; omega⟩
    have hD2 : va_D (LA s) [(m0, .inr (1, [.int th, .ref t0, .ref k0, .ref p0, .int (iI ((w : Nat) : Int))])), (t0, .inl (cI, 24, .inl (fun j => iI ((tb a0 a1 j : Nat) : Int)))), (k0, .inl (cI, 12, .inl (fun j => iI ((K j : Nat) : Int)))), (p0, .inl (cI, 12, .inl (fun j => iI ((q j : Nat) : Int))))] := va_D_r (w1 := [(o0, .inr (0, [.long (pk a0), .long (pk a1), .long (pkn q w), .int (iI ((w : Nat) : Int))])), (u0, .inl (cJ, 1, .inr (.inl (g))))]) (w2 := [(m0, .inr (1, [.int th, .ref t0, .ref k0, .ref p0, .int (iI ((w : Nat) : Int))])), (t0, .inl (cI, 24, .inl (fun j => iI ((tb a0 a1 j : Nat) : Int)))), (k0, .inl (cI, 12, .inl (fun j => iI ((K j : Nat) : Int)))), (p0, .inl (cI, 12, .inl (fun j => iI ((q j : Nat) : Int))))]) hD
    refine wr_call (va_runV (As := [.int (iI z0), .int (iI z1)]) (rest := []) ⟨hx, hb, hml, hown, hts⟩ (mX1_mostKept_x2 l dC dI cI m0 t0 k0 p0 a0 a1 K q th w hp0.1 hp1.1 hw hq z0 z1 hz0 hz1 b2) (cwV 2 hts gL_law_X1_mostKept rfl rfl rfl hvX1_mostKept ⟨(Nat.le_of_ble_eq_true rfl), (Nat.le_of_ble_eq_true rfl)⟩) (bD_pre (ci := 1) (q0 := 0) hK2 hP2 hD2 rfl rfl rfl) rfl rfl hl.1 rfl (lv_room (Nat.le_of_ble_eq_true rfl)) dL_law_1481 hf9) hS (fun q9 h => inW_A hD2 h) (fun H locs hPn hz hk hS => ?_)
    have hP : va_P (dC, dI) vwCl ([(o0, .inr (0, [.long (pk a0), .long (pk a1), .long (pkn q w), .int (iI ((w : Nat) : Int))])), (u0, .inl (cJ, 1, .inr (.inl (g))))] ++ [(m0, .inr (1, [.int (iI 2), .ref t0, .ref k0, .ref p0, .int (iI ((w : Nat) : Int))])), (t0, .inl (cI, 24, .inl (fun j => iI ((tb a0 a1 j : Nat) : Int)))), (k0, .inl (cI, 12, .inl (fun j => iI ((K j : Nat) : Int)))), (p0, .inl (cI, 12, .inl (fun j => iI ((q j : Nat) : Int))))]) H := wj_r (w1 := [(o0, .inr (0, [.long (pk a0), .long (pk a1), .long (pkn q w), .int (iI ((w : Nat) : Int))])), (u0, .inl (cJ, 1, .inr (.inl (g))))]) (w2 := [(m0, .inr (1, [.int th, .ref t0, .ref k0, .ref p0, .int (iI ((w : Nat) : Int))])), (t0, .inl (cI, 24, .inl (fun j => iI ((tb a0 a1 j : Nat) : Int)))), (k0, .inl (cI, 12, .inl (fun j => iI ((K j : Nat) : Int)))), (p0, .inl (cI, 12, .inl (fun j => iI ((q j : Nat) : Int))))]) (w2' := [(m0, .inr (1, [.int (iI 2), .ref t0, .ref k0, .ref p0, .int (iI ((w : Nat) : Int))])), (t0, .inl (cI, 24, .inl (fun j => iI ((tb a0 a1 j : Nat) : Int)))), (k0, .inl (cI, 12, .inl (fun j => iI ((K j : Nat) : Int)))), (p0, .inl (cI, 12, .inl (fun j => iI ((q j : Nat) : Int))))]) hP hD hPn hk
    have hD : va_D (LA s) ([(o0, .inr (0, [.long (pk a0), .long (pk a1), .long (pkn q w), .int (iI ((w : Nat) : Int))])), (u0, .inl (cJ, 1, .inr (.inl (g))))] ++ [(m0, .inr (1, [.int (iI 2), .ref t0, .ref k0, .ref p0, .int (iI ((w : Nat) : Int))])), (t0, .inl (cI, 24, .inl (fun j => iI ((tb a0 a1 j : Nat) : Int)))), (k0, .inl (cI, 12, .inl (fun j => iI ((K j : Nat) : Int)))), (p0, .inl (cI, 12, .inl (fun j => iI ((q j : Nat) : Int))))]) := va_D_same (w := ([(o0, .inr (0, [.long (pk a0), .long (pk a1), .long (pkn q w), .int (iI ((w : Nat) : Int))])), (u0, .inl (cJ, 1, .inr (.inl (g))))] ++ [(m0, .inr (1, [.int th, .ref t0, .ref k0, .ref p0, .int (iI ((w : Nat) : Int))])), (t0, .inl (cI, 24, .inl (fun j => iI ((tb a0 a1 j : Nat) : Int)))), (k0, .inl (cI, 12, .inl (fun j => iI ((K j : Nat) : Int)))), (p0, .inl (cI, 12, .inl (fun j => iI ((q j : Nat) : Int))))])) (Eq.trans (b := [o0, u0, m0, t0, k0, p0]) rfl rfl) hD
    refine va_forget hS.2.2 ?_
    have hS := va_S_nil hS
    refine lv_istore (lv' := [(6, .int (iI 0)), (5, .int (iI 2)), (0, .ref b), (1, .ref o0), (2, .ref m0), (3, .ref u0), (4, .int (iI ((5 * n : Nat) : Int)))]) hx hb dL_law_1484 hl (by decide) rfl (fun ls hl => ?_)
    refine lv_aload_n hx hb dL_law_1486 rfl (lv_at hl 4 rfl) ?_
    have hP2 : va_P (dC, dI) vwCl [(m0, .inr (1, [.int (iI 2), .ref t0, .ref k0, .ref p0, .int (iI ((w : Nat) : Int))])), (t0, .inl (cI, 24, .inl (fun j => iI ((tb a0 a1 j : Nat) : Int)))), (k0, .inl (cI, 12, .inl (fun j => iI ((K j : Nat) : Int)))), (p0, .inl (cI, 12, .inl (fun j => iI ((q j : Nat) : Int))))] H := va_P_r (w1 := [(o0, .inr (0, [.long (pk a0), .long (pk a1), .long (pkn q w), .int (iI ((w : Nat) : Int))])), (u0, .inl (cJ, 1, .inr (.inl (g))))]) (w2 := [(m0, .inr (1, [.int (iI 2), .ref t0, .ref k0, .ref p0, .int (iI ((w : Nat) : Int))])), (t0, .inl (cI, 24, .inl (fun j => iI ((tb a0 a1 j : Nat) : Int)))), (k0, .inl (cI, 12, .inl (fun j => iI ((K j : Nat) : Int)))), (p0, .inl (cI, 12, .inl (fun j => iI ((q j : Nat) : Int))))]) hP
    have hK2 := hK.sub (tys' := [(cI, .int)]) [1] rfl
    have hf9 : cells + 1 + 0 ≤ room_1.cells ∧ slots + 6 + 0 ≤ room_1.slots := ⟨by show cells + 1 + 0 ≤ 1036; omega, by show slots + 6 + 0 ≤ 8286; omega⟩
    refine rd_call (va_runV (As := []) (rest := []) ⟨hx, hb, hml, hown, hts⟩ (mX1_thrown l dC dI cI m0 t0 k0 p0 a0 a1 K q (iI 2) w hp0.1 hp1.1 hw hq) (cwV 0 hts gL_law_X1_thrown rfl rfl rfl hvX1_thrown ⟨(Nat.le_of_ble_eq_true rfl), (Nat.le_of_ble_eq_true rfl)⟩) (bW_pre (ci := 1) (q0 := 0) hK2 hP2 rfl rfl rfl) rfl rfl hl.1 rfl (lv_room (Nat.le_of_ble_eq_true rfl)) dL_law_1487 hf9) ?_
    refine lv_iload hx hb dL_law_1490 (lv_at hl 1 rfl) ?_
    refine ib_icmp_eq (tgt := 1497) hx hb dL_law_1492 (by decide) ⟨by omega, by omega⟩ ⟨by omega, by omega⟩ (fun c_1492 => ?_) (fun c_1492 => absurd c_1492 (by decide))
    refine lv_iload hx hb dL_law_1497 (lv_at hl 1 rfl) ?_
    refine ib_if_ne (tgt := 1514) hx hb dL_law_1499 (by decide) ⟨by omega, by omega⟩ (fun c_1499 => ?_) (fun c_1499 => absurd c_1499 (by decide))
    refine lv_goto (tgt := 1833) hx hb dL_law_1514 (by decide) ?_
    exact kk a0 a1 q K w (iI 2) (g) H ls ⟨hp0, hp1, hw, hq, hqd, hP, hD, hS⟩ (lv_sub hl [2, 3, 4, 5, 6] rfl)
  obtain ⟨r, hn0, rfl⟩ := nat_of (z := z0) (k := 4095) (by omega)
  obtain ⟨k, hn1, rfl⟩ := nat_of (z := z1) (k := 4095) (by omega)
  refine lv_aload_n hx hb dL_law_1449 rfl (lv_at hl 1 rfl) ?_
  refine lv_aload_n hx hb dL_law_1450 rfl (lv_at hl 0 rfl) ?_
  refine lv_iload hx hb dL_law_1451 (lv_at hl 4 rfl) ?_
  refine ib_const hx hb dL_law_1453 ?_
  refine ib_add (z := (((5 * n) + 1 : Nat) : Int)) hx hb dL_law_1454 (by omega) ?_
  refine st_i (y := iI ((5 * n + 1 : Nat) : Int)) (congrArg iI (by omega)) ?_
  refine va_sld (b := b) (L := L) (xs := xs) hx hb hX hbl hbA hS (iI_vp (i := 5 * n + 1) (by omega) (by omega)) dL_law_1455 ?_
  refine st_i (y := iI ((r : Nat) : Int)) ((congrArg xs (iI_cl (by omega))).trans e0) ?_
  refine lv_aload_n hx hb dL_law_1456 rfl (lv_at hl 0 rfl) ?_
  refine lv_iload hx hb dL_law_1457 (lv_at hl 4 rfl) ?_
  refine ib_const hx hb dL_law_1459 ?_
  refine ib_add (z := (((5 * n) + 2 : Nat) : Int)) hx hb dL_law_1460 (by omega) ?_
  refine st_i (y := iI ((5 * n + 2 : Nat) : Int)) (congrArg iI (by omega)) ?_
  refine va_sld (b := b) (L := L) (xs := xs) hx hb hX hbl hbA hS (iI_vp (i := 5 * n + 2) (by omega) (by omega)) dL_law_1461 ?_
  refine st_i (y := iI ((k : Nat) : Int)) ((congrArg xs (iI_cl (by omega))).trans e1) ?_
  refine lv_aload_n hx hb dL_law_1462 rfl (lv_at hl 3 rfl) ?_
  have hf9 : cells + 0 ≤ room_1.cells ∧ slots + 0 ≤ room_1.slots := ⟨by show cells + 0 ≤ 1036; omega, by show slots + 0 ≤ 8286; omega⟩
  have hP1 : va_P (dC, dI) vwCl [(o0, .inr (0, [.long (pk a0), .long (pk a1), .long (pkn q w), .int (iI ((w : Nat) : Int))])), (u0, .inl (cJ, 1, .inr (.inl (g))))] H := va_P_l (w1 := [(o0, .inr (0, [.long (pk a0), .long (pk a1), .long (pkn q w), .int (iI ((w : Nat) : Int))])), (u0, .inl (cJ, 1, .inr (.inl (g))))]) (w2 := [(m0, .inr (1, [.int th, .ref t0, .ref k0, .ref p0, .int (iI ((w : Nat) : Int))])), (t0, .inl (cI, 24, .inl (fun j => iI ((tb a0 a1 j : Nat) : Int)))), (k0, .inl (cI, 12, .inl (fun j => iI ((K j : Nat) : Int)))), (p0, .inl (cI, 12, .inl (fun j => iI ((q j : Nat) : Int))))]) hP
  have hD1 : va_D (LA s) [(o0, .inr (0, [.long (pk a0), .long (pk a1), .long (pkn q w), .int (iI ((w : Nat) : Int))])), (u0, .inl (cJ, 1, .inr (.inl (g))))] := va_D_l (w1 := [(o0, .inr (0, [.long (pk a0), .long (pk a1), .long (pkn q w), .int (iI ((w : Nat) : Int))])), (u0, .inl (cJ, 1, .inr (.inl (g))))]) (w2 := [(m0, .inr (1, [.int th, .ref t0, .ref k0, .ref p0, .int (iI ((w : Nat) : Int))])), (t0, .inl (cI, 24, .inl (fun j => iI ((tb a0 a1 j : Nat) : Int)))), (k0, .inl (cI, 12, .inl (fun j => iI ((K j : Nat) : Int)))), (p0, .inl (cI, 12, .inl (fun j => iI ((q j : Nat) : Int))))]) hD
  have hK1 := hK.sub (tys' := [(cJ, .long)]) [0] rfl
  refine wr_call (vx_runSW (As := [.ref o0, .int (iI ((r : Nat) : Int)), .int (iI ((k : Nat) : Int)), .ref u0]) (rest := []) ⟨hx, hb, hml, hown, hts⟩ (mL_mostKept_ok l dC dI cJ o0 u0 a0 a1 q w hp0 hp1 hw hq hqd g r k (by omega) (by omega) (by omega)) (vx_cwSW 4 hts gL_law_L_mostKept rfl rfl rfl hdL_mostKept ⟨(Nat.le_of_ble_eq_true rfl), (Nat.le_of_ble_eq_true rfl)⟩) (bD_preS hK1 hP1 hD1) rfl rfl hl.1 rfl (lv_room (Nat.le_of_ble_eq_true rfl)) dL_law_1463 hf9) hS (fun q9 h => inW_A hD1 h) (fun H locs hPn hz hk hS => ?_)
  have hP : va_P (dC, dI) vwCl ([(o0, .inr (0, [.long (pk a0), .long (pk a1), .long (pkn q w), .int (iI ((w : Nat) : Int))])), (u0, .inl (cJ, 1, .inr (.inl (fun _ => (iI (mkC (rw_ r a0 a1) k 48)).toInt64))))] ++ [(m0, .inr (1, [.int th, .ref t0, .ref k0, .ref p0, .int (iI ((w : Nat) : Int))])), (t0, .inl (cI, 24, .inl (fun j => iI ((tb a0 a1 j : Nat) : Int)))), (k0, .inl (cI, 12, .inl (fun j => iI ((K j : Nat) : Int)))), (p0, .inl (cI, 12, .inl (fun j => iI ((q j : Nat) : Int))))]) H := wj_l (w1 := [(o0, .inr (0, [.long (pk a0), .long (pk a1), .long (pkn q w), .int (iI ((w : Nat) : Int))])), (u0, .inl (cJ, 1, .inr (.inl (g))))]) (w2 := [(m0, .inr (1, [.int th, .ref t0, .ref k0, .ref p0, .int (iI ((w : Nat) : Int))])), (t0, .inl (cI, 24, .inl (fun j => iI ((tb a0 a1 j : Nat) : Int)))), (k0, .inl (cI, 12, .inl (fun j => iI ((K j : Nat) : Int)))), (p0, .inl (cI, 12, .inl (fun j => iI ((q j : Nat) : Int))))]) (w1' := [(o0, .inr (0, [.long (pk a0), .long (pk a1), .long (pkn q w), .int (iI ((w : Nat) : Int))])), (u0, .inl (cJ, 1, .inr (.inl (fun _ => (iI (mkC (rw_ r a0 a1) k 48)).toInt64))))]) hP hD hPn hk
  have hD : va_D (LA s) ([(o0, .inr (0, [.long (pk a0), .long (pk a1), .long (pkn q w), .int (iI ((w : Nat) : Int))])), (u0, .inl (cJ, 1, .inr (.inl (fun _ => (iI (mkC (rw_ r a0 a1) k 48)).toInt64))))] ++ [(m0, .inr (1, [.int th, .ref t0, .ref k0, .ref p0, .int (iI ((w : Nat) : Int))])), (t0, .inl (cI, 24, .inl (fun j => iI ((tb a0 a1 j : Nat) : Int)))), (k0, .inl (cI, 12, .inl (fun j => iI ((K j : Nat) : Int)))), (p0, .inl (cI, 12, .inl (fun j => iI ((q j : Nat) : Int))))]) := va_D_same (w := ([(o0, .inr (0, [.long (pk a0), .long (pk a1), .long (pkn q w), .int (iI ((w : Nat) : Int))])), (u0, .inl (cJ, 1, .inr (.inl (g))))] ++ [(m0, .inr (1, [.int th, .ref t0, .ref k0, .ref p0, .int (iI ((w : Nat) : Int))])), (t0, .inl (cI, 24, .inl (fun j => iI ((tb a0 a1 j : Nat) : Int)))), (k0, .inl (cI, 12, .inl (fun j => iI ((K j : Nat) : Int)))), (p0, .inl (cI, 12, .inl (fun j => iI ((q j : Nat) : Int))))])) (Eq.trans (b := [o0, u0, m0, t0, k0, p0]) rfl rfl) hD
  refine va_forget hS.2.2 ?_
  have hS := va_S_nil hS
  refine W.widen (k := cells + 1) (n := slots + 6) (by omega) (by omega) ?_
  refine lv_istore (lv' := [(5, .int (iI 0)), (0, .ref b), (1, .ref o0), (2, .ref m0), (3, .ref u0), (4, .int (iI ((5 * n : Nat) : Int)))]) hx hb dL_law_1466 hl (by decide) rfl (fun ls hl => ?_)
  refine lv_aload_n hx hb dL_law_1468 rfl (lv_at hl 3 rfl) ?_
  refine lv_aload_n hx hb dL_law_1469 rfl (lv_at hl 1 rfl) ?_
  refine lv_iload hx hb dL_law_1470 (lv_at hl 5 rfl) ?_
  refine ib_const hx hb dL_law_1472 ?_
  refine ib_add (z := (((5 * n) + 1 : Nat) : Int)) hx hb dL_law_1473 (by omega) ?_
  refine st_i (y := iI ((5 * n + 1 : Nat) : Int)) (congrArg iI (by omega)) ?_
  refine va_sld (b := b) (L := L) (xs := xs) hx hb hX hbl hbA hS (iI_vp (i := 5 * n + 1) (by omega) (by omega)) dL_law_1474 ?_
  refine st_i (y := iI ((r : Nat) : Int)) ((congrArg xs (iI_cl (by omega))).trans e0) ?_
  refine lv_aload_n hx hb dL_law_1475 rfl (lv_at hl 1 rfl) ?_
  refine lv_iload hx hb dL_law_1476 (lv_at hl 5 rfl) ?_
  refine ib_const hx hb dL_law_1478 ?_
  refine ib_add (z := (((5 * n) + 2 : Nat) : Int)) hx hb dL_law_1479 (by omega) ?_
  refine st_i (y := iI ((5 * n + 2 : Nat) : Int)) (congrArg iI (by omega)) ?_
  refine va_sld (b := b) (L := L) (xs := xs) hx hb hX hbl hbA hS (iI_vp (i := 5 * n + 2) (by omega) (by omega)) dL_law_1480 ?_
  refine st_i (y := iI ((k : Nat) : Int)) ((congrArg xs (iI_cl (by omega))).trans e1) ?_
  have hP2 : va_P (dC, dI) vwCl [(m0, .inr (1, [.int th, .ref t0, .ref k0, .ref p0, .int (iI ((w : Nat) : Int))])), (t0, .inl (cI, 24, .inl (fun j => iI ((tb a0 a1 j : Nat) : Int)))), (k0, .inl (cI, 12, .inl (fun j => iI ((K j : Nat) : Int)))), (p0, .inl (cI, 12, .inl (fun j => iI ((q j : Nat) : Int))))] H := va_P_r (w1 := [(o0, .inr (0, [.long (pk a0), .long (pk a1), .long (pkn q w), .int (iI ((w : Nat) : Int))])), (u0, .inl (cJ, 1, .inr (.inl (fun _ => (iI (mkC (rw_ r a0 a1) k 48)).toInt64))))]) (w2 := [(m0, .inr (1, [.int th, .ref t0, .ref k0, .ref p0, .int (iI ((w : Nat) : Int))])), (t0, .inl (cI, 24, .inl (fun j => iI ((tb a0 a1 j : Nat) : Int)))), (k0, .inl (cI, 12, .inl (fun j => iI ((K j : Nat) : Int)))), (p0, .inl (cI, 12, .inl (fun j => iI ((q j : Nat) : Int))))]) hP
  have hK2 := hK.sub (tys' := [(cI, .int)]) [1] rfl
  have hf9 : cells + 1 + 0 ≤ room_1.cells ∧ slots + 6 + 0 ≤ room_1.slots := ⟨by show cells + 1 + 0 ≤ 1036; omega, by show slots + 6 + 0 ≤ 8286; omega⟩
  have hD2 : va_D (LA s) [(m0, .inr (1, [.int th, .ref t0, .ref k0, .ref p0, .int (iI ((w : Nat) : Int))])), (t0, .inl (cI, 24, .inl (fun j => iI ((tb a0 a1 j : Nat) : Int)))), (k0, .inl (cI, 12, .inl (fun j => iI ((K j : Nat) : Int)))), (p0, .inl (cI, 12, .inl (fun j => iI ((q j : Nat) : Int))))] := va_D_r (w1 := [(o0, .inr (0, [.long (pk a0), .long (pk a1), .long (pkn q w), .int (iI ((w : Nat) : Int))])), (u0, .inl (cJ, 1, .inr (.inl (fun _ => (iI (mkC (rw_ r a0 a1) k 48)).toInt64))))]) (w2 := [(m0, .inr (1, [.int th, .ref t0, .ref k0, .ref p0, .int (iI ((w : Nat) : Int))])), (t0, .inl (cI, 24, .inl (fun j => iI ((tb a0 a1 j : Nat) : Int)))), (k0, .inl (cI, 12, .inl (fun j => iI ((K j : Nat) : Int)))), (p0, .inl (cI, 12, .inl (fun j => iI ((q j : Nat) : Int))))]) hD
  refine wr_call (va_runV (As := [.int (iI ((r : Nat) : Int)), .int (iI ((k : Nat) : Int))]) (rest := []) ⟨hx, hb, hml, hown, hts⟩ (mX1_mostKept_ok l dC dI cI m0 t0 k0 p0 a0 a1 K q th w hp0.1 hp1.1 hw hq r k (by omega) (by omega) (by omega)) (cwV 2 hts gL_law_X1_mostKept rfl rfl rfl hvX1_mostKept ⟨(Nat.le_of_ble_eq_true rfl), (Nat.le_of_ble_eq_true rfl)⟩) (bD_pre (ci := 1) (q0 := 0) hK2 hP2 hD2 rfl rfl rfl) rfl rfl hl.1 rfl (lv_room (Nat.le_of_ble_eq_true rfl)) dL_law_1481 hf9) hS (fun q9 h => inW_A hD2 h) (fun H locs hPn hz hk hS => ?_)
  have hP : va_P (dC, dI) vwCl ([(o0, .inr (0, [.long (pk a0), .long (pk a1), .long (pkn q w), .int (iI ((w : Nat) : Int))])), (u0, .inl (cJ, 1, .inr (.inl (fun _ => (iI (mkC (rw_ r a0 a1) k 48)).toInt64))))] ++ [(m0, .inr (1, [.int (iI 0), .ref t0, .ref k0, .ref p0, .int (iI ((w : Nat) : Int))])), (t0, .inl (cI, 24, .inl (fun j => iI ((tb a0 a1 j : Nat) : Int)))), (k0, .inl (cI, 12, .inl (fun j => iI ((K j : Nat) : Int)))), (p0, .inl (cI, 12, .inl (fun j => iI ((q j : Nat) : Int))))]) H := wj_r (w1 := [(o0, .inr (0, [.long (pk a0), .long (pk a1), .long (pkn q w), .int (iI ((w : Nat) : Int))])), (u0, .inl (cJ, 1, .inr (.inl (fun _ => (iI (mkC (rw_ r a0 a1) k 48)).toInt64))))]) (w2 := [(m0, .inr (1, [.int th, .ref t0, .ref k0, .ref p0, .int (iI ((w : Nat) : Int))])), (t0, .inl (cI, 24, .inl (fun j => iI ((tb a0 a1 j : Nat) : Int)))), (k0, .inl (cI, 12, .inl (fun j => iI ((K j : Nat) : Int)))), (p0, .inl (cI, 12, .inl (fun j => iI ((q j : Nat) : Int))))]) (w2' := [(m0, .inr (1, [.int (iI 0), .ref t0, .ref k0, .ref p0, .int (iI ((w : Nat) : Int))])), (t0, .inl (cI, 24, .inl (fun j => iI ((tb a0 a1 j : Nat) : Int)))), (k0, .inl (cI, 12, .inl (fun j => iI ((K j : Nat) : Int)))), (p0, .inl (cI, 12, .inl (fun j => iI ((q j : Nat) : Int))))]) hP hD hPn hk
  have hD : va_D (LA s) ([(o0, .inr (0, [.long (pk a0), .long (pk a1), .long (pkn q w), .int (iI ((w : Nat) : Int))])), (u0, .inl (cJ, 1, .inr (.inl (fun _ => (iI (mkC (rw_ r a0 a1) k 48)).toInt64))))] ++ [(m0, .inr (1, [.int (iI 0), .ref t0, .ref k0, .ref p0, .int (iI ((w : Nat) : Int))])), (t0, .inl (cI, 24, .inl (fun j => iI ((tb a0 a1 j : Nat) : Int)))), (k0, .inl (cI, 12, .inl (fun j => iI ((K j : Nat) : Int)))), (p0, .inl (cI, 12, .inl (fun j => iI ((q j : Nat) : Int))))]) := va_D_same (w := ([(o0, .inr (0, [.long (pk a0), .long (pk a1), .long (pkn q w), .int (iI ((w : Nat) : Int))])), (u0, .inl (cJ, 1, .inr (.inl (fun _ => (iI (mkC (rw_ r a0 a1) k 48)).toInt64))))] ++ [(m0, .inr (1, [.int th, .ref t0, .ref k0, .ref p0, .int (iI ((w : Nat) : Int))])), (t0, .inl (cI, 24, .inl (fun j => iI ((tb a0 a1 j : Nat) : Int)))), (k0, .inl (cI, 12, .inl (fun j => iI ((K j : Nat) : Int)))), (p0, .inl (cI, 12, .inl (fun j => iI ((q j : Nat) : Int))))])) (Eq.trans (b := [o0, u0, m0, t0, k0, p0]) rfl rfl) hD
  refine va_forget hS.2.2 ?_
  have hS := va_S_nil hS
  refine lv_istore (lv' := [(6, .int (iI (mkC (rw_ r a0 a1) k 48))), (5, .int (iI 0)), (0, .ref b), (1, .ref o0), (2, .ref m0), (3, .ref u0), (4, .int (iI ((5 * n : Nat) : Int)))]) hx hb dL_law_1484 hl (by decide) rfl (fun ls hl => ?_)
  refine lv_aload_n hx hb dL_law_1486 rfl (lv_at hl 4 rfl) ?_
  have hP2 : va_P (dC, dI) vwCl [(m0, .inr (1, [.int (iI 0), .ref t0, .ref k0, .ref p0, .int (iI ((w : Nat) : Int))])), (t0, .inl (cI, 24, .inl (fun j => iI ((tb a0 a1 j : Nat) : Int)))), (k0, .inl (cI, 12, .inl (fun j => iI ((K j : Nat) : Int)))), (p0, .inl (cI, 12, .inl (fun j => iI ((q j : Nat) : Int))))] H := va_P_r (w1 := [(o0, .inr (0, [.long (pk a0), .long (pk a1), .long (pkn q w), .int (iI ((w : Nat) : Int))])), (u0, .inl (cJ, 1, .inr (.inl (fun _ => (iI (mkC (rw_ r a0 a1) k 48)).toInt64))))]) (w2 := [(m0, .inr (1, [.int (iI 0), .ref t0, .ref k0, .ref p0, .int (iI ((w : Nat) : Int))])), (t0, .inl (cI, 24, .inl (fun j => iI ((tb a0 a1 j : Nat) : Int)))), (k0, .inl (cI, 12, .inl (fun j => iI ((K j : Nat) : Int)))), (p0, .inl (cI, 12, .inl (fun j => iI ((q j : Nat) : Int))))]) hP
  have hK2 := hK.sub (tys' := [(cI, .int)]) [1] rfl
  have hf9 : cells + 1 + 0 ≤ room_1.cells ∧ slots + 6 + 0 ≤ room_1.slots := ⟨by show cells + 1 + 0 ≤ 1036; omega, by show slots + 6 + 0 ≤ 8286; omega⟩
  refine rd_call (va_runV (As := []) (rest := []) ⟨hx, hb, hml, hown, hts⟩ (mX1_thrown l dC dI cI m0 t0 k0 p0 a0 a1 K q (iI 0) w hp0.1 hp1.1 hw hq) (cwV 0 hts gL_law_X1_thrown rfl rfl rfl hvX1_thrown ⟨(Nat.le_of_ble_eq_true rfl), (Nat.le_of_ble_eq_true rfl)⟩) (bW_pre (ci := 1) (q0 := 0) hK2 hP2 rfl rfl rfl) rfl rfl hl.1 rfl (lv_room (Nat.le_of_ble_eq_true rfl)) dL_law_1487 hf9) ?_
  refine lv_iload hx hb dL_law_1490 (lv_at hl 1 rfl) ?_
  refine ib_icmp_eq (tgt := 1497) hx hb dL_law_1492 (by decide) ⟨by omega, by omega⟩ ⟨by omega, by omega⟩ (fun c_1492 => ?_) (fun c_1492 => absurd c_1492 (by decide))
  refine lv_iload hx hb dL_law_1497 (lv_at hl 1 rfl) ?_
  refine ib_if_ne (tgt := 1514) hx hb dL_law_1499 (by decide) ⟨by omega, by omega⟩ (fun c_1499 => absurd c_1499 (by decide)) (fun c_1499 => ?_)
  refine lv_aload_n hx hb dL_law_1502 rfl (lv_at hl 5 rfl) ?_
  refine ib_const hx hb dL_law_1503 ?_
  refine va_lald hx hb hK hP 1 0 rfl rfl vp0 dL_law_1504 ?_
  refine st_l (y := (iI (mkC (rw_ r a0 a1) k 48)).toInt64) rfl ?_
  refine lv_iload hx hb dL_law_1505 (lv_at hl 0 rfl) ?_
  refine lv_i2l hx hb dL_law_1507 rfl ?_
  refine W.lcmp hx hb dL_law_1508 ?_
  refine bl_eq (tgt := 1514) hx hb dL_law_1509 (by decide) (fun _ => ?_) (fun h => absurd rfl h)
  refine lv_goto (tgt := 1833) hx hb dL_law_1514 (by decide) ?_
  exact kk a0 a1 q K w (iI 0) (fun _ => (iI (mkC (rw_ r a0 a1) k 48)).toInt64) H ls ⟨hp0, hp1, hw, hq, hqd, hP, hD, hS⟩ (lv_sub hl [2, 3, 4, 5, 6] rfl)

set_option maxHeartbeats 4000000 in
set_option maxRecDepth 100000 in
theorem law_c19 {p : Program} {l : Launch} {e : Env} {s : State} {m : MethodId} {below : List Frame} {meth : Method} {c : Code} {Q : State → Prop} {dC : Nat → ClassId} {dI : Nat → Nat → Nat} {cI cJ : ClassId} {b L : Nat} {xs : Nat → Int32} (C : LC p l s m meth c (dC, dI) cI cJ b L xs) {o0 u0 m0 t0 k0 p0 : Nat} {a0 a1 q K : Nat → Nat} {w : Nat} {th : Int32} {g : Nat → Int64} {H : Heap} (hI : LI s (dC, dI) cI cJ o0 u0 m0 t0 k0 p0 a0 a1 q K w th g H) {n cells slots : Nat} (hc1 : cells + 1 ≤ 1036) (hc2 : slots + 6 ≤ 8286) (hn : 5 * n + 5 ≤ L) (hL : L ≤ 2560) {ls : Array Slot} (hl : lv_has ls 8 [(0, .ref b), (1, .ref o0), (2, .ref m0), (3, .ref u0), (4, .int (iI ((5 * n : Nat) : Int)))])
    (kk : ∀ (a0 a1 q K : Nat → Nat) (w : Nat) (th : Int32) (g : Nat → Int64) (H : Heap) (ls : Array Slot), LI s (dC, dI) cI cJ o0 u0 m0 t0 k0 p0 a0 a1 q K w th g H → lv_has ls 8 [(0, .ref b), (1, .ref o0), (2, .ref m0), (3, .ref u0), (4, .int (iI ((5 * n : Nat) : Int)))] → W p l e room_1 s m #[Value.ref b] below meth c H [] (cells + 1) (slots + 6) Q (F0 m 1833 ls [])) : W p l e room_1 s m #[Value.ref b] below meth c H [] cells slots Q (F0 m 1517 ls []) := by
  obtain ⟨hx, hb, hml, hown, hts, hK, hG0, hN, hX, hbl, hfl⟩ := C
  obtain ⟨hp0, hp1, hw, hq, hqd, hP, hD, hS⟩ := hI
  have hbA : ¬ LA s b := Nat.not_le.mpr hbl
  obtain ⟨z0, hz0, e0⟩ := ex_i (xs (5 * n + 1))
  obtain ⟨z1, hz1, e1⟩ := ex_i (xs (5 * n + 2))
  have hza0 := hz0.1
  have hzb0 := hz0.2
  have hza1 := hz1.1
  have hzb1 := hz1.2
  by_cases b1 : ¬ ((0 ≤ z0 ∧ z0 ≤ 47) ∧ (0 ≤ z1 ∧ z1 ≤ 47))
  · skip
    refine lv_aload_n hx hb dL_law_1517 rfl (lv_at hl 1 rfl) ?_
    refine lv_aload_n hx hb dL_law_1518 rfl (lv_at hl 0 rfl) ?_
    refine lv_iload hx hb dL_law_1519 (lv_at hl 4 rfl) ?_
    refine ib_const hx hb dL_law_1521 ?_
    refine ib_add (z := (((5 * n) + 1 : Nat) : Int)) hx hb dL_law_1522 (by omega) ?_
    refine st_i (y := iI ((5 * n + 1 : Nat) : Int)) (congrArg iI (by omega)) ?_
    refine va_sld (b := b) (L := L) (xs := xs) hx hb hX hbl hbA hS (iI_vp (i := 5 * n + 1) (by omega) (by omega)) dL_law_1523 ?_
    refine st_i (y := iI z0) ((congrArg xs (iI_cl (by omega))).trans e0) ?_
    refine lv_aload_n hx hb dL_law_1524 rfl (lv_at hl 0 rfl) ?_
    refine lv_iload hx hb dL_law_1525 (lv_at hl 4 rfl) ?_
    refine ib_const hx hb dL_law_1527 ?_
    refine ib_add (z := (((5 * n) + 2 : Nat) : Int)) hx hb dL_law_1528 (by omega) ?_
    refine st_i (y := iI ((5 * n + 2 : Nat) : Int)) (congrArg iI (by omega)) ?_
    refine va_sld (b := b) (L := L) (xs := xs) hx hb hX hbl hbA hS (iI_vp (i := 5 * n + 2) (by omega) (by omega)) dL_law_1529 ?_
    refine st_i (y := iI z1) ((congrArg xs (iI_cl (by omega))).trans e1) ?_
    refine lv_aload_n hx hb dL_law_1530 rfl (lv_at hl 3 rfl) ?_
    have hf9 : cells + 1 ≤ room_1.cells ∧ slots + 6 ≤ room_1.slots := ⟨by show cells + 1 ≤ 1036; omega, by show slots + 6 ≤ 8286; omega⟩
    have hP1 : va_P (dC, dI) vwCl [(o0, .inr (0, [.long (pk a0), .long (pk a1), .long (pkn q w), .int (iI ((w : Nat) : Int))]))] H := va_P_l (w1 := [(o0, .inr (0, [.long (pk a0), .long (pk a1), .long (pkn q w), .int (iI ((w : Nat) : Int))]))]) (w2 := [(u0, .inl (cJ, 1, .inr (.inl (g)))), (m0, .inr (1, [.int th, .ref t0, .ref k0, .ref p0, .int (iI ((w : Nat) : Int))])), (t0, .inl (cI, 24, .inl (fun j => iI ((tb a0 a1 j : Nat) : Int)))), (k0, .inl (cI, 12, .inl (fun j => iI ((K j : Nat) : Int)))), (p0, .inl (cI, 12, .inl (fun j => iI ((q j : Nat) : Int))))]) hP
    have hK1 := hK.sub (tys' := []) [] rfl
    refine rdK_call (vx_runSW (As := [.ref o0, .int (iI z0), .int (iI z1), .ref u0]) (rest := []) ⟨hx, hb, hml, hown, hts⟩ (mL_cuts_x1 l hfl dC dI o0 a0 a1 q w hp0 hp1 hw hq hqd u0 z0 z1 hz0 hz1 b1) (vx_cwSW 4 hts gL_law_L_cuts rfl rfl rfl hdL_cuts ⟨(Nat.le_of_ble_eq_true rfl), (Nat.le_of_ble_eq_true rfl)⟩) (bY_preS hK1 hP1 (hG0.at hS) hN) rfl rfl hl.1 rfl (lv_room (Nat.le_of_ble_eq_true rfl)) dL_law_1531 hf9) (fun H hz hk => ?_)
    have hP : va_P (dC, dI) vwCl ([(o0, .inr (0, [.long (pk a0), .long (pk a1), .long (pkn q w), .int (iI ((w : Nat) : Int))])), (u0, .inl (cJ, 1, .inr (.inl (g))))] ++ [(m0, .inr (1, [.int th, .ref t0, .ref k0, .ref p0, .int (iI ((w : Nat) : Int))])), (t0, .inl (cI, 24, .inl (fun j => iI ((tb a0 a1 j : Nat) : Int)))), (k0, .inl (cI, 12, .inl (fun j => iI ((K j : Nat) : Int)))), (p0, .inl (cI, 12, .inl (fun j => iI ((q j : Nat) : Int))))]) H := va_P_new hP hk
    have hS := va_S_new hS hz hk
    refine lv_istore (lv' := [(5, .int (iI 1)), (0, .ref b), (1, .ref o0), (2, .ref m0), (3, .ref u0), (4, .int (iI ((5 * n : Nat) : Int)))]) hx hb dL_law_1534 hl (by decide) rfl (fun ls hl => ?_)
    refine lv_aload_n hx hb dL_law_1536 rfl (lv_at hl 3 rfl) ?_
    refine lv_aload_n hx hb dL_law_1537 rfl (lv_at hl 1 rfl) ?_
    refine lv_iload hx hb dL_law_1538 (lv_at hl 5 rfl) ?_
    refine ib_const hx hb dL_law_1540 ?_
    refine ib_add (z := (((5 * n) + 1 : Nat) : Int)) hx hb dL_law_1541 (by omega) ?_
    refine st_i (y := iI ((5 * n + 1 : Nat) : Int)) (congrArg iI (by omega)) ?_
    refine va_sld (b := b) (L := L) (xs := xs) hx hb hX hbl hbA hS (iI_vp (i := 5 * n + 1) (by omega) (by omega)) dL_law_1542 ?_
    refine st_i (y := iI z0) ((congrArg xs (iI_cl (by omega))).trans e0) ?_
    refine lv_aload_n hx hb dL_law_1543 rfl (lv_at hl 1 rfl) ?_
    refine lv_iload hx hb dL_law_1544 (lv_at hl 5 rfl) ?_
    refine ib_const hx hb dL_law_1546 ?_
    refine ib_add (z := (((5 * n) + 2 : Nat) : Int)) hx hb dL_law_1547 (by omega) ?_
    refine st_i (y := iI ((5 * n + 2 : Nat) : Int)) (congrArg iI (by omega)) ?_
    refine va_sld (b := b) (L := L) (xs := xs) hx hb hX hbl hbA hS (iI_vp (i := 5 * n + 2) (by omega) (by omega)) dL_law_1548 ?_
    refine st_i (y := iI z1) ((congrArg xs (iI_cl (by omega))).trans e1) ?_
    have hP2 : va_P (dC, dI) vwCl [(m0, .inr (1, [.int th, .ref t0, .ref k0, .ref p0, .int (iI ((w : Nat) : Int))])), (t0, .inl (cI, 24, .inl (fun j => iI ((tb a0 a1 j : Nat) : Int)))), (k0, .inl (cI, 12, .inl (fun j => iI ((K j : Nat) : Int)))), (p0, .inl (cI, 12, .inl (fun j => iI ((q j : Nat) : Int))))] H := va_P_r (w1 := [(o0, .inr (0, [.long (pk a0), .long (pk a1), .long (pkn q w), .int (iI ((w : Nat) : Int))])), (u0, .inl (cJ, 1, .inr (.inl (g))))]) (w2 := [(m0, .inr (1, [.int th, .ref t0, .ref k0, .ref p0, .int (iI ((w : Nat) : Int))])), (t0, .inl (cI, 24, .inl (fun j => iI ((tb a0 a1 j : Nat) : Int)))), (k0, .inl (cI, 12, .inl (fun j => iI ((K j : Nat) : Int)))), (p0, .inl (cI, 12, .inl (fun j => iI ((q j : Nat) : Int))))]) hP
    have hK2 := hK.sub (tys' := [(cI, .int)]) [1] rfl
    have hf9 : cells + 1 + 0 ≤ room_1.cells ∧ slots + 6 + 0 ≤ room_1.slots := ⟨by show cells + 1 + 0 ≤ 1036; omega, by show slots + 6 + 0 ≤ 8286; omega⟩
    have hD2 : va_D (LA s) [(m0, .inr (1, [.int th, .ref t0, .ref k0, .ref p0, .int (iI ((w : Nat) : Int))])), (t0, .inl (cI, 24, .inl (fun j => iI ((tb a0 a1 j : Nat) : Int)))), (k0, .inl (cI, 12, .inl (fun j => iI ((K j : Nat) : Int)))), (p0, .inl (cI, 12, .inl (fun j => iI ((q j : Nat) : Int))))] := va_D_r (w1 := [(o0, .inr (0, [.long (pk a0), .long (pk a1), .long (pkn q w), .int (iI ((w : Nat) : Int))])), (u0, .inl (cJ, 1, .inr (.inl (g))))]) (w2 := [(m0, .inr (1, [.int th, .ref t0, .ref k0, .ref p0, .int (iI ((w : Nat) : Int))])), (t0, .inl (cI, 24, .inl (fun j => iI ((tb a0 a1 j : Nat) : Int)))), (k0, .inl (cI, 12, .inl (fun j => iI ((K j : Nat) : Int)))), (p0, .inl (cI, 12, .inl (fun j => iI ((q j : Nat) : Int))))]) hD
    refine wr_call (va_runV (As := [.int (iI z0), .int (iI z1)]) (rest := []) ⟨hx, hb, hml, hown, hts⟩ (mX1_cuts_x1 l dC dI cI m0 t0 k0 p0 a0 a1 K q th w hp0.1 hp1.1 hw hq z0 z1 hz0 hz1 b1) (cwV 2 hts gL_law_X1_cuts rfl rfl rfl hvX1_cuts ⟨(Nat.le_of_ble_eq_true rfl), (Nat.le_of_ble_eq_true rfl)⟩) (bD_pre (ci := 1) (q0 := 0) hK2 hP2 hD2 rfl rfl rfl) rfl rfl hl.1 rfl (lv_room (Nat.le_of_ble_eq_true rfl)) dL_law_1549 hf9) hS (fun q9 h => inW_A hD2 h) (fun H locs hPn hz hk hS => ?_)
    have hP : va_P (dC, dI) vwCl ([(o0, .inr (0, [.long (pk a0), .long (pk a1), .long (pkn q w), .int (iI ((w : Nat) : Int))])), (u0, .inl (cJ, 1, .inr (.inl (g))))] ++ [(m0, .inr (1, [.int (iI 1), .ref t0, .ref k0, .ref p0, .int (iI ((w : Nat) : Int))])), (t0, .inl (cI, 24, .inl (fun j => iI ((tb a0 a1 j : Nat) : Int)))), (k0, .inl (cI, 12, .inl (fun j => iI ((K j : Nat) : Int)))), (p0, .inl (cI, 12, .inl (fun j => iI ((q j : Nat) : Int))))]) H := wj_r (w1 := [(o0, .inr (0, [.long (pk a0), .long (pk a1), .long (pkn q w), .int (iI ((w : Nat) : Int))])), (u0, .inl (cJ, 1, .inr (.inl (g))))]) (w2 := [(m0, .inr (1, [.int th, .ref t0, .ref k0, .ref p0, .int (iI ((w : Nat) : Int))])), (t0, .inl (cI, 24, .inl (fun j => iI ((tb a0 a1 j : Nat) : Int)))), (k0, .inl (cI, 12, .inl (fun j => iI ((K j : Nat) : Int)))), (p0, .inl (cI, 12, .inl (fun j => iI ((q j : Nat) : Int))))]) (w2' := [(m0, .inr (1, [.int (iI 1), .ref t0, .ref k0, .ref p0, .int (iI ((w : Nat) : Int))])), (t0, .inl (cI, 24, .inl (fun j => iI ((tb a0 a1 j : Nat) : Int)))), (k0, .inl (cI, 12, .inl (fun j => iI ((K j : Nat) : Int)))), (p0, .inl (cI, 12, .inl (fun j => iI ((q j : Nat) : Int))))]) hP hD hPn hk
    have hD : va_D (LA s) ([(o0, .inr (0, [.long (pk a0), .long (pk a1), .long (pkn q w), .int (iI ((w : Nat) : Int))])), (u0, .inl (cJ, 1, .inr (.inl (g))))] ++ [(m0, .inr (1, [.int (iI 1), .ref t0, .ref k0, .ref p0, .int (iI ((w : Nat) : Int))])), (t0, .inl (cI, 24, .inl (fun j => iI ((tb a0 a1 j : Nat) : Int)))), (k0, .inl (cI, 12, .inl (fun j => iI ((K j : Nat) : Int)))), (p0, .inl (cI, 12, .inl (fun j => iI ((q j : Nat) : Int))))]) := va_D_same (w := ([(o0, .inr (0, [.long (pk a0), .long (pk a1), .long (pkn q w), .int (iI ((w : Nat) : Int))])), (u0, .inl (cJ, 1, .inr (.inl (g))))] ++ [(m0, .inr (1, [.int th, .ref t0, .ref k0, .ref p0, .int (iI ((w : Nat) : Int))])), (t0, .inl (cI, 24, .inl (fun j => iI ((tb a0 a1 j : Nat) : Int)))), (k0, .inl (cI, 12, .inl (fun j => iI ((K j : Nat) : Int)))), (p0, .inl (cI, 12, .inl (fun j => iI ((q j : Nat) : Int))))])) (Eq.trans (b := [o0, u0, m0, t0, k0, p0]) rfl rfl) hD
    refine va_forget hS.2.2 ?_
    have hS := va_S_nil hS
    refine lv_istore (lv' := [(6, .int (iI 0)), (5, .int (iI 1)), (0, .ref b), (1, .ref o0), (2, .ref m0), (3, .ref u0), (4, .int (iI ((5 * n : Nat) : Int)))]) hx hb dL_law_1552 hl (by decide) rfl (fun ls hl => ?_)
    refine lv_aload_n hx hb dL_law_1554 rfl (lv_at hl 4 rfl) ?_
    have hP2 : va_P (dC, dI) vwCl [(m0, .inr (1, [.int (iI 1), .ref t0, .ref k0, .ref p0, .int (iI ((w : Nat) : Int))])), (t0, .inl (cI, 24, .inl (fun j => iI ((tb a0 a1 j : Nat) : Int)))), (k0, .inl (cI, 12, .inl (fun j => iI ((K j : Nat) : Int)))), (p0, .inl (cI, 12, .inl (fun j => iI ((q j : Nat) : Int))))] H := va_P_r (w1 := [(o0, .inr (0, [.long (pk a0), .long (pk a1), .long (pkn q w), .int (iI ((w : Nat) : Int))])), (u0, .inl (cJ, 1, .inr (.inl (g))))]) (w2 := [(m0, .inr (1, [.int (iI 1), .ref t0, .ref k0, .ref p0, .int (iI ((w : Nat) : Int))])), (t0, .inl (cI, 24, .inl (fun j => iI ((tb a0 a1 j : Nat) : Int)))), (k0, .inl (cI, 12, .inl (fun j => iI ((K j : Nat) : Int)))), (p0, .inl (cI, 12, .inl (fun j => iI ((q j : Nat) : Int))))]) hP
    have hK2 := hK.sub (tys' := [(cI, .int)]) [1] rfl
    have hf9 : cells + 1 + 0 ≤ room_1.cells ∧ slots + 6 + 0 ≤ room_1.slots := ⟨by show cells + 1 + 0 ≤ 1036; omega, by show slots + 6 + 0 ≤ 8286; omega⟩
    refine rd_call (va_runV (As := []) (rest := []) ⟨hx, hb, hml, hown, hts⟩ (mX1_thrown l dC dI cI m0 t0 k0 p0 a0 a1 K q (iI 1) w hp0.1 hp1.1 hw hq) (cwV 0 hts gL_law_X1_thrown rfl rfl rfl hvX1_thrown ⟨(Nat.le_of_ble_eq_true rfl), (Nat.le_of_ble_eq_true rfl)⟩) (bW_pre (ci := 1) (q0 := 0) hK2 hP2 rfl rfl rfl) rfl rfl hl.1 rfl (lv_room (Nat.le_of_ble_eq_true rfl)) dL_law_1555 hf9) ?_
    refine lv_iload hx hb dL_law_1558 (lv_at hl 1 rfl) ?_
    refine ib_icmp_eq (tgt := 1565) hx hb dL_law_1560 (by decide) ⟨by omega, by omega⟩ ⟨by omega, by omega⟩ (fun c_1560 => ?_) (fun c_1560 => absurd c_1560 (by decide))
    refine lv_iload hx hb dL_law_1565 (lv_at hl 1 rfl) ?_
    refine ib_if_ne (tgt := 1582) hx hb dL_law_1567 (by decide) ⟨by omega, by omega⟩ (fun c_1567 => ?_) (fun c_1567 => absurd c_1567 (by decide))
    refine lv_goto (tgt := 1833) hx hb dL_law_1582 (by decide) ?_
    exact kk a0 a1 q K w (iI 1) (g) H ls ⟨hp0, hp1, hw, hq, hqd, hP, hD, hS⟩ (lv_sub hl [2, 3, 4, 5, 6] rfl)
  obtain ⟨c1, hn0, rfl⟩ := nat_of (z := z0) (k := 4095) (by omega)
  obtain ⟨c2, hn1, rfl⟩ := nat_of (z := z1) (k := 4095) (by omega)
  refine lv_aload_n hx hb dL_law_1517 rfl (lv_at hl 1 rfl) ?_
  refine lv_aload_n hx hb dL_law_1518 rfl (lv_at hl 0 rfl) ?_
  refine lv_iload hx hb dL_law_1519 (lv_at hl 4 rfl) ?_
  refine ib_const hx hb dL_law_1521 ?_
  refine ib_add (z := (((5 * n) + 1 : Nat) : Int)) hx hb dL_law_1522 (by omega) ?_
  refine st_i (y := iI ((5 * n + 1 : Nat) : Int)) (congrArg iI (by omega)) ?_
  refine va_sld (b := b) (L := L) (xs := xs) hx hb hX hbl hbA hS (iI_vp (i := 5 * n + 1) (by omega) (by omega)) dL_law_1523 ?_
  refine st_i (y := iI ((c1 : Nat) : Int)) ((congrArg xs (iI_cl (by omega))).trans e0) ?_
  refine lv_aload_n hx hb dL_law_1524 rfl (lv_at hl 0 rfl) ?_
  refine lv_iload hx hb dL_law_1525 (lv_at hl 4 rfl) ?_
  refine ib_const hx hb dL_law_1527 ?_
  refine ib_add (z := (((5 * n) + 2 : Nat) : Int)) hx hb dL_law_1528 (by omega) ?_
  refine st_i (y := iI ((5 * n + 2 : Nat) : Int)) (congrArg iI (by omega)) ?_
  refine va_sld (b := b) (L := L) (xs := xs) hx hb hX hbl hbA hS (iI_vp (i := 5 * n + 2) (by omega) (by omega)) dL_law_1529 ?_
  refine st_i (y := iI ((c2 : Nat) : Int)) ((congrArg xs (iI_cl (by omega))).trans e1) ?_
  refine lv_aload_n hx hb dL_law_1530 rfl (lv_at hl 3 rfl) ?_
  have hf9 : cells + 0 ≤ room_1.cells ∧ slots + 0 ≤ room_1.slots := ⟨by show cells + 0 ≤ 1036; omega, by show slots + 0 ≤ 8286; omega⟩
  have hP1 : va_P (dC, dI) vwCl [(o0, .inr (0, [.long (pk a0), .long (pk a1), .long (pkn q w), .int (iI ((w : Nat) : Int))])), (u0, .inl (cJ, 1, .inr (.inl (g))))] H := va_P_l (w1 := [(o0, .inr (0, [.long (pk a0), .long (pk a1), .long (pkn q w), .int (iI ((w : Nat) : Int))])), (u0, .inl (cJ, 1, .inr (.inl (g))))]) (w2 := [(m0, .inr (1, [.int th, .ref t0, .ref k0, .ref p0, .int (iI ((w : Nat) : Int))])), (t0, .inl (cI, 24, .inl (fun j => iI ((tb a0 a1 j : Nat) : Int)))), (k0, .inl (cI, 12, .inl (fun j => iI ((K j : Nat) : Int)))), (p0, .inl (cI, 12, .inl (fun j => iI ((q j : Nat) : Int))))]) hP
  have hD1 : va_D (LA s) [(o0, .inr (0, [.long (pk a0), .long (pk a1), .long (pkn q w), .int (iI ((w : Nat) : Int))])), (u0, .inl (cJ, 1, .inr (.inl (g))))] := va_D_l (w1 := [(o0, .inr (0, [.long (pk a0), .long (pk a1), .long (pkn q w), .int (iI ((w : Nat) : Int))])), (u0, .inl (cJ, 1, .inr (.inl (g))))]) (w2 := [(m0, .inr (1, [.int th, .ref t0, .ref k0, .ref p0, .int (iI ((w : Nat) : Int))])), (t0, .inl (cI, 24, .inl (fun j => iI ((tb a0 a1 j : Nat) : Int)))), (k0, .inl (cI, 12, .inl (fun j => iI ((K j : Nat) : Int)))), (p0, .inl (cI, 12, .inl (fun j => iI ((q j : Nat) : Int))))]) hD
  have hK1 := hK.sub (tys' := [(cJ, .long)]) [0] rfl
  refine wr_call (vx_runSW (As := [.ref o0, .int (iI ((c1 : Nat) : Int)), .int (iI ((c2 : Nat) : Int)), .ref u0]) (rest := []) ⟨hx, hb, hml, hown, hts⟩ (mL_cuts_ok l dC dI cJ o0 u0 a0 a1 q w hp0 hp1 hw hq hqd g c1 c2 (by omega) (by omega)) (vx_cwSW 4 hts gL_law_L_cuts rfl rfl rfl hdL_cuts ⟨(Nat.le_of_ble_eq_true rfl), (Nat.le_of_ble_eq_true rfl)⟩) (bD_preS hK1 hP1 hD1) rfl rfl hl.1 rfl (lv_room (Nat.le_of_ble_eq_true rfl)) dL_law_1531 hf9) hS (fun q9 h => inW_A hD1 h) (fun H locs hPn hz hk hS => ?_)
  have hP : va_P (dC, dI) vwCl ([(o0, .inr (0, [.long (pk a0), .long (pk a1), .long (pkn q w), .int (iI ((w : Nat) : Int))])), (u0, .inl (cJ, 1, .inr (.inl (fun _ => (iI ((ctN (fm (rw_ 0 a0 a1) c1) (fm (rw_ 1 a0 a1) c2) 13 : Nat) : Int)).toInt64))))] ++ [(m0, .inr (1, [.int th, .ref t0, .ref k0, .ref p0, .int (iI ((w : Nat) : Int))])), (t0, .inl (cI, 24, .inl (fun j => iI ((tb a0 a1 j : Nat) : Int)))), (k0, .inl (cI, 12, .inl (fun j => iI ((K j : Nat) : Int)))), (p0, .inl (cI, 12, .inl (fun j => iI ((q j : Nat) : Int))))]) H := wj_l (w1 := [(o0, .inr (0, [.long (pk a0), .long (pk a1), .long (pkn q w), .int (iI ((w : Nat) : Int))])), (u0, .inl (cJ, 1, .inr (.inl (g))))]) (w2 := [(m0, .inr (1, [.int th, .ref t0, .ref k0, .ref p0, .int (iI ((w : Nat) : Int))])), (t0, .inl (cI, 24, .inl (fun j => iI ((tb a0 a1 j : Nat) : Int)))), (k0, .inl (cI, 12, .inl (fun j => iI ((K j : Nat) : Int)))), (p0, .inl (cI, 12, .inl (fun j => iI ((q j : Nat) : Int))))]) (w1' := [(o0, .inr (0, [.long (pk a0), .long (pk a1), .long (pkn q w), .int (iI ((w : Nat) : Int))])), (u0, .inl (cJ, 1, .inr (.inl (fun _ => (iI ((ctN (fm (rw_ 0 a0 a1) c1) (fm (rw_ 1 a0 a1) c2) 13 : Nat) : Int)).toInt64))))]) hP hD hPn hk
  have hD : va_D (LA s) ([(o0, .inr (0, [.long (pk a0), .long (pk a1), .long (pkn q w), .int (iI ((w : Nat) : Int))])), (u0, .inl (cJ, 1, .inr (.inl (fun _ => (iI ((ctN (fm (rw_ 0 a0 a1) c1) (fm (rw_ 1 a0 a1) c2) 13 : Nat) : Int)).toInt64))))] ++ [(m0, .inr (1, [.int th, .ref t0, .ref k0, .ref p0, .int (iI ((w : Nat) : Int))])), (t0, .inl (cI, 24, .inl (fun j => iI ((tb a0 a1 j : Nat) : Int)))), (k0, .inl (cI, 12, .inl (fun j => iI ((K j : Nat) : Int)))), (p0, .inl (cI, 12, .inl (fun j => iI ((q j : Nat) : Int))))]) := va_D_same (w := ([(o0, .inr (0, [.long (pk a0), .long (pk a1), .long (pkn q w), .int (iI ((w : Nat) : Int))])), (u0, .inl (cJ, 1, .inr (.inl (g))))] ++ [(m0, .inr (1, [.int th, .ref t0, .ref k0, .ref p0, .int (iI ((w : Nat) : Int))])), (t0, .inl (cI, 24, .inl (fun j => iI ((tb a0 a1 j : Nat) : Int)))), (k0, .inl (cI, 12, .inl (fun j => iI ((K j : Nat) : Int)))), (p0, .inl (cI, 12, .inl (fun j => iI ((q j : Nat) : Int))))])) (Eq.trans (b := [o0, u0, m0, t0, k0, p0]) rfl rfl) hD
  refine va_forget hS.2.2 ?_
  have hS := va_S_nil hS
  refine W.widen (k := cells + 1) (n := slots + 6) (by omega) (by omega) ?_
  refine lv_istore (lv' := [(5, .int (iI 0)), (0, .ref b), (1, .ref o0), (2, .ref m0), (3, .ref u0), (4, .int (iI ((5 * n : Nat) : Int)))]) hx hb dL_law_1534 hl (by decide) rfl (fun ls hl => ?_)
  refine lv_aload_n hx hb dL_law_1536 rfl (lv_at hl 3 rfl) ?_
  refine lv_aload_n hx hb dL_law_1537 rfl (lv_at hl 1 rfl) ?_
  refine lv_iload hx hb dL_law_1538 (lv_at hl 5 rfl) ?_
  refine ib_const hx hb dL_law_1540 ?_
  refine ib_add (z := (((5 * n) + 1 : Nat) : Int)) hx hb dL_law_1541 (by omega) ?_
  refine st_i (y := iI ((5 * n + 1 : Nat) : Int)) (congrArg iI (by omega)) ?_
  refine va_sld (b := b) (L := L) (xs := xs) hx hb hX hbl hbA hS (iI_vp (i := 5 * n + 1) (by omega) (by omega)) dL_law_1542 ?_
  refine st_i (y := iI ((c1 : Nat) : Int)) ((congrArg xs (iI_cl (by omega))).trans e0) ?_
  refine lv_aload_n hx hb dL_law_1543 rfl (lv_at hl 1 rfl) ?_
  refine lv_iload hx hb dL_law_1544 (lv_at hl 5 rfl) ?_
  refine ib_const hx hb dL_law_1546 ?_
  refine ib_add (z := (((5 * n) + 2 : Nat) : Int)) hx hb dL_law_1547 (by omega) ?_
  refine st_i (y := iI ((5 * n + 2 : Nat) : Int)) (congrArg iI (by omega)) ?_
  refine va_sld (b := b) (L := L) (xs := xs) hx hb hX hbl hbA hS (iI_vp (i := 5 * n + 2) (by omega) (by omega)) dL_law_1548 ?_
  refine st_i (y := iI ((c2 : Nat) : Int)) ((congrArg xs (iI_cl (by omega))).trans e1) ?_
  have hP2 : va_P (dC, dI) vwCl [(m0, .inr (1, [.int th, .ref t0, .ref k0, .ref p0, .int (iI ((w : Nat) : Int))])), (t0, .inl (cI, 24, .inl (fun j => iI ((tb a0 a1 j : Nat) : Int)))), (k0, .inl (cI, 12, .inl (fun j => iI ((K j : Nat) : Int)))), (p0, .inl (cI, 12, .inl (fun j => iI ((q j : Nat) : Int))))] H := va_P_r (w1 := [(o0, .inr (0, [.long (pk a0), .long (pk a1), .long (pkn q w), .int (iI ((w : Nat) : Int))])), (u0, .inl (cJ, 1, .inr (.inl (fun _ => (iI ((ctN (fm (rw_ 0 a0 a1) c1) (fm (rw_ 1 a0 a1) c2) 13 : Nat) : Int)).toInt64))))]) (w2 := [(m0, .inr (1, [.int th, .ref t0, .ref k0, .ref p0, .int (iI ((w : Nat) : Int))])), (t0, .inl (cI, 24, .inl (fun j => iI ((tb a0 a1 j : Nat) : Int)))), (k0, .inl (cI, 12, .inl (fun j => iI ((K j : Nat) : Int)))), (p0, .inl (cI, 12, .inl (fun j => iI ((q j : Nat) : Int))))]) hP
  have hK2 := hK.sub (tys' := [(cI, .int)]) [1] rfl
  have hf9 : cells + 1 + 0 ≤ room_1.cells ∧ slots + 6 + 0 ≤ room_1.slots := ⟨by show cells + 1 + 0 ≤ 1036; omega, by show slots + 6 + 0 ≤ 8286; omega⟩
  have hD2 : va_D (LA s) [(m0, .inr (1, [.int th, .ref t0, .ref k0, .ref p0, .int (iI ((w : Nat) : Int))])), (t0, .inl (cI, 24, .inl (fun j => iI ((tb a0 a1 j : Nat) : Int)))), (k0, .inl (cI, 12, .inl (fun j => iI ((K j : Nat) : Int)))), (p0, .inl (cI, 12, .inl (fun j => iI ((q j : Nat) : Int))))] := va_D_r (w1 := [(o0, .inr (0, [.long (pk a0), .long (pk a1), .long (pkn q w), .int (iI ((w : Nat) : Int))])), (u0, .inl (cJ, 1, .inr (.inl (fun _ => (iI ((ctN (fm (rw_ 0 a0 a1) c1) (fm (rw_ 1 a0 a1) c2) 13 : Nat) : Int)).toInt64))))]) (w2 := [(m0, .inr (1, [.int th, .ref t0, .ref k0, .ref p0, .int (iI ((w : Nat) : Int))])), (t0, .inl (cI, 24, .inl (fun j => iI ((tb a0 a1 j : Nat) : Int)))), (k0, .inl (cI, 12, .inl (fun j => iI ((K j : Nat) : Int)))), (p0, .inl (cI, 12, .inl (fun j => iI ((q j : Nat) : Int))))]) hD
  refine wr_call (va_runV (As := [.int (iI ((c1 : Nat) : Int)), .int (iI ((c2 : Nat) : Int))]) (rest := []) ⟨hx, hb, hml, hown, hts⟩ (mX1_cuts_ok l dC dI cI m0 t0 k0 p0 a0 a1 K q th w hp0.1 hp1.1 hw hq c1 c2 (by omega) (by omega)) (cwV 2 hts gL_law_X1_cuts rfl rfl rfl hvX1_cuts ⟨(Nat.le_of_ble_eq_true rfl), (Nat.le_of_ble_eq_true rfl)⟩) (bD_pre (ci := 1) (q0 := 0) hK2 hP2 hD2 rfl rfl rfl) rfl rfl hl.1 rfl (lv_room (Nat.le_of_ble_eq_true rfl)) dL_law_1549 hf9) hS (fun q9 h => inW_A hD2 h) (fun H locs hPn hz hk hS => ?_)
  have hP : va_P (dC, dI) vwCl ([(o0, .inr (0, [.long (pk a0), .long (pk a1), .long (pkn q w), .int (iI ((w : Nat) : Int))])), (u0, .inl (cJ, 1, .inr (.inl (fun _ => (iI ((ctN (fm (rw_ 0 a0 a1) c1) (fm (rw_ 1 a0 a1) c2) 13 : Nat) : Int)).toInt64))))] ++ [(m0, .inr (1, [.int (iI 0), .ref t0, .ref k0, .ref p0, .int (iI ((w : Nat) : Int))])), (t0, .inl (cI, 24, .inl (fun j => iI ((tb a0 a1 j : Nat) : Int)))), (k0, .inl (cI, 12, .inl (fun j => iI ((K j : Nat) : Int)))), (p0, .inl (cI, 12, .inl (fun j => iI ((q j : Nat) : Int))))]) H := wj_r (w1 := [(o0, .inr (0, [.long (pk a0), .long (pk a1), .long (pkn q w), .int (iI ((w : Nat) : Int))])), (u0, .inl (cJ, 1, .inr (.inl (fun _ => (iI ((ctN (fm (rw_ 0 a0 a1) c1) (fm (rw_ 1 a0 a1) c2) 13 : Nat) : Int)).toInt64))))]) (w2 := [(m0, .inr (1, [.int th, .ref t0, .ref k0, .ref p0, .int (iI ((w : Nat) : Int))])), (t0, .inl (cI, 24, .inl (fun j => iI ((tb a0 a1 j : Nat) : Int)))), (k0, .inl (cI, 12, .inl (fun j => iI ((K j : Nat) : Int)))), (p0, .inl (cI, 12, .inl (fun j => iI ((q j : Nat) : Int))))]) (w2' := [(m0, .inr (1, [.int (iI 0), .ref t0, .ref k0, .ref p0, .int (iI ((w : Nat) : Int))])), (t0, .inl (cI, 24, .inl (fun j => iI ((tb a0 a1 j : Nat) : Int)))), (k0, .inl (cI, 12, .inl (fun j => iI ((K j : Nat) : Int)))), (p0, .inl (cI, 12, .inl (fun j => iI ((q j : Nat) : Int))))]) hP hD hPn hk
  have hD : va_D (LA s) ([(o0, .inr (0, [.long (pk a0), .long (pk a1), .long (pkn q w), .int (iI ((w : Nat) : Int))])), (u0, .inl (cJ, 1, .inr (.inl (fun _ => (iI ((ctN (fm (rw_ 0 a0 a1) c1) (fm (rw_ 1 a0 a1) c2) 13 : Nat) : Int)).toInt64))))] ++ [(m0, .inr (1, [.int (iI 0), .ref t0, .ref k0, .ref p0, .int (iI ((w : Nat) : Int))])), (t0, .inl (cI, 24, .inl (fun j => iI ((tb a0 a1 j : Nat) : Int)))), (k0, .inl (cI, 12, .inl (fun j => iI ((K j : Nat) : Int)))), (p0, .inl (cI, 12, .inl (fun j => iI ((q j : Nat) : Int))))]) := va_D_same (w := ([(o0, .inr (0, [.long (pk a0), .long (pk a1), .long (pkn q w), .int (iI ((w : Nat) : Int))])), (u0, .inl (cJ, 1, .inr (.inl (fun _ => (iI ((ctN (fm (rw_ 0 a0 a1) c1) (fm (rw_ 1 a0 a1) c2) 13 : Nat) : Int)).toInt64))))] ++ [(m0, .inr (1, [.int th, .ref t0, .ref k0, .ref p0, .int (iI ((w : Nat) : Int))])), (t0, .inl (cI, 24, .inl (fun j => iI ((tb a0 a1 j : Nat) : Int)))), (k0, .inl (cI, 12, .inl (fun j => iI ((K j : Nat) : Int)))), (p0, .inl (cI, 12, .inl (fun j => iI ((q j : Nat) : Int))))])) (Eq.trans (b := [o0, u0, m0, t0, k0, p0]) rfl rfl) hD
  refine va_forget hS.2.2 ?_
  have hS := va_S_nil hS
  refine lv_istore (lv' := [(6, .int (iI ((ctN (fm (rw_ 0 a0 a1) c1) (fm (rw_ 1 a0 a1) c2) 13 : Nat) : Int))), (5, .int (iI 0)), (0, .ref b), (1, .ref o0), (2, .ref m0), (3, .ref u0), (4, .int (iI ((5 * n : Nat) : Int)))]) hx hb dL_law_1552 hl (by decide) rfl (fun ls hl => ?_)
  refine lv_aload_n hx hb dL_law_1554 rfl (lv_at hl 4 rfl) ?_
  have hP2 : va_P (dC, dI) vwCl [(m0, .inr (1, [.int (iI 0), .ref t0, .ref k0, .ref p0, .int (iI ((w : Nat) : Int))])), (t0, .inl (cI, 24, .inl (fun j => iI ((tb a0 a1 j : Nat) : Int)))), (k0, .inl (cI, 12, .inl (fun j => iI ((K j : Nat) : Int)))), (p0, .inl (cI, 12, .inl (fun j => iI ((q j : Nat) : Int))))] H := va_P_r (w1 := [(o0, .inr (0, [.long (pk a0), .long (pk a1), .long (pkn q w), .int (iI ((w : Nat) : Int))])), (u0, .inl (cJ, 1, .inr (.inl (fun _ => (iI ((ctN (fm (rw_ 0 a0 a1) c1) (fm (rw_ 1 a0 a1) c2) 13 : Nat) : Int)).toInt64))))]) (w2 := [(m0, .inr (1, [.int (iI 0), .ref t0, .ref k0, .ref p0, .int (iI ((w : Nat) : Int))])), (t0, .inl (cI, 24, .inl (fun j => iI ((tb a0 a1 j : Nat) : Int)))), (k0, .inl (cI, 12, .inl (fun j => iI ((K j : Nat) : Int)))), (p0, .inl (cI, 12, .inl (fun j => iI ((q j : Nat) : Int))))]) hP
  have hK2 := hK.sub (tys' := [(cI, .int)]) [1] rfl
  have hf9 : cells + 1 + 0 ≤ room_1.cells ∧ slots + 6 + 0 ≤ room_1.slots := ⟨by show cells + 1 + 0 ≤ 1036; omega, by show slots + 6 + 0 ≤ 8286; omega⟩
  refine rd_call (va_runV (As := []) (rest := []) ⟨hx, hb, hml, hown, hts⟩ (mX1_thrown l dC dI cI m0 t0 k0 p0 a0 a1 K q (iI 0) w hp0.1 hp1.1 hw hq) (cwV 0 hts gL_law_X1_thrown rfl rfl rfl hvX1_thrown ⟨(Nat.le_of_ble_eq_true rfl), (Nat.le_of_ble_eq_true rfl)⟩) (bW_pre (ci := 1) (q0 := 0) hK2 hP2 rfl rfl rfl) rfl rfl hl.1 rfl (lv_room (Nat.le_of_ble_eq_true rfl)) dL_law_1555 hf9) ?_
  refine lv_iload hx hb dL_law_1558 (lv_at hl 1 rfl) ?_
  refine ib_icmp_eq (tgt := 1565) hx hb dL_law_1560 (by decide) ⟨by omega, by omega⟩ ⟨by omega, by omega⟩ (fun c_1560 => ?_) (fun c_1560 => absurd c_1560 (by decide))
  refine lv_iload hx hb dL_law_1565 (lv_at hl 1 rfl) ?_
  refine ib_if_ne (tgt := 1582) hx hb dL_law_1567 (by decide) ⟨by omega, by omega⟩ (fun c_1567 => absurd c_1567 (by decide)) (fun c_1567 => ?_)
  refine lv_aload_n hx hb dL_law_1570 rfl (lv_at hl 5 rfl) ?_
  refine ib_const hx hb dL_law_1571 ?_
  refine va_lald hx hb hK hP 1 0 rfl rfl vp0 dL_law_1572 ?_
  refine st_l (y := (iI ((ctN (fm (rw_ 0 a0 a1) c1) (fm (rw_ 1 a0 a1) c2) 13 : Nat) : Int)).toInt64) rfl ?_
  refine lv_iload hx hb dL_law_1573 (lv_at hl 0 rfl) ?_
  refine lv_i2l hx hb dL_law_1575 rfl ?_
  refine W.lcmp hx hb dL_law_1576 ?_
  refine bl_eq (tgt := 1582) hx hb dL_law_1577 (by decide) (fun _ => ?_) (fun h => absurd rfl h)
  refine lv_goto (tgt := 1833) hx hb dL_law_1582 (by decide) ?_
  exact kk a0 a1 q K w (iI 0) (fun _ => (iI ((ctN (fm (rw_ 0 a0 a1) c1) (fm (rw_ 1 a0 a1) c2) 13 : Nat) : Int)).toInt64) H ls ⟨hp0, hp1, hw, hq, hqd, hP, hD, hS⟩ (lv_sub hl [2, 3, 4, 5, 6] rfl)

set_option maxHeartbeats 4000000 in
set_option maxRecDepth 100000 in
theorem law_c20 {p : Program} {l : Launch} {e : Env} {s : State} {m : MethodId} {below : List Frame} {meth : Method} {c : Code} {Q : State → Prop} {dC : Nat → ClassId} {dI : Nat → Nat → Nat} {cI cJ : ClassId} {b L : Nat} {xs : Nat → Int32} (C : LC p l s m meth c (dC, dI) cI cJ b L xs) {o0 u0 m0 t0 k0 p0 : Nat} {a0 a1 q K : Nat → Nat} {w : Nat} {th : Int32} {g : Nat → Int64} {H : Heap} (hI : LI s (dC, dI) cI cJ o0 u0 m0 t0 k0 p0 a0 a1 q K w th g H) {n cells slots : Nat} (hc1 : cells + 1 ≤ 1036) (hc2 : slots + 6 ≤ 8286) (hn : 5 * n + 5 ≤ L) (hL : L ≤ 2560) {ls : Array Slot} (hl : lv_has ls 8 [(0, .ref b), (1, .ref o0), (2, .ref m0), (3, .ref u0), (4, .int (iI ((5 * n : Nat) : Int)))])
    (kk : ∀ (a0 a1 q K : Nat → Nat) (w : Nat) (th : Int32) (g : Nat → Int64) (H : Heap) (ls : Array Slot), LI s (dC, dI) cI cJ o0 u0 m0 t0 k0 p0 a0 a1 q K w th g H → lv_has ls 8 [(0, .ref b), (1, .ref o0), (2, .ref m0), (3, .ref u0), (4, .int (iI ((5 * n : Nat) : Int)))] → W p l e room_1 s m #[Value.ref b] below meth c H [] (cells + 1) (slots + 6) Q (F0 m 1833 ls [])) : W p l e room_1 s m #[Value.ref b] below meth c H [] cells slots Q (F0 m 1585 ls []) := by
  obtain ⟨hx, hb, hml, hown, hts, hK, hG0, hN, hX, hbl, hfl⟩ := C
  obtain ⟨hp0, hp1, hw, hq, hqd, hP, hD, hS⟩ := hI
  have hbA : ¬ LA s b := Nat.not_le.mpr hbl
  obtain ⟨z0, hz0, e0⟩ := ex_i (xs (5 * n + 1))
  have hza0 := hz0.1
  have hzb0 := hz0.2
  by_cases b1 : ¬ (0 ≤ z0 ∧ z0 ≤ 11)
  · skip
    refine lv_aload_n hx hb dL_law_1585 rfl (lv_at hl 1 rfl) ?_
    refine lv_aload_n hx hb dL_law_1586 rfl (lv_at hl 0 rfl) ?_
    refine lv_iload hx hb dL_law_1587 (lv_at hl 4 rfl) ?_
    refine ib_const hx hb dL_law_1589 ?_
    refine ib_add (z := (((5 * n) + 1 : Nat) : Int)) hx hb dL_law_1590 (by omega) ?_
    refine st_i (y := iI ((5 * n + 1 : Nat) : Int)) (congrArg iI (by omega)) ?_
    refine va_sld (b := b) (L := L) (xs := xs) hx hb hX hbl hbA hS (iI_vp (i := 5 * n + 1) (by omega) (by omega)) dL_law_1591 ?_
    refine st_i (y := iI z0) ((congrArg xs (iI_cl (by omega))).trans e0) ?_
    refine lv_aload_n hx hb dL_law_1592 rfl (lv_at hl 3 rfl) ?_
    have hf9 : cells + 1 ≤ room_1.cells ∧ slots + 6 ≤ room_1.slots := ⟨by show cells + 1 ≤ 1036; omega, by show slots + 6 ≤ 8286; omega⟩
    have hP1 : va_P (dC, dI) vwCl [(o0, .inr (0, [.long (pk a0), .long (pk a1), .long (pkn q w), .int (iI ((w : Nat) : Int))]))] H := va_P_l (w1 := [(o0, .inr (0, [.long (pk a0), .long (pk a1), .long (pkn q w), .int (iI ((w : Nat) : Int))]))]) (w2 := [(u0, .inl (cJ, 1, .inr (.inl (g)))), (m0, .inr (1, [.int th, .ref t0, .ref k0, .ref p0, .int (iI ((w : Nat) : Int))])), (t0, .inl (cI, 24, .inl (fun j => iI ((tb a0 a1 j : Nat) : Int)))), (k0, .inl (cI, 12, .inl (fun j => iI ((K j : Nat) : Int)))), (p0, .inl (cI, 12, .inl (fun j => iI ((q j : Nat) : Int))))]) hP
    have hK1 := hK.sub (tys' := []) [] rfl
    refine rdK_call (vx_runSW (As := [.ref o0, .int (iI z0), .ref u0]) (rest := []) ⟨hx, hb, hml, hown, hts⟩ (mL_write_x1 l hfl dC dI o0 a0 a1 q w hp0 hp1 hw hq hqd u0 z0 hz0 b1) (vx_cwSW 3 hts gL_law_L_write rfl rfl rfl hdL_write ⟨(Nat.le_of_ble_eq_true rfl), (Nat.le_of_ble_eq_true rfl)⟩) (bY_preS hK1 hP1 (hG0.at hS) hN) rfl rfl hl.1 rfl (lv_room (Nat.le_of_ble_eq_true rfl)) dL_law_1593 hf9) (fun H hz hk => ?_)
    have hP : va_P (dC, dI) vwCl ([(o0, .inr (0, [.long (pk a0), .long (pk a1), .long (pkn q w), .int (iI ((w : Nat) : Int))])), (u0, .inl (cJ, 1, .inr (.inl (g))))] ++ [(m0, .inr (1, [.int th, .ref t0, .ref k0, .ref p0, .int (iI ((w : Nat) : Int))])), (t0, .inl (cI, 24, .inl (fun j => iI ((tb a0 a1 j : Nat) : Int)))), (k0, .inl (cI, 12, .inl (fun j => iI ((K j : Nat) : Int)))), (p0, .inl (cI, 12, .inl (fun j => iI ((q j : Nat) : Int))))]) H := va_P_new hP hk
    have hS := va_S_new hS hz hk
    refine lv_istore (lv' := [(5, .int (iI 1)), (0, .ref b), (1, .ref o0), (2, .ref m0), (3, .ref u0), (4, .int (iI ((5 * n : Nat) : Int)))]) hx hb dL_law_1596 hl (by decide) rfl (fun ls hl => ?_)
    refine lv_aload_n hx hb dL_law_1598 rfl (lv_at hl 3 rfl) ?_
    refine lv_aload_n hx hb dL_law_1599 rfl (lv_at hl 1 rfl) ?_
    refine lv_iload hx hb dL_law_1600 (lv_at hl 5 rfl) ?_
    refine ib_const hx hb dL_law_1602 ?_
    refine ib_add (z := (((5 * n) + 1 : Nat) : Int)) hx hb dL_law_1603 (by omega) ?_
    refine st_i (y := iI ((5 * n + 1 : Nat) : Int)) (congrArg iI (by omega)) ?_
    refine va_sld (b := b) (L := L) (xs := xs) hx hb hX hbl hbA hS (iI_vp (i := 5 * n + 1) (by omega) (by omega)) dL_law_1604 ?_
    refine st_i (y := iI z0) ((congrArg xs (iI_cl (by omega))).trans e0) ?_
    have hP2 : va_P (dC, dI) vwCl [(m0, .inr (1, [.int th, .ref t0, .ref k0, .ref p0, .int (iI ((w : Nat) : Int))])), (t0, .inl (cI, 24, .inl (fun j => iI ((tb a0 a1 j : Nat) : Int)))), (k0, .inl (cI, 12, .inl (fun j => iI ((K j : Nat) : Int)))), (p0, .inl (cI, 12, .inl (fun j => iI ((q j : Nat) : Int))))] H := va_P_r (w1 := [(o0, .inr (0, [.long (pk a0), .long (pk a1), .long (pkn q w), .int (iI ((w : Nat) : Int))])), (u0, .inl (cJ, 1, .inr (.inl (g))))]) (w2 := [(m0, .inr (1, [.int th, .ref t0, .ref k0, .ref p0, .int (iI ((w : Nat) : Int))])), (t0, .inl (cI, 24, .inl (fun j => iI ((tb a0 a1 j : Nat) : Int)))), (k0, .inl (cI, 12, .inl (fun j => iI ((K j : Nat) : Int)))), (p0, .inl (cI, 12, .inl (fun j => iI ((q j : Nat) : Int))))]) hP
    have hK2 := hK.sub (tys' := [(cI, .int)]) [1] rfl
    have hf9 : cells + 1 + 0 ≤ room_1.cells ∧ slots + 6 + 0 ≤ room_1.slots := ⟨by show cells + 1 + 0 ≤ 1036; omega, by show slots + 6 + 0 ≤ 8286; omega⟩
    have hD2 : va_D (LA s) [(m0, .inr (1, [.int th, .ref t0, .ref k0, .ref p0, .int (iI ((w : Nat) : Int))])), (t0, .inl (cI, 24, .inl (fun j => iI ((tb a0 a1 j : Nat) : Int)))), (k0, .inl (cI, 12, .inl (fun j => iI ((K j : Nat) : Int)))), (p0, .inl (cI, 12, .inl (fun j => iI ((q j : Nat) : Int))))] := va_D_r (w1 := [(o0, .inr (0, [.long (pk a0), .long (pk a1), .long (pkn q w), .int (iI ((w : Nat) : Int))])), (u0, .inl (cJ, 1, .inr (.inl (g))))]) (w2 := [(m0, .inr (1, [.int th, .ref t0, .ref k0, .ref p0, .int (iI ((w : Nat) : Int))])), (t0, .inl (cI, 24, .inl (fun j => iI ((tb a0 a1 j : Nat) : Int)))), (k0, .inl (cI, 12, .inl (fun j => iI ((K j : Nat) : Int)))), (p0, .inl (cI, 12, .inl (fun j => iI ((q j : Nat) : Int))))]) hD
    refine wr_call (va_runV (As := [.int (iI z0)]) (rest := []) ⟨hx, hb, hml, hown, hts⟩ (mX1_write_x1 l dC dI cI m0 t0 k0 p0 a0 a1 K q th w hp0.1 hp1.1 hw hq z0 hz0 b1) (cwV 1 hts gL_law_X1_write rfl rfl rfl hvX1_write ⟨(Nat.le_of_ble_eq_true rfl), (Nat.le_of_ble_eq_true rfl)⟩) (bD_pre (ci := 1) (q0 := 0) hK2 hP2 hD2 rfl rfl rfl) rfl rfl hl.1 rfl (lv_room (Nat.le_of_ble_eq_true rfl)) dL_law_1605 hf9) hS (fun q9 h => inW_A hD2 h) (fun H locs hPn hz hk hS => ?_)
    have hP : va_P (dC, dI) vwCl ([(o0, .inr (0, [.long (pk a0), .long (pk a1), .long (pkn q w), .int (iI ((w : Nat) : Int))])), (u0, .inl (cJ, 1, .inr (.inl (g))))] ++ [(m0, .inr (1, [.int (iI 1), .ref t0, .ref k0, .ref p0, .int (iI ((w : Nat) : Int))])), (t0, .inl (cI, 24, .inl (fun j => iI ((tb a0 a1 j : Nat) : Int)))), (k0, .inl (cI, 12, .inl (fun j => iI ((K j : Nat) : Int)))), (p0, .inl (cI, 12, .inl (fun j => iI ((q j : Nat) : Int))))]) H := wj_r (w1 := [(o0, .inr (0, [.long (pk a0), .long (pk a1), .long (pkn q w), .int (iI ((w : Nat) : Int))])), (u0, .inl (cJ, 1, .inr (.inl (g))))]) (w2 := [(m0, .inr (1, [.int th, .ref t0, .ref k0, .ref p0, .int (iI ((w : Nat) : Int))])), (t0, .inl (cI, 24, .inl (fun j => iI ((tb a0 a1 j : Nat) : Int)))), (k0, .inl (cI, 12, .inl (fun j => iI ((K j : Nat) : Int)))), (p0, .inl (cI, 12, .inl (fun j => iI ((q j : Nat) : Int))))]) (w2' := [(m0, .inr (1, [.int (iI 1), .ref t0, .ref k0, .ref p0, .int (iI ((w : Nat) : Int))])), (t0, .inl (cI, 24, .inl (fun j => iI ((tb a0 a1 j : Nat) : Int)))), (k0, .inl (cI, 12, .inl (fun j => iI ((K j : Nat) : Int)))), (p0, .inl (cI, 12, .inl (fun j => iI ((q j : Nat) : Int))))]) hP hD hPn hk
    have hD : va_D (LA s) ([(o0, .inr (0, [.long (pk a0), .long (pk a1), .long (pkn q w), .int (iI ((w : Nat) : Int))])), (u0, .inl (cJ, 1, .inr (.inl (g))))] ++ [(m0, .inr (1, [.int (iI 1), .ref t0, .ref k0, .ref p0, .int (iI ((w : Nat) : Int))])), (t0, .inl (cI, 24, .inl (fun j => iI ((tb a0 a1 j : Nat) : Int)))), (k0, .inl (cI, 12, .inl (fun j => iI ((K j : Nat) : Int)))), (p0, .inl (cI, 12, .inl (fun j => iI ((q j : Nat) : Int))))]) := va_D_same (w := ([(o0, .inr (0, [.long (pk a0), .long (pk a1), .long (pkn q w), .int (iI ((w : Nat) : Int))])), (u0, .inl (cJ, 1, .inr (.inl (g))))] ++ [(m0, .inr (1, [.int th, .ref t0, .ref k0, .ref p0, .int (iI ((w : Nat) : Int))])), (t0, .inl (cI, 24, .inl (fun j => iI ((tb a0 a1 j : Nat) : Int)))), (k0, .inl (cI, 12, .inl (fun j => iI ((K j : Nat) : Int)))), (p0, .inl (cI, 12, .inl (fun j => iI ((q j : Nat) : Int))))])) (Eq.trans (b := [o0, u0, m0, t0, k0, p0]) rfl rfl) hD
    refine va_forget hS.2.2 ?_
    have hS := va_S_nil hS
    refine lv_istore (lv' := [(6, .int (iI 0)), (5, .int (iI 1)), (0, .ref b), (1, .ref o0), (2, .ref m0), (3, .ref u0), (4, .int (iI ((5 * n : Nat) : Int)))]) hx hb dL_law_1608 hl (by decide) rfl (fun ls hl => ?_)
    refine lv_aload_n hx hb dL_law_1610 rfl (lv_at hl 4 rfl) ?_
    have hP2 : va_P (dC, dI) vwCl [(m0, .inr (1, [.int (iI 1), .ref t0, .ref k0, .ref p0, .int (iI ((w : Nat) : Int))])), (t0, .inl (cI, 24, .inl (fun j => iI ((tb a0 a1 j : Nat) : Int)))), (k0, .inl (cI, 12, .inl (fun j => iI ((K j : Nat) : Int)))), (p0, .inl (cI, 12, .inl (fun j => iI ((q j : Nat) : Int))))] H := va_P_r (w1 := [(o0, .inr (0, [.long (pk a0), .long (pk a1), .long (pkn q w), .int (iI ((w : Nat) : Int))])), (u0, .inl (cJ, 1, .inr (.inl (g))))]) (w2 := [(m0, .inr (1, [.int (iI 1), .ref t0, .ref k0, .ref p0, .int (iI ((w : Nat) : Int))])), (t0, .inl (cI, 24, .inl (fun j => iI ((tb a0 a1 j : Nat) : Int)))), (k0, .inl (cI, 12, .inl (fun j => iI ((K j : Nat) : Int)))), (p0, .inl (cI, 12, .inl (fun j => iI ((q j : Nat) : Int))))]) hP
    have hK2 := hK.sub (tys' := [(cI, .int)]) [1] rfl
    have hf9 : cells + 1 + 0 ≤ room_1.cells ∧ slots + 6 + 0 ≤ room_1.slots := ⟨by show cells + 1 + 0 ≤ 1036; omega, by show slots + 6 + 0 ≤ 8286; omega⟩
    refine rd_call (va_runV (As := []) (rest := []) ⟨hx, hb, hml, hown, hts⟩ (mX1_thrown l dC dI cI m0 t0 k0 p0 a0 a1 K q (iI 1) w hp0.1 hp1.1 hw hq) (cwV 0 hts gL_law_X1_thrown rfl rfl rfl hvX1_thrown ⟨(Nat.le_of_ble_eq_true rfl), (Nat.le_of_ble_eq_true rfl)⟩) (bW_pre (ci := 1) (q0 := 0) hK2 hP2 rfl rfl rfl) rfl rfl hl.1 rfl (lv_room (Nat.le_of_ble_eq_true rfl)) dL_law_1611 hf9) ?_
    refine lv_iload hx hb dL_law_1614 (lv_at hl 1 rfl) ?_
    refine ib_icmp_eq (tgt := 1621) hx hb dL_law_1616 (by decide) ⟨by omega, by omega⟩ ⟨by omega, by omega⟩ (fun c_1616 => ?_) (fun c_1616 => absurd c_1616 (by decide))
    refine lv_iload hx hb dL_law_1621 (lv_at hl 1 rfl) ?_
    refine ib_if_ne (tgt := 1638) hx hb dL_law_1623 (by decide) ⟨by omega, by omega⟩ (fun c_1623 => ?_) (fun c_1623 => absurd c_1623 (by decide))
    refine lv_goto (tgt := 1833) hx hb dL_law_1638 (by decide) ?_
    exact kk a0 a1 q K w (iI 1) (g) H ls ⟨hp0, hp1, hw, hq, hqd, hP, hD, hS⟩ (lv_sub hl [2, 3, 4, 5, 6] rfl)
  obtain ⟨t, hn0, rfl⟩ := nat_of (z := z0) (k := 4095) (by omega)
  by_cases hwr : orN (wtB q t) w = true
  · skip
    refine lv_aload_n hx hb dL_law_1585 rfl (lv_at hl 1 rfl) ?_
    refine lv_aload_n hx hb dL_law_1586 rfl (lv_at hl 0 rfl) ?_
    refine lv_iload hx hb dL_law_1587 (lv_at hl 4 rfl) ?_
    refine ib_const hx hb dL_law_1589 ?_
    refine ib_add (z := (((5 * n) + 1 : Nat) : Int)) hx hb dL_law_1590 (by omega) ?_
    refine st_i (y := iI ((5 * n + 1 : Nat) : Int)) (congrArg iI (by omega)) ?_
    refine va_sld (b := b) (L := L) (xs := xs) hx hb hX hbl hbA hS (iI_vp (i := 5 * n + 1) (by omega) (by omega)) dL_law_1591 ?_
    refine st_i (y := iI ((t : Nat) : Int)) ((congrArg xs (iI_cl (by omega))).trans e0) ?_
    refine lv_aload_n hx hb dL_law_1592 rfl (lv_at hl 3 rfl) ?_
    have hf9 : cells + 1 ≤ room_1.cells ∧ slots + 6 ≤ room_1.slots := ⟨by show cells + 1 ≤ 1036; omega, by show slots + 6 ≤ 8286; omega⟩
    have hP1 : va_P (dC, dI) vwCl [(o0, .inr (0, [.long (pk a0), .long (pk a1), .long (pkn q w), .int (iI ((w : Nat) : Int))]))] H := va_P_l (w1 := [(o0, .inr (0, [.long (pk a0), .long (pk a1), .long (pkn q w), .int (iI ((w : Nat) : Int))]))]) (w2 := [(u0, .inl (cJ, 1, .inr (.inl (g)))), (m0, .inr (1, [.int th, .ref t0, .ref k0, .ref p0, .int (iI ((w : Nat) : Int))])), (t0, .inl (cI, 24, .inl (fun j => iI ((tb a0 a1 j : Nat) : Int)))), (k0, .inl (cI, 12, .inl (fun j => iI ((K j : Nat) : Int)))), (p0, .inl (cI, 12, .inl (fun j => iI ((q j : Nat) : Int))))]) hP
    have hK1 := hK.sub (tys' := []) [] rfl
    refine rdK_call (vx_runSW (As := [.ref o0, .int (iI ((t : Nat) : Int)), .ref u0]) (rest := []) ⟨hx, hb, hml, hown, hts⟩ (mL_write_x2 l hfl dC dI o0 a0 a1 q w hp0 hp1 hw hq hqd u0 t (by omega) hwr) (vx_cwSW 3 hts gL_law_L_write rfl rfl rfl hdL_write ⟨(Nat.le_of_ble_eq_true rfl), (Nat.le_of_ble_eq_true rfl)⟩) (bY_preS hK1 hP1 (hG0.at hS) hN) rfl rfl hl.1 rfl (lv_room (Nat.le_of_ble_eq_true rfl)) dL_law_1593 hf9) (fun H hz hk => ?_)
    have hP : va_P (dC, dI) vwCl ([(o0, .inr (0, [.long (pk a0), .long (pk a1), .long (pkn q w), .int (iI ((w : Nat) : Int))])), (u0, .inl (cJ, 1, .inr (.inl (g))))] ++ [(m0, .inr (1, [.int th, .ref t0, .ref k0, .ref p0, .int (iI ((w : Nat) : Int))])), (t0, .inl (cI, 24, .inl (fun j => iI ((tb a0 a1 j : Nat) : Int)))), (k0, .inl (cI, 12, .inl (fun j => iI ((K j : Nat) : Int)))), (p0, .inl (cI, 12, .inl (fun j => iI ((q j : Nat) : Int))))]) H := va_P_new hP hk
    have hS := va_S_new hS hz hk
    refine lv_istore (lv' := [(5, .int (iI 2)), (0, .ref b), (1, .ref o0), (2, .ref m0), (3, .ref u0), (4, .int (iI ((5 * n : Nat) : Int)))]) hx hb dL_law_1596 hl (by decide) rfl (fun ls hl => ?_)
    refine lv_aload_n hx hb dL_law_1598 rfl (lv_at hl 3 rfl) ?_
    refine lv_aload_n hx hb dL_law_1599 rfl (lv_at hl 1 rfl) ?_
    refine lv_iload hx hb dL_law_1600 (lv_at hl 5 rfl) ?_
    refine ib_const hx hb dL_law_1602 ?_
    refine ib_add (z := (((5 * n) + 1 : Nat) : Int)) hx hb dL_law_1603 (by omega) ?_
    refine st_i (y := iI ((5 * n + 1 : Nat) : Int)) (congrArg iI (by omega)) ?_
    refine va_sld (b := b) (L := L) (xs := xs) hx hb hX hbl hbA hS (iI_vp (i := 5 * n + 1) (by omega) (by omega)) dL_law_1604 ?_
    refine st_i (y := iI ((t : Nat) : Int)) ((congrArg xs (iI_cl (by omega))).trans e0) ?_
    have hP2 : va_P (dC, dI) vwCl [(m0, .inr (1, [.int th, .ref t0, .ref k0, .ref p0, .int (iI ((w : Nat) : Int))])), (t0, .inl (cI, 24, .inl (fun j => iI ((tb a0 a1 j : Nat) : Int)))), (k0, .inl (cI, 12, .inl (fun j => iI ((K j : Nat) : Int)))), (p0, .inl (cI, 12, .inl (fun j => iI ((q j : Nat) : Int))))] H := va_P_r (w1 := [(o0, .inr (0, [.long (pk a0), .long (pk a1), .long (pkn q w), .int (iI ((w : Nat) : Int))])), (u0, .inl (cJ, 1, .inr (.inl (g))))]) (w2 := [(m0, .inr (1, [.int th, .ref t0, .ref k0, .ref p0, .int (iI ((w : Nat) : Int))])), (t0, .inl (cI, 24, .inl (fun j => iI ((tb a0 a1 j : Nat) : Int)))), (k0, .inl (cI, 12, .inl (fun j => iI ((K j : Nat) : Int)))), (p0, .inl (cI, 12, .inl (fun j => iI ((q j : Nat) : Int))))]) hP
    have hK2 := hK.sub (tys' := [(cI, .int)]) [1] rfl
    have hf9 : cells + 1 + 0 ≤ room_1.cells ∧ slots + 6 + 0 ≤ room_1.slots := ⟨by show cells + 1 + 0 ≤ 1036; omega, by show slots + 6 + 0 ≤ 8286; omega⟩
    have hD2 : va_D (LA s) [(m0, .inr (1, [.int th, .ref t0, .ref k0, .ref p0, .int (iI ((w : Nat) : Int))])), (t0, .inl (cI, 24, .inl (fun j => iI ((tb a0 a1 j : Nat) : Int)))), (k0, .inl (cI, 12, .inl (fun j => iI ((K j : Nat) : Int)))), (p0, .inl (cI, 12, .inl (fun j => iI ((q j : Nat) : Int))))] := va_D_r (w1 := [(o0, .inr (0, [.long (pk a0), .long (pk a1), .long (pkn q w), .int (iI ((w : Nat) : Int))])), (u0, .inl (cJ, 1, .inr (.inl (g))))]) (w2 := [(m0, .inr (1, [.int th, .ref t0, .ref k0, .ref p0, .int (iI ((w : Nat) : Int))])), (t0, .inl (cI, 24, .inl (fun j => iI ((tb a0 a1 j : Nat) : Int)))), (k0, .inl (cI, 12, .inl (fun j => iI ((K j : Nat) : Int)))), (p0, .inl (cI, 12, .inl (fun j => iI ((q j : Nat) : Int))))]) hD
    refine wr_call (va_runV (As := [.int (iI ((t : Nat) : Int))]) (rest := []) ⟨hx, hb, hml, hown, hts⟩ (mX1_write_x2 l dC dI cI m0 t0 k0 p0 a0 a1 K q th w hp0.1 hp1.1 hw hq t (by omega) hwr) (cwV 1 hts gL_law_X1_write rfl rfl rfl hvX1_write ⟨(Nat.le_of_ble_eq_true rfl), (Nat.le_of_ble_eq_true rfl)⟩) (bD_pre (ci := 1) (q0 := 0) hK2 hP2 hD2 rfl rfl rfl) rfl rfl hl.1 rfl (lv_room (Nat.le_of_ble_eq_true rfl)) dL_law_1605 hf9) hS (fun q9 h => inW_A hD2 h) (fun H locs hPn hz hk hS => ?_)
    have hP : va_P (dC, dI) vwCl ([(o0, .inr (0, [.long (pk a0), .long (pk a1), .long (pkn q w), .int (iI ((w : Nat) : Int))])), (u0, .inl (cJ, 1, .inr (.inl (g))))] ++ [(m0, .inr (1, [.int (iI 2), .ref t0, .ref k0, .ref p0, .int (iI ((w : Nat) : Int))])), (t0, .inl (cI, 24, .inl (fun j => iI ((tb a0 a1 j : Nat) : Int)))), (k0, .inl (cI, 12, .inl (fun j => iI ((K j : Nat) : Int)))), (p0, .inl (cI, 12, .inl (fun j => iI ((q j : Nat) : Int))))]) H := wj_r (w1 := [(o0, .inr (0, [.long (pk a0), .long (pk a1), .long (pkn q w), .int (iI ((w : Nat) : Int))])), (u0, .inl (cJ, 1, .inr (.inl (g))))]) (w2 := [(m0, .inr (1, [.int th, .ref t0, .ref k0, .ref p0, .int (iI ((w : Nat) : Int))])), (t0, .inl (cI, 24, .inl (fun j => iI ((tb a0 a1 j : Nat) : Int)))), (k0, .inl (cI, 12, .inl (fun j => iI ((K j : Nat) : Int)))), (p0, .inl (cI, 12, .inl (fun j => iI ((q j : Nat) : Int))))]) (w2' := [(m0, .inr (1, [.int (iI 2), .ref t0, .ref k0, .ref p0, .int (iI ((w : Nat) : Int))])), (t0, .inl (cI, 24, .inl (fun j => iI ((tb a0 a1 j : Nat) : Int)))), (k0, .inl (cI, 12, .inl (fun j => iI ((K j : Nat) : Int)))), (p0, .inl (cI, 12, .inl (fun j => iI ((q j : Nat) : Int))))]) hP hD hPn hk
    have hD : va_D (LA s) ([(o0, .inr (0, [.long (pk a0), .long (pk a1), .long (pkn q w), .int (iI ((w : Nat) : Int))])), (u0, .inl (cJ, 1, .inr (.inl (g))))] ++ [(m0, .inr (1, [.int (iI 2), .ref t0, .ref k0, .ref p0, .int (iI ((w : Nat) : Int))])), (t0, .inl (cI, 24, .inl (fun j => iI ((tb a0 a1 j : Nat) : Int)))), (k0, .inl (cI, 12, .inl (fun j => iI ((K j : Nat) : Int)))), (p0, .inl (cI, 12, .inl (fun j => iI ((q j : Nat) : Int))))]) := va_D_same (w := ([(o0, .inr (0, [.long (pk a0), .long (pk a1), .long (pkn q w), .int (iI ((w : Nat) : Int))])), (u0, .inl (cJ, 1, .inr (.inl (g))))] ++ [(m0, .inr (1, [.int th, .ref t0, .ref k0, .ref p0, .int (iI ((w : Nat) : Int))])), (t0, .inl (cI, 24, .inl (fun j => iI ((tb a0 a1 j : Nat) : Int)))), (k0, .inl (cI, 12, .inl (fun j => iI ((K j : Nat) : Int)))), (p0, .inl (cI, 12, .inl (fun j => iI ((q j : Nat) : Int))))])) (Eq.trans (b := [o0, u0, m0, t0, k0, p0]) rfl rfl) hD
    refine va_forget hS.2.2 ?_
    have hS := va_S_nil hS
    refine lv_istore (lv' := [(6, .int (iI 0)), (5, .int (iI 2)), (0, .ref b), (1, .ref o0), (2, .ref m0), (3, .ref u0), (4, .int (iI ((5 * n : Nat) : Int)))]) hx hb dL_law_1608 hl (by decide) rfl (fun ls hl => ?_)
    refine lv_aload_n hx hb dL_law_1610 rfl (lv_at hl 4 rfl) ?_
    have hP2 : va_P (dC, dI) vwCl [(m0, .inr (1, [.int (iI 2), .ref t0, .ref k0, .ref p0, .int (iI ((w : Nat) : Int))])), (t0, .inl (cI, 24, .inl (fun j => iI ((tb a0 a1 j : Nat) : Int)))), (k0, .inl (cI, 12, .inl (fun j => iI ((K j : Nat) : Int)))), (p0, .inl (cI, 12, .inl (fun j => iI ((q j : Nat) : Int))))] H := va_P_r (w1 := [(o0, .inr (0, [.long (pk a0), .long (pk a1), .long (pkn q w), .int (iI ((w : Nat) : Int))])), (u0, .inl (cJ, 1, .inr (.inl (g))))]) (w2 := [(m0, .inr (1, [.int (iI 2), .ref t0, .ref k0, .ref p0, .int (iI ((w : Nat) : Int))])), (t0, .inl (cI, 24, .inl (fun j => iI ((tb a0 a1 j : Nat) : Int)))), (k0, .inl (cI, 12, .inl (fun j => iI ((K j : Nat) : Int)))), (p0, .inl (cI, 12, .inl (fun j => iI ((q j : Nat) : Int))))]) hP
    have hK2 := hK.sub (tys' := [(cI, .int)]) [1] rfl
    have hf9 : cells + 1 + 0 ≤ room_1.cells ∧ slots + 6 + 0 ≤ room_1.slots := ⟨by show cells + 1 + 0 ≤ 1036; omega, by show slots + 6 + 0 ≤ 8286; omega⟩
    refine rd_call (va_runV (As := []) (rest := []) ⟨hx, hb, hml, hown, hts⟩ (mX1_thrown l dC dI cI m0 t0 k0 p0 a0 a1 K q (iI 2) w hp0.1 hp1.1 hw hq) (cwV 0 hts gL_law_X1_thrown rfl rfl rfl hvX1_thrown ⟨(Nat.le_of_ble_eq_true rfl), (Nat.le_of_ble_eq_true rfl)⟩) (bW_pre (ci := 1) (q0 := 0) hK2 hP2 rfl rfl rfl) rfl rfl hl.1 rfl (lv_room (Nat.le_of_ble_eq_true rfl)) dL_law_1611 hf9) ?_
    refine lv_iload hx hb dL_law_1614 (lv_at hl 1 rfl) ?_
    refine ib_icmp_eq (tgt := 1621) hx hb dL_law_1616 (by decide) ⟨by omega, by omega⟩ ⟨by omega, by omega⟩ (fun c_1616 => ?_) (fun c_1616 => absurd c_1616 (by decide))
    refine lv_iload hx hb dL_law_1621 (lv_at hl 1 rfl) ?_
    refine ib_if_ne (tgt := 1638) hx hb dL_law_1623 (by decide) ⟨by omega, by omega⟩ (fun c_1623 => ?_) (fun c_1623 => absurd c_1623 (by decide))
    refine lv_goto (tgt := 1833) hx hb dL_law_1638 (by decide) ?_
    exact kk a0 a1 q K w (iI 2) (g) H ls ⟨hp0, hp1, hw, hq, hqd, hP, hD, hS⟩ (lv_sub hl [2, 3, 4, 5, 6] rfl)
  have hw12 : w < 12 := wr_lt hw hq hqd (show t < 12 by omega) hwr
  refine lv_aload_n hx hb dL_law_1585 rfl (lv_at hl 1 rfl) ?_
  refine lv_aload_n hx hb dL_law_1586 rfl (lv_at hl 0 rfl) ?_
  refine lv_iload hx hb dL_law_1587 (lv_at hl 4 rfl) ?_
  refine ib_const hx hb dL_law_1589 ?_
  refine ib_add (z := (((5 * n) + 1 : Nat) : Int)) hx hb dL_law_1590 (by omega) ?_
  refine st_i (y := iI ((5 * n + 1 : Nat) : Int)) (congrArg iI (by omega)) ?_
  refine va_sld (b := b) (L := L) (xs := xs) hx hb hX hbl hbA hS (iI_vp (i := 5 * n + 1) (by omega) (by omega)) dL_law_1591 ?_
  refine st_i (y := iI ((t : Nat) : Int)) ((congrArg xs (iI_cl (by omega))).trans e0) ?_
  refine lv_aload_n hx hb dL_law_1592 rfl (lv_at hl 3 rfl) ?_
  have hf9 : cells + 0 ≤ room_1.cells ∧ slots + 0 ≤ room_1.slots := ⟨by show cells + 0 ≤ 1036; omega, by show slots + 0 ≤ 8286; omega⟩
  have hP1 : va_P (dC, dI) vwCl [(o0, .inr (0, [.long (pk a0), .long (pk a1), .long (pkn q w), .int (iI ((w : Nat) : Int))])), (u0, .inl (cJ, 1, .inr (.inl (g))))] H := va_P_l (w1 := [(o0, .inr (0, [.long (pk a0), .long (pk a1), .long (pkn q w), .int (iI ((w : Nat) : Int))])), (u0, .inl (cJ, 1, .inr (.inl (g))))]) (w2 := [(m0, .inr (1, [.int th, .ref t0, .ref k0, .ref p0, .int (iI ((w : Nat) : Int))])), (t0, .inl (cI, 24, .inl (fun j => iI ((tb a0 a1 j : Nat) : Int)))), (k0, .inl (cI, 12, .inl (fun j => iI ((K j : Nat) : Int)))), (p0, .inl (cI, 12, .inl (fun j => iI ((q j : Nat) : Int))))]) hP
  have hD1 : va_D (LA s) [(o0, .inr (0, [.long (pk a0), .long (pk a1), .long (pkn q w), .int (iI ((w : Nat) : Int))])), (u0, .inl (cJ, 1, .inr (.inl (g))))] := va_D_l (w1 := [(o0, .inr (0, [.long (pk a0), .long (pk a1), .long (pkn q w), .int (iI ((w : Nat) : Int))])), (u0, .inl (cJ, 1, .inr (.inl (g))))]) (w2 := [(m0, .inr (1, [.int th, .ref t0, .ref k0, .ref p0, .int (iI ((w : Nat) : Int))])), (t0, .inl (cI, 24, .inl (fun j => iI ((tb a0 a1 j : Nat) : Int)))), (k0, .inl (cI, 12, .inl (fun j => iI ((K j : Nat) : Int)))), (p0, .inl (cI, 12, .inl (fun j => iI ((q j : Nat) : Int))))]) hD
  have hK1 := hK.sub (tys' := [(cJ, .long)]) [0] rfl
  refine wr_call (vx_runSW (As := [.ref o0, .int (iI ((t : Nat) : Int)), .ref u0]) (rest := []) ⟨hx, hb, hml, hown, hts⟩ (mL_write_ok l dC dI cJ o0 u0 a0 a1 q w hp0 hp1 hw hq hqd g t (by omega) hwr hw12) (vx_cwSW 3 hts gL_law_L_write rfl rfl rfl hdL_write ⟨(Nat.le_of_ble_eq_true rfl), (Nat.le_of_ble_eq_true rfl)⟩) (bD_preS hK1 hP1 hD1) rfl rfl hl.1 rfl (lv_room (Nat.le_of_ble_eq_true rfl)) dL_law_1593 hf9) hS (fun q9 h => inW_A hD1 h) (fun H locs hPn hz hk hS => ?_)
  have hP : va_P (dC, dI) vwCl ([(o0, .inr (0, [.long (pk a0), .long (pk a1), .long (pkn (upq q w t) (w + 1)), .int (iI ((w + 1 : Nat) : Int))])), (u0, .inl (cJ, 1, .inr (.inl (fun _ => (iI ((w + 1 : Nat) : Int)).toInt64))))] ++ [(m0, .inr (1, [.int th, .ref t0, .ref k0, .ref p0, .int (iI ((w : Nat) : Int))])), (t0, .inl (cI, 24, .inl (fun j => iI ((tb a0 a1 j : Nat) : Int)))), (k0, .inl (cI, 12, .inl (fun j => iI ((K j : Nat) : Int)))), (p0, .inl (cI, 12, .inl (fun j => iI ((q j : Nat) : Int))))]) H := wj_l (w1 := [(o0, .inr (0, [.long (pk a0), .long (pk a1), .long (pkn q w), .int (iI ((w : Nat) : Int))])), (u0, .inl (cJ, 1, .inr (.inl (g))))]) (w2 := [(m0, .inr (1, [.int th, .ref t0, .ref k0, .ref p0, .int (iI ((w : Nat) : Int))])), (t0, .inl (cI, 24, .inl (fun j => iI ((tb a0 a1 j : Nat) : Int)))), (k0, .inl (cI, 12, .inl (fun j => iI ((K j : Nat) : Int)))), (p0, .inl (cI, 12, .inl (fun j => iI ((q j : Nat) : Int))))]) (w1' := [(o0, .inr (0, [.long (pk a0), .long (pk a1), .long (pkn (upq q w t) (w + 1)), .int (iI ((w + 1 : Nat) : Int))])), (u0, .inl (cJ, 1, .inr (.inl (fun _ => (iI ((w + 1 : Nat) : Int)).toInt64))))]) hP hD hPn hk
  have hD : va_D (LA s) ([(o0, .inr (0, [.long (pk a0), .long (pk a1), .long (pkn (upq q w t) (w + 1)), .int (iI ((w + 1 : Nat) : Int))])), (u0, .inl (cJ, 1, .inr (.inl (fun _ => (iI ((w + 1 : Nat) : Int)).toInt64))))] ++ [(m0, .inr (1, [.int th, .ref t0, .ref k0, .ref p0, .int (iI ((w : Nat) : Int))])), (t0, .inl (cI, 24, .inl (fun j => iI ((tb a0 a1 j : Nat) : Int)))), (k0, .inl (cI, 12, .inl (fun j => iI ((K j : Nat) : Int)))), (p0, .inl (cI, 12, .inl (fun j => iI ((q j : Nat) : Int))))]) := va_D_same (w := ([(o0, .inr (0, [.long (pk a0), .long (pk a1), .long (pkn q w), .int (iI ((w : Nat) : Int))])), (u0, .inl (cJ, 1, .inr (.inl (g))))] ++ [(m0, .inr (1, [.int th, .ref t0, .ref k0, .ref p0, .int (iI ((w : Nat) : Int))])), (t0, .inl (cI, 24, .inl (fun j => iI ((tb a0 a1 j : Nat) : Int)))), (k0, .inl (cI, 12, .inl (fun j => iI ((K j : Nat) : Int)))), (p0, .inl (cI, 12, .inl (fun j => iI ((q j : Nat) : Int))))])) (Eq.trans (b := [o0, u0, m0, t0, k0, p0]) rfl rfl) hD
  refine va_forget hS.2.2 ?_
  have hS := va_S_nil hS
  refine W.widen (k := cells + 1) (n := slots + 6) (by omega) (by omega) ?_
  refine lv_istore (lv' := [(5, .int (iI 0)), (0, .ref b), (1, .ref o0), (2, .ref m0), (3, .ref u0), (4, .int (iI ((5 * n : Nat) : Int)))]) hx hb dL_law_1596 hl (by decide) rfl (fun ls hl => ?_)
  refine lv_aload_n hx hb dL_law_1598 rfl (lv_at hl 3 rfl) ?_
  refine lv_aload_n hx hb dL_law_1599 rfl (lv_at hl 1 rfl) ?_
  refine lv_iload hx hb dL_law_1600 (lv_at hl 5 rfl) ?_
  refine ib_const hx hb dL_law_1602 ?_
  refine ib_add (z := (((5 * n) + 1 : Nat) : Int)) hx hb dL_law_1603 (by omega) ?_
  refine st_i (y := iI ((5 * n + 1 : Nat) : Int)) (congrArg iI (by omega)) ?_
  refine va_sld (b := b) (L := L) (xs := xs) hx hb hX hbl hbA hS (iI_vp (i := 5 * n + 1) (by omega) (by omega)) dL_law_1604 ?_
  refine st_i (y := iI ((t : Nat) : Int)) ((congrArg xs (iI_cl (by omega))).trans e0) ?_
  have hP2 : va_P (dC, dI) vwCl [(m0, .inr (1, [.int th, .ref t0, .ref k0, .ref p0, .int (iI ((w : Nat) : Int))])), (t0, .inl (cI, 24, .inl (fun j => iI ((tb a0 a1 j : Nat) : Int)))), (k0, .inl (cI, 12, .inl (fun j => iI ((K j : Nat) : Int)))), (p0, .inl (cI, 12, .inl (fun j => iI ((q j : Nat) : Int))))] H := va_P_r (w1 := [(o0, .inr (0, [.long (pk a0), .long (pk a1), .long (pkn (upq q w t) (w + 1)), .int (iI ((w + 1 : Nat) : Int))])), (u0, .inl (cJ, 1, .inr (.inl (fun _ => (iI ((w + 1 : Nat) : Int)).toInt64))))]) (w2 := [(m0, .inr (1, [.int th, .ref t0, .ref k0, .ref p0, .int (iI ((w : Nat) : Int))])), (t0, .inl (cI, 24, .inl (fun j => iI ((tb a0 a1 j : Nat) : Int)))), (k0, .inl (cI, 12, .inl (fun j => iI ((K j : Nat) : Int)))), (p0, .inl (cI, 12, .inl (fun j => iI ((q j : Nat) : Int))))]) hP
  have hK2 := hK.sub (tys' := [(cI, .int)]) [1] rfl
  have hf9 : cells + 1 + 0 ≤ room_1.cells ∧ slots + 6 + 0 ≤ room_1.slots := ⟨by show cells + 1 + 0 ≤ 1036; omega, by show slots + 6 + 0 ≤ 8286; omega⟩
  have hD2 : va_D (LA s) [(m0, .inr (1, [.int th, .ref t0, .ref k0, .ref p0, .int (iI ((w : Nat) : Int))])), (t0, .inl (cI, 24, .inl (fun j => iI ((tb a0 a1 j : Nat) : Int)))), (k0, .inl (cI, 12, .inl (fun j => iI ((K j : Nat) : Int)))), (p0, .inl (cI, 12, .inl (fun j => iI ((q j : Nat) : Int))))] := va_D_r (w1 := [(o0, .inr (0, [.long (pk a0), .long (pk a1), .long (pkn (upq q w t) (w + 1)), .int (iI ((w + 1 : Nat) : Int))])), (u0, .inl (cJ, 1, .inr (.inl (fun _ => (iI ((w + 1 : Nat) : Int)).toInt64))))]) (w2 := [(m0, .inr (1, [.int th, .ref t0, .ref k0, .ref p0, .int (iI ((w : Nat) : Int))])), (t0, .inl (cI, 24, .inl (fun j => iI ((tb a0 a1 j : Nat) : Int)))), (k0, .inl (cI, 12, .inl (fun j => iI ((K j : Nat) : Int)))), (p0, .inl (cI, 12, .inl (fun j => iI ((q j : Nat) : Int))))]) hD
  refine wr_call (va_runV (As := [.int (iI ((t : Nat) : Int))]) (rest := []) ⟨hx, hb, hml, hown, hts⟩ (mX1_write_ok l dC dI cI m0 t0 k0 p0 a0 a1 K q th w hp0.1 hp1.1 hw hq t (by omega) hwr hw12) (cwV 1 hts gL_law_X1_write rfl rfl rfl hvX1_write ⟨(Nat.le_of_ble_eq_true rfl), (Nat.le_of_ble_eq_true rfl)⟩) (bD_pre (ci := 1) (q0 := 0) hK2 hP2 hD2 rfl rfl rfl) rfl rfl hl.1 rfl (lv_room (Nat.le_of_ble_eq_true rfl)) dL_law_1605 hf9) hS (fun q9 h => inW_A hD2 h) (fun H locs hPn hz hk hS => ?_)
  have hP : va_P (dC, dI) vwCl ([(o0, .inr (0, [.long (pk a0), .long (pk a1), .long (pkn (upq q w t) (w + 1)), .int (iI ((w + 1 : Nat) : Int))])), (u0, .inl (cJ, 1, .inr (.inl (fun _ => (iI ((w + 1 : Nat) : Int)).toInt64))))] ++ [(m0, .inr (1, [.int (iI 0), .ref t0, .ref k0, .ref p0, .int (iI ((w + 1 : Nat) : Int))])), (t0, .inl (cI, 24, .inl (fun j => iI ((tb a0 a1 j : Nat) : Int)))), (k0, .inl (cI, 12, .inl (fun j => iI ((K j : Nat) : Int)))), (p0, .inl (cI, 12, .inl (fun j => iI (((upq q w t) j : Nat) : Int))))]) H := wj_r (w1 := [(o0, .inr (0, [.long (pk a0), .long (pk a1), .long (pkn (upq q w t) (w + 1)), .int (iI ((w + 1 : Nat) : Int))])), (u0, .inl (cJ, 1, .inr (.inl (fun _ => (iI ((w + 1 : Nat) : Int)).toInt64))))]) (w2 := [(m0, .inr (1, [.int th, .ref t0, .ref k0, .ref p0, .int (iI ((w : Nat) : Int))])), (t0, .inl (cI, 24, .inl (fun j => iI ((tb a0 a1 j : Nat) : Int)))), (k0, .inl (cI, 12, .inl (fun j => iI ((K j : Nat) : Int)))), (p0, .inl (cI, 12, .inl (fun j => iI ((q j : Nat) : Int))))]) (w2' := [(m0, .inr (1, [.int (iI 0), .ref t0, .ref k0, .ref p0, .int (iI ((w + 1 : Nat) : Int))])), (t0, .inl (cI, 24, .inl (fun j => iI ((tb a0 a1 j : Nat) : Int)))), (k0, .inl (cI, 12, .inl (fun j => iI ((K j : Nat) : Int)))), (p0, .inl (cI, 12, .inl (fun j => iI (((upq q w t) j : Nat) : Int))))]) hP hD hPn hk
  have hD : va_D (LA s) ([(o0, .inr (0, [.long (pk a0), .long (pk a1), .long (pkn (upq q w t) (w + 1)), .int (iI ((w + 1 : Nat) : Int))])), (u0, .inl (cJ, 1, .inr (.inl (fun _ => (iI ((w + 1 : Nat) : Int)).toInt64))))] ++ [(m0, .inr (1, [.int (iI 0), .ref t0, .ref k0, .ref p0, .int (iI ((w + 1 : Nat) : Int))])), (t0, .inl (cI, 24, .inl (fun j => iI ((tb a0 a1 j : Nat) : Int)))), (k0, .inl (cI, 12, .inl (fun j => iI ((K j : Nat) : Int)))), (p0, .inl (cI, 12, .inl (fun j => iI (((upq q w t) j : Nat) : Int))))]) := va_D_same (w := ([(o0, .inr (0, [.long (pk a0), .long (pk a1), .long (pkn (upq q w t) (w + 1)), .int (iI ((w + 1 : Nat) : Int))])), (u0, .inl (cJ, 1, .inr (.inl (fun _ => (iI ((w + 1 : Nat) : Int)).toInt64))))] ++ [(m0, .inr (1, [.int th, .ref t0, .ref k0, .ref p0, .int (iI ((w : Nat) : Int))])), (t0, .inl (cI, 24, .inl (fun j => iI ((tb a0 a1 j : Nat) : Int)))), (k0, .inl (cI, 12, .inl (fun j => iI ((K j : Nat) : Int)))), (p0, .inl (cI, 12, .inl (fun j => iI ((q j : Nat) : Int))))])) (Eq.trans (b := [o0, u0, m0, t0, k0, p0]) rfl rfl) hD
  refine va_forget hS.2.2 ?_
  have hS := va_S_nil hS
  refine lv_istore (lv' := [(6, .int (iI ((w + 1 : Nat) : Int))), (5, .int (iI 0)), (0, .ref b), (1, .ref o0), (2, .ref m0), (3, .ref u0), (4, .int (iI ((5 * n : Nat) : Int)))]) hx hb dL_law_1608 hl (by decide) rfl (fun ls hl => ?_)
  refine lv_aload_n hx hb dL_law_1610 rfl (lv_at hl 4 rfl) ?_
  have hP2 : va_P (dC, dI) vwCl [(m0, .inr (1, [.int (iI 0), .ref t0, .ref k0, .ref p0, .int (iI ((w + 1 : Nat) : Int))])), (t0, .inl (cI, 24, .inl (fun j => iI ((tb a0 a1 j : Nat) : Int)))), (k0, .inl (cI, 12, .inl (fun j => iI ((K j : Nat) : Int)))), (p0, .inl (cI, 12, .inl (fun j => iI (((upq q w t) j : Nat) : Int))))] H := va_P_r (w1 := [(o0, .inr (0, [.long (pk a0), .long (pk a1), .long (pkn (upq q w t) (w + 1)), .int (iI ((w + 1 : Nat) : Int))])), (u0, .inl (cJ, 1, .inr (.inl (fun _ => (iI ((w + 1 : Nat) : Int)).toInt64))))]) (w2 := [(m0, .inr (1, [.int (iI 0), .ref t0, .ref k0, .ref p0, .int (iI ((w + 1 : Nat) : Int))])), (t0, .inl (cI, 24, .inl (fun j => iI ((tb a0 a1 j : Nat) : Int)))), (k0, .inl (cI, 12, .inl (fun j => iI ((K j : Nat) : Int)))), (p0, .inl (cI, 12, .inl (fun j => iI (((upq q w t) j : Nat) : Int))))]) hP
  have hK2 := hK.sub (tys' := [(cI, .int)]) [1] rfl
  have hf9 : cells + 1 + 0 ≤ room_1.cells ∧ slots + 6 + 0 ≤ room_1.slots := ⟨by show cells + 1 + 0 ≤ 1036; omega, by show slots + 6 + 0 ≤ 8286; omega⟩
  refine rd_call (va_runV (As := []) (rest := []) ⟨hx, hb, hml, hown, hts⟩ (mX1_thrown l dC dI cI m0 t0 k0 p0 a0 a1 K (upq q w t) (iI 0) (w + 1) hp0.1 hp1.1 (show w + 1 ≤ 12 by omega) (upq_lt hq (by omega))) (cwV 0 hts gL_law_X1_thrown rfl rfl rfl hvX1_thrown ⟨(Nat.le_of_ble_eq_true rfl), (Nat.le_of_ble_eq_true rfl)⟩) (bW_pre (ci := 1) (q0 := 0) hK2 hP2 rfl rfl rfl) rfl rfl hl.1 rfl (lv_room (Nat.le_of_ble_eq_true rfl)) dL_law_1611 hf9) ?_
  refine lv_iload hx hb dL_law_1614 (lv_at hl 1 rfl) ?_
  refine ib_icmp_eq (tgt := 1621) hx hb dL_law_1616 (by decide) ⟨by omega, by omega⟩ ⟨by omega, by omega⟩ (fun c_1616 => ?_) (fun c_1616 => absurd c_1616 (by decide))
  refine lv_iload hx hb dL_law_1621 (lv_at hl 1 rfl) ?_
  refine ib_if_ne (tgt := 1638) hx hb dL_law_1623 (by decide) ⟨by omega, by omega⟩ (fun c_1623 => absurd c_1623 (by decide)) (fun c_1623 => ?_)
  refine lv_aload_n hx hb dL_law_1626 rfl (lv_at hl 5 rfl) ?_
  refine ib_const hx hb dL_law_1627 ?_
  refine va_lald hx hb hK hP 1 0 rfl rfl vp0 dL_law_1628 ?_
  refine st_l (y := (iI ((w + 1 : Nat) : Int)).toInt64) rfl ?_
  refine lv_iload hx hb dL_law_1629 (lv_at hl 0 rfl) ?_
  refine lv_i2l hx hb dL_law_1631 rfl ?_
  refine W.lcmp hx hb dL_law_1632 ?_
  refine bl_eq (tgt := 1638) hx hb dL_law_1633 (by decide) (fun _ => ?_) (fun h => absurd rfl h)
  refine lv_goto (tgt := 1833) hx hb dL_law_1638 (by decide) ?_
  exact kk a0 a1 (upq q w t) K (w + 1) (iI 0) (fun _ => (iI ((w + 1 : Nat) : Int)).toInt64) H ls ⟨hp0, hp1, (show w + 1 ≤ 12 by omega), (upq_lt hq (by omega)), (upq_d hqd hwr), hP, hD, hS⟩ (lv_sub hl [2, 3, 4, 5, 6] rfl)

set_option maxHeartbeats 4000000 in
set_option maxRecDepth 100000 in
theorem law_c21 {p : Program} {l : Launch} {e : Env} {s : State} {m : MethodId} {below : List Frame} {meth : Method} {c : Code} {Q : State → Prop} {dC : Nat → ClassId} {dI : Nat → Nat → Nat} {cI cJ : ClassId} {b L : Nat} {xs : Nat → Int32} (C : LC p l s m meth c (dC, dI) cI cJ b L xs) {o0 u0 m0 t0 k0 p0 : Nat} {a0 a1 q K : Nat → Nat} {w : Nat} {th : Int32} {g : Nat → Int64} {H : Heap} (hI : LI s (dC, dI) cI cJ o0 u0 m0 t0 k0 p0 a0 a1 q K w th g H) {n cells slots : Nat} (hc1 : cells + 1 ≤ 1036) (hc2 : slots + 6 ≤ 8286) (hn : 5 * n + 5 ≤ L) (hL : L ≤ 2560) {ls : Array Slot} (hl : lv_has ls 8 [(0, .ref b), (1, .ref o0), (2, .ref m0), (3, .ref u0), (4, .int (iI ((5 * n : Nat) : Int)))])
    (kk : ∀ (a0 a1 q K : Nat → Nat) (w : Nat) (th : Int32) (g : Nat → Int64) (H : Heap) (ls : Array Slot), LI s (dC, dI) cI cJ o0 u0 m0 t0 k0 p0 a0 a1 q K w th g H → lv_has ls 8 [(0, .ref b), (1, .ref o0), (2, .ref m0), (3, .ref u0), (4, .int (iI ((5 * n : Nat) : Int)))] → W p l e room_1 s m #[Value.ref b] below meth c H [] (cells + 1) (slots + 6) Q (F0 m 1833 ls [])) : W p l e room_1 s m #[Value.ref b] below meth c H [] cells slots Q (F0 m 1641 ls []) := by
  obtain ⟨hx, hb, hml, hown, hts, hK, hG0, hN, hX, hbl, hfl⟩ := C
  obtain ⟨hp0, hp1, hw, hq, hqd, hP, hD, hS⟩ := hI
  have hbA : ¬ LA s b := Nat.not_le.mpr hbl
  refine lv_aload_n hx hb dL_law_1641 rfl (lv_at hl 1 rfl) ?_
  have hf9 : cells + 0 ≤ room_1.cells ∧ slots + 0 ≤ room_1.slots := ⟨by show cells + 0 ≤ 1036; omega, by show slots + 0 ≤ 8286; omega⟩
  have hP1 : va_P (dC, dI) vwCl [(o0, .inr (0, [.long (pk a0), .long (pk a1), .long (pkn q w), .int (iI ((w : Nat) : Int))]))] H := va_P_l (w1 := [(o0, .inr (0, [.long (pk a0), .long (pk a1), .long (pkn q w), .int (iI ((w : Nat) : Int))]))]) (w2 := [(u0, .inl (cJ, 1, .inr (.inl (g)))), (m0, .inr (1, [.int th, .ref t0, .ref k0, .ref p0, .int (iI ((w : Nat) : Int))])), (t0, .inl (cI, 24, .inl (fun j => iI ((tb a0 a1 j : Nat) : Int)))), (k0, .inl (cI, 12, .inl (fun j => iI ((K j : Nat) : Int)))), (p0, .inl (cI, 12, .inl (fun j => iI ((q j : Nat) : Int))))]) hP
  have hD1 : va_D (LA s) [(o0, .inr (0, [.long (pk a0), .long (pk a1), .long (pkn q w), .int (iI ((w : Nat) : Int))]))] := va_D_l (w1 := [(o0, .inr (0, [.long (pk a0), .long (pk a1), .long (pkn q w), .int (iI ((w : Nat) : Int))]))]) (w2 := [(u0, .inl (cJ, 1, .inr (.inl (g)))), (m0, .inr (1, [.int th, .ref t0, .ref k0, .ref p0, .int (iI ((w : Nat) : Int))])), (t0, .inl (cI, 24, .inl (fun j => iI ((tb a0 a1 j : Nat) : Int)))), (k0, .inl (cI, 12, .inl (fun j => iI ((K j : Nat) : Int)))), (p0, .inl (cI, 12, .inl (fun j => iI ((q j : Nat) : Int))))]) hD
  have hK1 := hK.sub (tys' := []) [] rfl
  refine wr_call (va_runV (As := []) (rest := []) ⟨hx, hb, hml, hown, hts⟩ (mX0_erase_ok l dC dI o0 a0 a1 q w hp0 hp1 hw hq hqd) (cwV 0 hts gL_law_X0_erase rfl rfl rfl hvX0_erase ⟨(Nat.le_of_ble_eq_true rfl), (Nat.le_of_ble_eq_true rfl)⟩) (bD_pre (ci := 0) (q0 := 0) hK1 hP1 hD1 rfl rfl rfl) rfl rfl hl.1 rfl (lv_room (Nat.le_of_ble_eq_true rfl)) dL_law_1642 hf9) hS (fun q9 h => inW_A hD1 h) (fun H locs hPn hz hk hS => ?_)
  have hP : va_P (dC, dI) vwCl ([(o0, .inr (0, [.long (pk a0), .long (pk a1), .long (pkn q 0), .int (iI 0)])), (u0, .inl (cJ, 1, .inr (.inl (g))))] ++ [(m0, .inr (1, [.int th, .ref t0, .ref k0, .ref p0, .int (iI ((w : Nat) : Int))])), (t0, .inl (cI, 24, .inl (fun j => iI ((tb a0 a1 j : Nat) : Int)))), (k0, .inl (cI, 12, .inl (fun j => iI ((K j : Nat) : Int)))), (p0, .inl (cI, 12, .inl (fun j => iI ((q j : Nat) : Int))))]) H := wj_l (w1 := [(o0, .inr (0, [.long (pk a0), .long (pk a1), .long (pkn q w), .int (iI ((w : Nat) : Int))]))]) (w2 := [(u0, .inl (cJ, 1, .inr (.inl (g)))), (m0, .inr (1, [.int th, .ref t0, .ref k0, .ref p0, .int (iI ((w : Nat) : Int))])), (t0, .inl (cI, 24, .inl (fun j => iI ((tb a0 a1 j : Nat) : Int)))), (k0, .inl (cI, 12, .inl (fun j => iI ((K j : Nat) : Int)))), (p0, .inl (cI, 12, .inl (fun j => iI ((q j : Nat) : Int))))]) (w1' := [(o0, .inr (0, [.long (pk a0), .long (pk a1), .long (pkn q 0), .int (iI 0)]))]) hP hD hPn hk
  have hD : va_D (LA s) ([(o0, .inr (0, [.long (pk a0), .long (pk a1), .long (pkn q 0), .int (iI 0)])), (u0, .inl (cJ, 1, .inr (.inl (g))))] ++ [(m0, .inr (1, [.int th, .ref t0, .ref k0, .ref p0, .int (iI ((w : Nat) : Int))])), (t0, .inl (cI, 24, .inl (fun j => iI ((tb a0 a1 j : Nat) : Int)))), (k0, .inl (cI, 12, .inl (fun j => iI ((K j : Nat) : Int)))), (p0, .inl (cI, 12, .inl (fun j => iI ((q j : Nat) : Int))))]) := va_D_same (w := ([(o0, .inr (0, [.long (pk a0), .long (pk a1), .long (pkn q w), .int (iI ((w : Nat) : Int))])), (u0, .inl (cJ, 1, .inr (.inl (g))))] ++ [(m0, .inr (1, [.int th, .ref t0, .ref k0, .ref p0, .int (iI ((w : Nat) : Int))])), (t0, .inl (cI, 24, .inl (fun j => iI ((tb a0 a1 j : Nat) : Int)))), (k0, .inl (cI, 12, .inl (fun j => iI ((K j : Nat) : Int)))), (p0, .inl (cI, 12, .inl (fun j => iI ((q j : Nat) : Int))))])) (Eq.trans (b := [o0, u0, m0, t0, k0, p0]) rfl rfl) hD
  refine va_forget hS.2.2 ?_
  have hS := va_S_nil hS
  refine lv_aload_n hx hb dL_law_1645 rfl (lv_at hl 2 rfl) ?_
  have hP2 : va_P (dC, dI) vwCl [(m0, .inr (1, [.int th, .ref t0, .ref k0, .ref p0, .int (iI ((w : Nat) : Int))])), (t0, .inl (cI, 24, .inl (fun j => iI ((tb a0 a1 j : Nat) : Int)))), (k0, .inl (cI, 12, .inl (fun j => iI ((K j : Nat) : Int)))), (p0, .inl (cI, 12, .inl (fun j => iI ((q j : Nat) : Int))))] H := va_P_r (w1 := [(o0, .inr (0, [.long (pk a0), .long (pk a1), .long (pkn q 0), .int (iI 0)])), (u0, .inl (cJ, 1, .inr (.inl (g))))]) (w2 := [(m0, .inr (1, [.int th, .ref t0, .ref k0, .ref p0, .int (iI ((w : Nat) : Int))])), (t0, .inl (cI, 24, .inl (fun j => iI ((tb a0 a1 j : Nat) : Int)))), (k0, .inl (cI, 12, .inl (fun j => iI ((K j : Nat) : Int)))), (p0, .inl (cI, 12, .inl (fun j => iI ((q j : Nat) : Int))))]) hP
  have hK2 := hK.sub (tys' := [(cI, .int)]) [1] rfl
  have hf9 : cells + 0 ≤ room_1.cells ∧ slots + 0 ≤ room_1.slots := ⟨by show cells + 0 ≤ 1036; omega, by show slots + 0 ≤ 8286; omega⟩
  have hD2 : va_D (LA s) [(m0, .inr (1, [.int th, .ref t0, .ref k0, .ref p0, .int (iI ((w : Nat) : Int))])), (t0, .inl (cI, 24, .inl (fun j => iI ((tb a0 a1 j : Nat) : Int)))), (k0, .inl (cI, 12, .inl (fun j => iI ((K j : Nat) : Int)))), (p0, .inl (cI, 12, .inl (fun j => iI ((q j : Nat) : Int))))] := va_D_r (w1 := [(o0, .inr (0, [.long (pk a0), .long (pk a1), .long (pkn q 0), .int (iI 0)])), (u0, .inl (cJ, 1, .inr (.inl (g))))]) (w2 := [(m0, .inr (1, [.int th, .ref t0, .ref k0, .ref p0, .int (iI ((w : Nat) : Int))])), (t0, .inl (cI, 24, .inl (fun j => iI ((tb a0 a1 j : Nat) : Int)))), (k0, .inl (cI, 12, .inl (fun j => iI ((K j : Nat) : Int)))), (p0, .inl (cI, 12, .inl (fun j => iI ((q j : Nat) : Int))))]) hD
  refine wr_call (va_runV (As := []) (rest := [.int (iI ((w : Nat) : Int))]) ⟨hx, hb, hml, hown, hts⟩ (mX1_erase_ok l dC dI cI m0 t0 k0 p0 a0 a1 K q th w hp0.1 hp1.1 hw hq ) (cwV 0 hts gL_law_X1_erase rfl rfl rfl hvX1_erase ⟨(Nat.le_of_ble_eq_true rfl), (Nat.le_of_ble_eq_true rfl)⟩) (bD_pre (ci := 1) (q0 := 0) hK2 hP2 hD2 rfl rfl rfl) rfl rfl hl.1 rfl (lv_room (Nat.le_of_ble_eq_true rfl)) dL_law_1646 hf9) hS (fun q9 h => inW_A hD2 h) (fun H locs hPn hz hk hS => ?_)
  have hP : va_P (dC, dI) vwCl ([(o0, .inr (0, [.long (pk a0), .long (pk a1), .long (pkn q 0), .int (iI 0)])), (u0, .inl (cJ, 1, .inr (.inl (g))))] ++ [(m0, .inr (1, [.int (iI 0), .ref t0, .ref k0, .ref p0, .int (iI 0)])), (t0, .inl (cI, 24, .inl (fun j => iI ((tb a0 a1 j : Nat) : Int)))), (k0, .inl (cI, 12, .inl (fun j => iI ((K j : Nat) : Int)))), (p0, .inl (cI, 12, .inl (fun j => iI ((q j : Nat) : Int))))]) H := wj_r (w1 := [(o0, .inr (0, [.long (pk a0), .long (pk a1), .long (pkn q 0), .int (iI 0)])), (u0, .inl (cJ, 1, .inr (.inl (g))))]) (w2 := [(m0, .inr (1, [.int th, .ref t0, .ref k0, .ref p0, .int (iI ((w : Nat) : Int))])), (t0, .inl (cI, 24, .inl (fun j => iI ((tb a0 a1 j : Nat) : Int)))), (k0, .inl (cI, 12, .inl (fun j => iI ((K j : Nat) : Int)))), (p0, .inl (cI, 12, .inl (fun j => iI ((q j : Nat) : Int))))]) (w2' := [(m0, .inr (1, [.int (iI 0), .ref t0, .ref k0, .ref p0, .int (iI 0)])), (t0, .inl (cI, 24, .inl (fun j => iI ((tb a0 a1 j : Nat) : Int)))), (k0, .inl (cI, 12, .inl (fun j => iI ((K j : Nat) : Int)))), (p0, .inl (cI, 12, .inl (fun j => iI ((q j : Nat) : Int))))]) hP hD hPn hk
  have hD : va_D (LA s) ([(o0, .inr (0, [.long (pk a0), .long (pk a1), .long (pkn q 0), .int (iI 0)])), (u0, .inl (cJ, 1, .inr (.inl (g))))] ++ [(m0, .inr (1, [.int (iI 0), .ref t0, .ref k0, .ref p0, .int (iI 0)])), (t0, .inl (cI, 24, .inl (fun j => iI ((tb a0 a1 j : Nat) : Int)))), (k0, .inl (cI, 12, .inl (fun j => iI ((K j : Nat) : Int)))), (p0, .inl (cI, 12, .inl (fun j => iI ((q j : Nat) : Int))))]) := va_D_same (w := ([(o0, .inr (0, [.long (pk a0), .long (pk a1), .long (pkn q 0), .int (iI 0)])), (u0, .inl (cJ, 1, .inr (.inl (g))))] ++ [(m0, .inr (1, [.int th, .ref t0, .ref k0, .ref p0, .int (iI ((w : Nat) : Int))])), (t0, .inl (cI, 24, .inl (fun j => iI ((tb a0 a1 j : Nat) : Int)))), (k0, .inl (cI, 12, .inl (fun j => iI ((K j : Nat) : Int)))), (p0, .inl (cI, 12, .inl (fun j => iI ((q j : Nat) : Int))))])) (Eq.trans (b := [o0, u0, m0, t0, k0, p0]) rfl rfl) hD
  refine va_forget hS.2.2 ?_
  have hS := va_S_nil hS
  refine ib_icmp_eq (tgt := 1833) hx hb dL_law_1649 (by decide) ⟨by omega, by omega⟩ ⟨by omega, by omega⟩ (fun _ => ?_) (fun h => absurd rfl h)
  refine W.widen (k := cells + 1) (n := slots + 6) (by omega) (by omega) ?_
  exact kk a0 a1 q K 0 (iI 0) (g) H ls ⟨hp0, hp1, (Nat.zero_le 12), (fun i h => absurd h (Nat.not_lt_zero i)), (fun i j h => absurd h (Nat.not_lt_zero i)), hP, hD, hS⟩ (lv_sub hl [0, 1, 2, 3, 4] rfl)

set_option maxHeartbeats 4000000 in
set_option maxRecDepth 100000 in
theorem law_c22 {p : Program} {l : Launch} {e : Env} {s : State} {m : MethodId} {below : List Frame} {meth : Method} {c : Code} {Q : State → Prop} {dC : Nat → ClassId} {dI : Nat → Nat → Nat} {cI cJ : ClassId} {b L : Nat} {xs : Nat → Int32} (C : LC p l s m meth c (dC, dI) cI cJ b L xs) {o0 u0 m0 t0 k0 p0 : Nat} {a0 a1 q K : Nat → Nat} {w : Nat} {th : Int32} {g : Nat → Int64} {H : Heap} (hI : LI s (dC, dI) cI cJ o0 u0 m0 t0 k0 p0 a0 a1 q K w th g H) {n cells slots : Nat} (hc1 : cells + 1 ≤ 1036) (hc2 : slots + 6 ≤ 8286) (hn : 5 * n + 5 ≤ L) (hL : L ≤ 2560) {ls : Array Slot} (hl : lv_has ls 8 [(0, .ref b), (1, .ref o0), (2, .ref m0), (3, .ref u0), (4, .int (iI ((5 * n : Nat) : Int)))])
    (kk : ∀ (a0 a1 q K : Nat → Nat) (w : Nat) (th : Int32) (g : Nat → Int64) (H : Heap) (ls : Array Slot), LI s (dC, dI) cI cJ o0 u0 m0 t0 k0 p0 a0 a1 q K w th g H → lv_has ls 8 [(0, .ref b), (1, .ref o0), (2, .ref m0), (3, .ref u0), (4, .int (iI ((5 * n : Nat) : Int)))] → W p l e room_1 s m #[Value.ref b] below meth c H [] (cells + 1) (slots + 6) Q (F0 m 1833 ls [])) : W p l e room_1 s m #[Value.ref b] below meth c H [] cells slots Q (F0 m 1654 ls []) := by
  obtain ⟨hx, hb, hml, hown, hts, hK, hG0, hN, hX, hbl, hfl⟩ := C
  obtain ⟨hp0, hp1, hw, hq, hqd, hP, hD, hS⟩ := hI
  have hbA : ¬ LA s b := Nat.not_le.mpr hbl
  obtain ⟨z0, hz0, e0⟩ := ex_i (xs (5 * n + 1))
  have hza0 := hz0.1
  have hzb0 := hz0.2
  by_cases b1 : ¬ (z0 = 0 ∨ z0 = 1)
  · skip
    refine lv_aload_n hx hb dL_law_1654 rfl (lv_at hl 1 rfl) ?_
    refine lv_aload_n hx hb dL_law_1655 rfl (lv_at hl 0 rfl) ?_
    refine lv_iload hx hb dL_law_1656 (lv_at hl 4 rfl) ?_
    refine ib_const hx hb dL_law_1658 ?_
    refine ib_add (z := (((5 * n) + 1 : Nat) : Int)) hx hb dL_law_1659 (by omega) ?_
    refine st_i (y := iI ((5 * n + 1 : Nat) : Int)) (congrArg iI (by omega)) ?_
    refine va_sld (b := b) (L := L) (xs := xs) hx hb hX hbl hbA hS (iI_vp (i := 5 * n + 1) (by omega) (by omega)) dL_law_1660 ?_
    refine st_i (y := iI z0) ((congrArg xs (iI_cl (by omega))).trans e0) ?_
    refine lv_aload_n hx hb dL_law_1661 rfl (lv_at hl 3 rfl) ?_
    have hf9 : cells + 1 ≤ room_1.cells ∧ slots + 6 ≤ room_1.slots := ⟨by show cells + 1 ≤ 1036; omega, by show slots + 6 ≤ 8286; omega⟩
    have hP1 : va_P (dC, dI) vwCl [(o0, .inr (0, [.long (pk a0), .long (pk a1), .long (pkn q w), .int (iI ((w : Nat) : Int))]))] H := va_P_l (w1 := [(o0, .inr (0, [.long (pk a0), .long (pk a1), .long (pkn q w), .int (iI ((w : Nat) : Int))]))]) (w2 := [(u0, .inl (cJ, 1, .inr (.inl (g)))), (m0, .inr (1, [.int th, .ref t0, .ref k0, .ref p0, .int (iI ((w : Nat) : Int))])), (t0, .inl (cI, 24, .inl (fun j => iI ((tb a0 a1 j : Nat) : Int)))), (k0, .inl (cI, 12, .inl (fun j => iI ((K j : Nat) : Int)))), (p0, .inl (cI, 12, .inl (fun j => iI ((q j : Nat) : Int))))]) hP
    have hK1 := hK.sub (tys' := []) [] rfl
    refine rdK_call (vx_runSW (As := [.ref o0, .int (iI z0), .ref u0]) (rest := []) ⟨hx, hb, hml, hown, hts⟩ (mL_formsWithPhrase_x1 l hfl dC dI o0 a0 a1 q w hp0 hp1 hw hq hqd u0 z0 hz0 b1) (vx_cwSW 3 hts gL_law_L_formsWithPhrase rfl rfl rfl hdL_formsWithPhrase ⟨(Nat.le_of_ble_eq_true rfl), (Nat.le_of_ble_eq_true rfl)⟩) (bY_preS hK1 hP1 (hG0.at hS) hN) rfl rfl hl.1 rfl (lv_room (Nat.le_of_ble_eq_true rfl)) dL_law_1662 hf9) (fun H hz hk => ?_)
    have hP : va_P (dC, dI) vwCl ([(o0, .inr (0, [.long (pk a0), .long (pk a1), .long (pkn q w), .int (iI ((w : Nat) : Int))])), (u0, .inl (cJ, 1, .inr (.inl (g))))] ++ [(m0, .inr (1, [.int th, .ref t0, .ref k0, .ref p0, .int (iI ((w : Nat) : Int))])), (t0, .inl (cI, 24, .inl (fun j => iI ((tb a0 a1 j : Nat) : Int)))), (k0, .inl (cI, 12, .inl (fun j => iI ((K j : Nat) : Int)))), (p0, .inl (cI, 12, .inl (fun j => iI ((q j : Nat) : Int))))]) H := va_P_new hP hk
    have hS := va_S_new hS hz hk
    refine lv_istore (lv' := [(5, .int (iI 1)), (0, .ref b), (1, .ref o0), (2, .ref m0), (3, .ref u0), (4, .int (iI ((5 * n : Nat) : Int)))]) hx hb dL_law_1665 hl (by decide) rfl (fun ls hl => ?_)
    refine lv_aload_n hx hb dL_law_1667 rfl (lv_at hl 3 rfl) ?_
    refine lv_aload_n hx hb dL_law_1668 rfl (lv_at hl 1 rfl) ?_
    refine lv_iload hx hb dL_law_1669 (lv_at hl 5 rfl) ?_
    refine ib_const hx hb dL_law_1671 ?_
    refine ib_add (z := (((5 * n) + 1 : Nat) : Int)) hx hb dL_law_1672 (by omega) ?_
    refine st_i (y := iI ((5 * n + 1 : Nat) : Int)) (congrArg iI (by omega)) ?_
    refine va_sld (b := b) (L := L) (xs := xs) hx hb hX hbl hbA hS (iI_vp (i := 5 * n + 1) (by omega) (by omega)) dL_law_1673 ?_
    refine st_i (y := iI z0) ((congrArg xs (iI_cl (by omega))).trans e0) ?_
    have hP2 : va_P (dC, dI) vwCl [(m0, .inr (1, [.int th, .ref t0, .ref k0, .ref p0, .int (iI ((w : Nat) : Int))])), (t0, .inl (cI, 24, .inl (fun j => iI ((tb a0 a1 j : Nat) : Int)))), (k0, .inl (cI, 12, .inl (fun j => iI ((K j : Nat) : Int)))), (p0, .inl (cI, 12, .inl (fun j => iI ((q j : Nat) : Int))))] H := va_P_r (w1 := [(o0, .inr (0, [.long (pk a0), .long (pk a1), .long (pkn q w), .int (iI ((w : Nat) : Int))])), (u0, .inl (cJ, 1, .inr (.inl (g))))]) (w2 := [(m0, .inr (1, [.int th, .ref t0, .ref k0, .ref p0, .int (iI ((w : Nat) : Int))])), (t0, .inl (cI, 24, .inl (fun j => iI ((tb a0 a1 j : Nat) : Int)))), (k0, .inl (cI, 12, .inl (fun j => iI ((K j : Nat) : Int)))), (p0, .inl (cI, 12, .inl (fun j => iI ((q j : Nat) : Int))))]) hP
    have hK2 := hK.sub (tys' := [(cI, .int)]) [1] rfl
    have hf9 : cells + 1 + 0 ≤ room_1.cells ∧ slots + 6 + 0 ≤ room_1.slots := ⟨by show cells + 1 + 0 ≤ 1036; omega, by show slots + 6 + 0 ≤ 8286; omega⟩
    have hD2 : va_D (LA s) [(m0, .inr (1, [.int th, .ref t0, .ref k0, .ref p0, .int (iI ((w : Nat) : Int))])), (t0, .inl (cI, 24, .inl (fun j => iI ((tb a0 a1 j : Nat) : Int)))), (k0, .inl (cI, 12, .inl (fun j => iI ((K j : Nat) : Int)))), (p0, .inl (cI, 12, .inl (fun j => iI ((q j : Nat) : Int))))] := va_D_r (w1 := [(o0, .inr (0, [.long (pk a0), .long (pk a1), .long (pkn q w), .int (iI ((w : Nat) : Int))])), (u0, .inl (cJ, 1, .inr (.inl (g))))]) (w2 := [(m0, .inr (1, [.int th, .ref t0, .ref k0, .ref p0, .int (iI ((w : Nat) : Int))])), (t0, .inl (cI, 24, .inl (fun j => iI ((tb a0 a1 j : Nat) : Int)))), (k0, .inl (cI, 12, .inl (fun j => iI ((K j : Nat) : Int)))), (p0, .inl (cI, 12, .inl (fun j => iI ((q j : Nat) : Int))))]) hD
    refine wr_call (va_runV (As := [.int (iI z0)]) (rest := []) ⟨hx, hb, hml, hown, hts⟩ (mX1_formsWithPhrase_x1 l dC dI cI m0 t0 k0 p0 a0 a1 K q th w hp0.1 hp1.1 hw hq z0 hz0 b1) (cwV 1 hts gL_law_X1_formsWithPhrase rfl rfl rfl hvX1_formsWithPhrase ⟨(Nat.le_of_ble_eq_true rfl), (Nat.le_of_ble_eq_true rfl)⟩) (bD_pre (ci := 1) (q0 := 0) hK2 hP2 hD2 rfl rfl rfl) rfl rfl hl.1 rfl (lv_room (Nat.le_of_ble_eq_true rfl)) dL_law_1674 hf9) hS (fun q9 h => inW_A hD2 h) (fun H locs hPn hz hk hS => ?_)
    have hP : va_P (dC, dI) vwCl ([(o0, .inr (0, [.long (pk a0), .long (pk a1), .long (pkn q w), .int (iI ((w : Nat) : Int))])), (u0, .inl (cJ, 1, .inr (.inl (g))))] ++ [(m0, .inr (1, [.int (iI 1), .ref t0, .ref k0, .ref p0, .int (iI ((w : Nat) : Int))])), (t0, .inl (cI, 24, .inl (fun j => iI ((tb a0 a1 j : Nat) : Int)))), (k0, .inl (cI, 12, .inl (fun j => iI ((K j : Nat) : Int)))), (p0, .inl (cI, 12, .inl (fun j => iI ((q j : Nat) : Int))))]) H := wj_r (w1 := [(o0, .inr (0, [.long (pk a0), .long (pk a1), .long (pkn q w), .int (iI ((w : Nat) : Int))])), (u0, .inl (cJ, 1, .inr (.inl (g))))]) (w2 := [(m0, .inr (1, [.int th, .ref t0, .ref k0, .ref p0, .int (iI ((w : Nat) : Int))])), (t0, .inl (cI, 24, .inl (fun j => iI ((tb a0 a1 j : Nat) : Int)))), (k0, .inl (cI, 12, .inl (fun j => iI ((K j : Nat) : Int)))), (p0, .inl (cI, 12, .inl (fun j => iI ((q j : Nat) : Int))))]) (w2' := [(m0, .inr (1, [.int (iI 1), .ref t0, .ref k0, .ref p0, .int (iI ((w : Nat) : Int))])), (t0, .inl (cI, 24, .inl (fun j => iI ((tb a0 a1 j : Nat) : Int)))), (k0, .inl (cI, 12, .inl (fun j => iI ((K j : Nat) : Int)))), (p0, .inl (cI, 12, .inl (fun j => iI ((q j : Nat) : Int))))]) hP hD hPn hk
    have hD : va_D (LA s) ([(o0, .inr (0, [.long (pk a0), .long (pk a1), .long (pkn q w), .int (iI ((w : Nat) : Int))])), (u0, .inl (cJ, 1, .inr (.inl (g))))] ++ [(m0, .inr (1, [.int (iI 1), .ref t0, .ref k0, .ref p0, .int (iI ((w : Nat) : Int))])), (t0, .inl (cI, 24, .inl (fun j => iI ((tb a0 a1 j : Nat) : Int)))), (k0, .inl (cI, 12, .inl (fun j => iI ((K j : Nat) : Int)))), (p0, .inl (cI, 12, .inl (fun j => iI ((q j : Nat) : Int))))]) := va_D_same (w := ([(o0, .inr (0, [.long (pk a0), .long (pk a1), .long (pkn q w), .int (iI ((w : Nat) : Int))])), (u0, .inl (cJ, 1, .inr (.inl (g))))] ++ [(m0, .inr (1, [.int th, .ref t0, .ref k0, .ref p0, .int (iI ((w : Nat) : Int))])), (t0, .inl (cI, 24, .inl (fun j => iI ((tb a0 a1 j : Nat) : Int)))), (k0, .inl (cI, 12, .inl (fun j => iI ((K j : Nat) : Int)))), (p0, .inl (cI, 12, .inl (fun j => iI ((q j : Nat) : Int))))])) (Eq.trans (b := [o0, u0, m0, t0, k0, p0]) rfl rfl) hD
    refine va_forget hS.2.2 ?_
    have hS := va_S_nil hS
    refine lv_lstore (lv' := [(6, .long (0 : Int64)), (5, .int (iI 1)), (0, .ref b), (1, .ref o0), (2, .ref m0), (3, .ref u0), (4, .int (iI ((5 * n : Nat) : Int)))]) hx hb dL_law_1677 hl (by decide) rfl (fun ls hl => ?_)
    refine lv_aload_n hx hb dL_law_1679 rfl (lv_at hl 4 rfl) ?_
    have hP2 : va_P (dC, dI) vwCl [(m0, .inr (1, [.int (iI 1), .ref t0, .ref k0, .ref p0, .int (iI ((w : Nat) : Int))])), (t0, .inl (cI, 24, .inl (fun j => iI ((tb a0 a1 j : Nat) : Int)))), (k0, .inl (cI, 12, .inl (fun j => iI ((K j : Nat) : Int)))), (p0, .inl (cI, 12, .inl (fun j => iI ((q j : Nat) : Int))))] H := va_P_r (w1 := [(o0, .inr (0, [.long (pk a0), .long (pk a1), .long (pkn q w), .int (iI ((w : Nat) : Int))])), (u0, .inl (cJ, 1, .inr (.inl (g))))]) (w2 := [(m0, .inr (1, [.int (iI 1), .ref t0, .ref k0, .ref p0, .int (iI ((w : Nat) : Int))])), (t0, .inl (cI, 24, .inl (fun j => iI ((tb a0 a1 j : Nat) : Int)))), (k0, .inl (cI, 12, .inl (fun j => iI ((K j : Nat) : Int)))), (p0, .inl (cI, 12, .inl (fun j => iI ((q j : Nat) : Int))))]) hP
    have hK2 := hK.sub (tys' := [(cI, .int)]) [1] rfl
    have hf9 : cells + 1 + 0 ≤ room_1.cells ∧ slots + 6 + 0 ≤ room_1.slots := ⟨by show cells + 1 + 0 ≤ 1036; omega, by show slots + 6 + 0 ≤ 8286; omega⟩
    refine rd_call (va_runV (As := []) (rest := []) ⟨hx, hb, hml, hown, hts⟩ (mX1_thrown l dC dI cI m0 t0 k0 p0 a0 a1 K q (iI 1) w hp0.1 hp1.1 hw hq) (cwV 0 hts gL_law_X1_thrown rfl rfl rfl hvX1_thrown ⟨(Nat.le_of_ble_eq_true rfl), (Nat.le_of_ble_eq_true rfl)⟩) (bW_pre (ci := 1) (q0 := 0) hK2 hP2 rfl rfl rfl) rfl rfl hl.1 rfl (lv_room (Nat.le_of_ble_eq_true rfl)) dL_law_1680 hf9) ?_
    refine lv_iload hx hb dL_law_1683 (lv_at hl 1 rfl) ?_
    refine ib_icmp_eq (tgt := 1690) hx hb dL_law_1685 (by decide) ⟨by omega, by omega⟩ ⟨by omega, by omega⟩ (fun c_1685 => ?_) (fun c_1685 => absurd c_1685 (by decide))
    refine lv_iload hx hb dL_law_1690 (lv_at hl 1 rfl) ?_
    refine ib_if_ne (tgt := 1706) hx hb dL_law_1692 (by decide) ⟨by omega, by omega⟩ (fun c_1692 => ?_) (fun c_1692 => absurd c_1692 (by decide))
    refine lv_goto (tgt := 1833) hx hb dL_law_1706 (by decide) ?_
    exact kk a0 a1 q K w (iI 1) (g) H ls ⟨hp0, hp1, hw, hq, hqd, hP, hD, hS⟩ (lv_sub hl [2, 3, 4, 5, 6] rfl)
  obtain ⟨r, hn0, rfl⟩ := nat_of (z := z0) (k := 4095) (by omega)
  refine lv_aload_n hx hb dL_law_1654 rfl (lv_at hl 1 rfl) ?_
  refine lv_aload_n hx hb dL_law_1655 rfl (lv_at hl 0 rfl) ?_
  refine lv_iload hx hb dL_law_1656 (lv_at hl 4 rfl) ?_
  refine ib_const hx hb dL_law_1658 ?_
  refine ib_add (z := (((5 * n) + 1 : Nat) : Int)) hx hb dL_law_1659 (by omega) ?_
  refine st_i (y := iI ((5 * n + 1 : Nat) : Int)) (congrArg iI (by omega)) ?_
  refine va_sld (b := b) (L := L) (xs := xs) hx hb hX hbl hbA hS (iI_vp (i := 5 * n + 1) (by omega) (by omega)) dL_law_1660 ?_
  refine st_i (y := iI ((r : Nat) : Int)) ((congrArg xs (iI_cl (by omega))).trans e0) ?_
  refine lv_aload_n hx hb dL_law_1661 rfl (lv_at hl 3 rfl) ?_
  have hf9 : cells + 0 ≤ room_1.cells ∧ slots + 0 ≤ room_1.slots := ⟨by show cells + 0 ≤ 1036; omega, by show slots + 0 ≤ 8286; omega⟩
  have hP1 : va_P (dC, dI) vwCl [(o0, .inr (0, [.long (pk a0), .long (pk a1), .long (pkn q w), .int (iI ((w : Nat) : Int))])), (u0, .inl (cJ, 1, .inr (.inl (g))))] H := va_P_l (w1 := [(o0, .inr (0, [.long (pk a0), .long (pk a1), .long (pkn q w), .int (iI ((w : Nat) : Int))])), (u0, .inl (cJ, 1, .inr (.inl (g))))]) (w2 := [(m0, .inr (1, [.int th, .ref t0, .ref k0, .ref p0, .int (iI ((w : Nat) : Int))])), (t0, .inl (cI, 24, .inl (fun j => iI ((tb a0 a1 j : Nat) : Int)))), (k0, .inl (cI, 12, .inl (fun j => iI ((K j : Nat) : Int)))), (p0, .inl (cI, 12, .inl (fun j => iI ((q j : Nat) : Int))))]) hP
  have hD1 : va_D (LA s) [(o0, .inr (0, [.long (pk a0), .long (pk a1), .long (pkn q w), .int (iI ((w : Nat) : Int))])), (u0, .inl (cJ, 1, .inr (.inl (g))))] := va_D_l (w1 := [(o0, .inr (0, [.long (pk a0), .long (pk a1), .long (pkn q w), .int (iI ((w : Nat) : Int))])), (u0, .inl (cJ, 1, .inr (.inl (g))))]) (w2 := [(m0, .inr (1, [.int th, .ref t0, .ref k0, .ref p0, .int (iI ((w : Nat) : Int))])), (t0, .inl (cI, 24, .inl (fun j => iI ((tb a0 a1 j : Nat) : Int)))), (k0, .inl (cI, 12, .inl (fun j => iI ((K j : Nat) : Int)))), (p0, .inl (cI, 12, .inl (fun j => iI ((q j : Nat) : Int))))]) hD
  have hK1 := hK.sub (tys' := [(cJ, .long)]) [0] rfl
  refine wr_call (vx_runSW (As := [.ref o0, .int (iI ((r : Nat) : Int)), .ref u0]) (rest := []) ⟨hx, hb, hml, hown, hts⟩ (mL_formsWithPhrase_ok l dC dI cJ o0 u0 a0 a1 q w hp0 hp1 hw hq hqd g r (by omega)) (vx_cwSW 3 hts gL_law_L_formsWithPhrase rfl rfl rfl hdL_formsWithPhrase ⟨(Nat.le_of_ble_eq_true rfl), (Nat.le_of_ble_eq_true rfl)⟩) (bD_preS hK1 hP1 hD1) rfl rfl hl.1 rfl (lv_room (Nat.le_of_ble_eq_true rfl)) dL_law_1662 hf9) hS (fun q9 h => inW_A hD1 h) (fun H locs hPn hz hk hS => ?_)
  have hP : va_P (dC, dI) vwCl ([(o0, .inr (0, [.long (pk a0), .long (pk a1), .long (pkn q w), .int (iI ((w : Nat) : Int))])), (u0, .inl (cJ, 1, .inr (.inl (fun _ => fpL (rw_ r a0 a1) q w 48))))] ++ [(m0, .inr (1, [.int th, .ref t0, .ref k0, .ref p0, .int (iI ((w : Nat) : Int))])), (t0, .inl (cI, 24, .inl (fun j => iI ((tb a0 a1 j : Nat) : Int)))), (k0, .inl (cI, 12, .inl (fun j => iI ((K j : Nat) : Int)))), (p0, .inl (cI, 12, .inl (fun j => iI ((q j : Nat) : Int))))]) H := wj_l (w1 := [(o0, .inr (0, [.long (pk a0), .long (pk a1), .long (pkn q w), .int (iI ((w : Nat) : Int))])), (u0, .inl (cJ, 1, .inr (.inl (g))))]) (w2 := [(m0, .inr (1, [.int th, .ref t0, .ref k0, .ref p0, .int (iI ((w : Nat) : Int))])), (t0, .inl (cI, 24, .inl (fun j => iI ((tb a0 a1 j : Nat) : Int)))), (k0, .inl (cI, 12, .inl (fun j => iI ((K j : Nat) : Int)))), (p0, .inl (cI, 12, .inl (fun j => iI ((q j : Nat) : Int))))]) (w1' := [(o0, .inr (0, [.long (pk a0), .long (pk a1), .long (pkn q w), .int (iI ((w : Nat) : Int))])), (u0, .inl (cJ, 1, .inr (.inl (fun _ => fpL (rw_ r a0 a1) q w 48))))]) hP hD hPn hk
  have hD : va_D (LA s) ([(o0, .inr (0, [.long (pk a0), .long (pk a1), .long (pkn q w), .int (iI ((w : Nat) : Int))])), (u0, .inl (cJ, 1, .inr (.inl (fun _ => fpL (rw_ r a0 a1) q w 48))))] ++ [(m0, .inr (1, [.int th, .ref t0, .ref k0, .ref p0, .int (iI ((w : Nat) : Int))])), (t0, .inl (cI, 24, .inl (fun j => iI ((tb a0 a1 j : Nat) : Int)))), (k0, .inl (cI, 12, .inl (fun j => iI ((K j : Nat) : Int)))), (p0, .inl (cI, 12, .inl (fun j => iI ((q j : Nat) : Int))))]) := va_D_same (w := ([(o0, .inr (0, [.long (pk a0), .long (pk a1), .long (pkn q w), .int (iI ((w : Nat) : Int))])), (u0, .inl (cJ, 1, .inr (.inl (g))))] ++ [(m0, .inr (1, [.int th, .ref t0, .ref k0, .ref p0, .int (iI ((w : Nat) : Int))])), (t0, .inl (cI, 24, .inl (fun j => iI ((tb a0 a1 j : Nat) : Int)))), (k0, .inl (cI, 12, .inl (fun j => iI ((K j : Nat) : Int)))), (p0, .inl (cI, 12, .inl (fun j => iI ((q j : Nat) : Int))))])) (Eq.trans (b := [o0, u0, m0, t0, k0, p0]) rfl rfl) hD
  refine va_forget hS.2.2 ?_
  have hS := va_S_nil hS
  refine W.widen (k := cells + 1) (n := slots + 6) (by omega) (by omega) ?_
  refine lv_istore (lv' := [(5, .int (iI 0)), (0, .ref b), (1, .ref o0), (2, .ref m0), (3, .ref u0), (4, .int (iI ((5 * n : Nat) : Int)))]) hx hb dL_law_1665 hl (by decide) rfl (fun ls hl => ?_)
  refine lv_aload_n hx hb dL_law_1667 rfl (lv_at hl 3 rfl) ?_
  refine lv_aload_n hx hb dL_law_1668 rfl (lv_at hl 1 rfl) ?_
  refine lv_iload hx hb dL_law_1669 (lv_at hl 5 rfl) ?_
  refine ib_const hx hb dL_law_1671 ?_
  refine ib_add (z := (((5 * n) + 1 : Nat) : Int)) hx hb dL_law_1672 (by omega) ?_
  refine st_i (y := iI ((5 * n + 1 : Nat) : Int)) (congrArg iI (by omega)) ?_
  refine va_sld (b := b) (L := L) (xs := xs) hx hb hX hbl hbA hS (iI_vp (i := 5 * n + 1) (by omega) (by omega)) dL_law_1673 ?_
  refine st_i (y := iI ((r : Nat) : Int)) ((congrArg xs (iI_cl (by omega))).trans e0) ?_
  have hP2 : va_P (dC, dI) vwCl [(m0, .inr (1, [.int th, .ref t0, .ref k0, .ref p0, .int (iI ((w : Nat) : Int))])), (t0, .inl (cI, 24, .inl (fun j => iI ((tb a0 a1 j : Nat) : Int)))), (k0, .inl (cI, 12, .inl (fun j => iI ((K j : Nat) : Int)))), (p0, .inl (cI, 12, .inl (fun j => iI ((q j : Nat) : Int))))] H := va_P_r (w1 := [(o0, .inr (0, [.long (pk a0), .long (pk a1), .long (pkn q w), .int (iI ((w : Nat) : Int))])), (u0, .inl (cJ, 1, .inr (.inl (fun _ => fpL (rw_ r a0 a1) q w 48))))]) (w2 := [(m0, .inr (1, [.int th, .ref t0, .ref k0, .ref p0, .int (iI ((w : Nat) : Int))])), (t0, .inl (cI, 24, .inl (fun j => iI ((tb a0 a1 j : Nat) : Int)))), (k0, .inl (cI, 12, .inl (fun j => iI ((K j : Nat) : Int)))), (p0, .inl (cI, 12, .inl (fun j => iI ((q j : Nat) : Int))))]) hP
  have hK2 := hK.sub (tys' := [(cI, .int)]) [1] rfl
  have hf9 : cells + 1 + 0 ≤ room_1.cells ∧ slots + 6 + 0 ≤ room_1.slots := ⟨by show cells + 1 + 0 ≤ 1036; omega, by show slots + 6 + 0 ≤ 8286; omega⟩
  have hD2 : va_D (LA s) [(m0, .inr (1, [.int th, .ref t0, .ref k0, .ref p0, .int (iI ((w : Nat) : Int))])), (t0, .inl (cI, 24, .inl (fun j => iI ((tb a0 a1 j : Nat) : Int)))), (k0, .inl (cI, 12, .inl (fun j => iI ((K j : Nat) : Int)))), (p0, .inl (cI, 12, .inl (fun j => iI ((q j : Nat) : Int))))] := va_D_r (w1 := [(o0, .inr (0, [.long (pk a0), .long (pk a1), .long (pkn q w), .int (iI ((w : Nat) : Int))])), (u0, .inl (cJ, 1, .inr (.inl (fun _ => fpL (rw_ r a0 a1) q w 48))))]) (w2 := [(m0, .inr (1, [.int th, .ref t0, .ref k0, .ref p0, .int (iI ((w : Nat) : Int))])), (t0, .inl (cI, 24, .inl (fun j => iI ((tb a0 a1 j : Nat) : Int)))), (k0, .inl (cI, 12, .inl (fun j => iI ((K j : Nat) : Int)))), (p0, .inl (cI, 12, .inl (fun j => iI ((q j : Nat) : Int))))]) hD
  refine wr_call (va_runV (As := [.int (iI ((r : Nat) : Int))]) (rest := []) ⟨hx, hb, hml, hown, hts⟩ (mX1_formsWithPhrase_ok l dC dI cI m0 t0 k0 p0 a0 a1 K q th w hp0.1 hp1.1 hw hq r (by omega)) (cwV 1 hts gL_law_X1_formsWithPhrase rfl rfl rfl hvX1_formsWithPhrase ⟨(Nat.le_of_ble_eq_true rfl), (Nat.le_of_ble_eq_true rfl)⟩) (bD_pre (ci := 1) (q0 := 0) hK2 hP2 hD2 rfl rfl rfl) rfl rfl hl.1 rfl (lv_room (Nat.le_of_ble_eq_true rfl)) dL_law_1674 hf9) hS (fun q9 h => inW_A hD2 h) (fun H locs hPn hz hk hS => ?_)
  have hP : va_P (dC, dI) vwCl ([(o0, .inr (0, [.long (pk a0), .long (pk a1), .long (pkn q w), .int (iI ((w : Nat) : Int))])), (u0, .inl (cJ, 1, .inr (.inl (fun _ => fpL (rw_ r a0 a1) q w 48))))] ++ [(m0, .inr (1, [.int (iI 0), .ref t0, .ref k0, .ref p0, .int (iI ((w : Nat) : Int))])), (t0, .inl (cI, 24, .inl (fun j => iI ((tb a0 a1 j : Nat) : Int)))), (k0, .inl (cI, 12, .inl (fun j => iI ((K j : Nat) : Int)))), (p0, .inl (cI, 12, .inl (fun j => iI ((q j : Nat) : Int))))]) H := wj_r (w1 := [(o0, .inr (0, [.long (pk a0), .long (pk a1), .long (pkn q w), .int (iI ((w : Nat) : Int))])), (u0, .inl (cJ, 1, .inr (.inl (fun _ => fpL (rw_ r a0 a1) q w 48))))]) (w2 := [(m0, .inr (1, [.int th, .ref t0, .ref k0, .ref p0, .int (iI ((w : Nat) : Int))])), (t0, .inl (cI, 24, .inl (fun j => iI ((tb a0 a1 j : Nat) : Int)))), (k0, .inl (cI, 12, .inl (fun j => iI ((K j : Nat) : Int)))), (p0, .inl (cI, 12, .inl (fun j => iI ((q j : Nat) : Int))))]) (w2' := [(m0, .inr (1, [.int (iI 0), .ref t0, .ref k0, .ref p0, .int (iI ((w : Nat) : Int))])), (t0, .inl (cI, 24, .inl (fun j => iI ((tb a0 a1 j : Nat) : Int)))), (k0, .inl (cI, 12, .inl (fun j => iI ((K j : Nat) : Int)))), (p0, .inl (cI, 12, .inl (fun j => iI ((q j : Nat) : Int))))]) hP hD hPn hk
  have hD : va_D (LA s) ([(o0, .inr (0, [.long (pk a0), .long (pk a1), .long (pkn q w), .int (iI ((w : Nat) : Int))])), (u0, .inl (cJ, 1, .inr (.inl (fun _ => fpL (rw_ r a0 a1) q w 48))))] ++ [(m0, .inr (1, [.int (iI 0), .ref t0, .ref k0, .ref p0, .int (iI ((w : Nat) : Int))])), (t0, .inl (cI, 24, .inl (fun j => iI ((tb a0 a1 j : Nat) : Int)))), (k0, .inl (cI, 12, .inl (fun j => iI ((K j : Nat) : Int)))), (p0, .inl (cI, 12, .inl (fun j => iI ((q j : Nat) : Int))))]) := va_D_same (w := ([(o0, .inr (0, [.long (pk a0), .long (pk a1), .long (pkn q w), .int (iI ((w : Nat) : Int))])), (u0, .inl (cJ, 1, .inr (.inl (fun _ => fpL (rw_ r a0 a1) q w 48))))] ++ [(m0, .inr (1, [.int th, .ref t0, .ref k0, .ref p0, .int (iI ((w : Nat) : Int))])), (t0, .inl (cI, 24, .inl (fun j => iI ((tb a0 a1 j : Nat) : Int)))), (k0, .inl (cI, 12, .inl (fun j => iI ((K j : Nat) : Int)))), (p0, .inl (cI, 12, .inl (fun j => iI ((q j : Nat) : Int))))])) (Eq.trans (b := [o0, u0, m0, t0, k0, p0]) rfl rfl) hD
  refine va_forget hS.2.2 ?_
  have hS := va_S_nil hS
  refine lv_lstore (lv' := [(6, .long (fpL (rw_ r a0 a1) q w 48)), (5, .int (iI 0)), (0, .ref b), (1, .ref o0), (2, .ref m0), (3, .ref u0), (4, .int (iI ((5 * n : Nat) : Int)))]) hx hb dL_law_1677 hl (by decide) rfl (fun ls hl => ?_)
  refine lv_aload_n hx hb dL_law_1679 rfl (lv_at hl 4 rfl) ?_
  have hP2 : va_P (dC, dI) vwCl [(m0, .inr (1, [.int (iI 0), .ref t0, .ref k0, .ref p0, .int (iI ((w : Nat) : Int))])), (t0, .inl (cI, 24, .inl (fun j => iI ((tb a0 a1 j : Nat) : Int)))), (k0, .inl (cI, 12, .inl (fun j => iI ((K j : Nat) : Int)))), (p0, .inl (cI, 12, .inl (fun j => iI ((q j : Nat) : Int))))] H := va_P_r (w1 := [(o0, .inr (0, [.long (pk a0), .long (pk a1), .long (pkn q w), .int (iI ((w : Nat) : Int))])), (u0, .inl (cJ, 1, .inr (.inl (fun _ => fpL (rw_ r a0 a1) q w 48))))]) (w2 := [(m0, .inr (1, [.int (iI 0), .ref t0, .ref k0, .ref p0, .int (iI ((w : Nat) : Int))])), (t0, .inl (cI, 24, .inl (fun j => iI ((tb a0 a1 j : Nat) : Int)))), (k0, .inl (cI, 12, .inl (fun j => iI ((K j : Nat) : Int)))), (p0, .inl (cI, 12, .inl (fun j => iI ((q j : Nat) : Int))))]) hP
  have hK2 := hK.sub (tys' := [(cI, .int)]) [1] rfl
  have hf9 : cells + 1 + 0 ≤ room_1.cells ∧ slots + 6 + 0 ≤ room_1.slots := ⟨by show cells + 1 + 0 ≤ 1036; omega, by show slots + 6 + 0 ≤ 8286; omega⟩
  refine rd_call (va_runV (As := []) (rest := []) ⟨hx, hb, hml, hown, hts⟩ (mX1_thrown l dC dI cI m0 t0 k0 p0 a0 a1 K q (iI 0) w hp0.1 hp1.1 hw hq) (cwV 0 hts gL_law_X1_thrown rfl rfl rfl hvX1_thrown ⟨(Nat.le_of_ble_eq_true rfl), (Nat.le_of_ble_eq_true rfl)⟩) (bW_pre (ci := 1) (q0 := 0) hK2 hP2 rfl rfl rfl) rfl rfl hl.1 rfl (lv_room (Nat.le_of_ble_eq_true rfl)) dL_law_1680 hf9) ?_
  refine lv_iload hx hb dL_law_1683 (lv_at hl 1 rfl) ?_
  refine ib_icmp_eq (tgt := 1690) hx hb dL_law_1685 (by decide) ⟨by omega, by omega⟩ ⟨by omega, by omega⟩ (fun c_1685 => ?_) (fun c_1685 => absurd c_1685 (by decide))
  refine lv_iload hx hb dL_law_1690 (lv_at hl 1 rfl) ?_
  refine ib_if_ne (tgt := 1706) hx hb dL_law_1692 (by decide) ⟨by omega, by omega⟩ (fun c_1692 => absurd c_1692 (by decide)) (fun c_1692 => ?_)
  refine lv_aload_n hx hb dL_law_1695 rfl (lv_at hl 5 rfl) ?_
  refine ib_const hx hb dL_law_1696 ?_
  refine va_lald hx hb hK hP 1 0 rfl rfl vp0 dL_law_1697 ?_
  refine st_l (y := fpL (rw_ r a0 a1) q w 48) rfl ?_
  refine lv_lload hx hb dL_law_1698 (lv_at hl 0 rfl) ?_
  refine W.lcmp hx hb dL_law_1700 ?_
  refine bl_eq (tgt := 1706) hx hb dL_law_1701 (by decide) (fun _ => ?_) (fun h => absurd rfl h)
  refine lv_goto (tgt := 1833) hx hb dL_law_1706 (by decide) ?_
  exact kk a0 a1 q K w (iI 0) (fun _ => fpL (rw_ r a0 a1) q w 48) H ls ⟨hp0, hp1, hw, hq, hqd, hP, hD, hS⟩ (lv_sub hl [2, 3, 4, 5, 6] rfl)

set_option maxHeartbeats 4000000 in
set_option maxRecDepth 100000 in
theorem law_c23 {p : Program} {l : Launch} {e : Env} {s : State} {m : MethodId} {below : List Frame} {meth : Method} {c : Code} {Q : State → Prop} {dC : Nat → ClassId} {dI : Nat → Nat → Nat} {cI cJ : ClassId} {b L : Nat} {xs : Nat → Int32} (C : LC p l s m meth c (dC, dI) cI cJ b L xs) {o0 u0 m0 t0 k0 p0 : Nat} {a0 a1 q K : Nat → Nat} {w : Nat} {th : Int32} {g : Nat → Int64} {H : Heap} (hI : LI s (dC, dI) cI cJ o0 u0 m0 t0 k0 p0 a0 a1 q K w th g H) {n cells slots : Nat} (hc1 : cells + 1 ≤ 1036) (hc2 : slots + 6 ≤ 8286) (hn : 5 * n + 5 ≤ L) (hL : L ≤ 2560) {ls : Array Slot} (hl : lv_has ls 8 [(0, .ref b), (1, .ref o0), (2, .ref m0), (3, .ref u0), (4, .int (iI ((5 * n : Nat) : Int)))])
    (kk : ∀ (a0 a1 q K : Nat → Nat) (w : Nat) (th : Int32) (g : Nat → Int64) (H : Heap) (ls : Array Slot), LI s (dC, dI) cI cJ o0 u0 m0 t0 k0 p0 a0 a1 q K w th g H → lv_has ls 8 [(0, .ref b), (1, .ref o0), (2, .ref m0), (3, .ref u0), (4, .int (iI ((5 * n : Nat) : Int)))] → W p l e room_1 s m #[Value.ref b] below meth c H [] (cells + 1) (slots + 6) Q (F0 m 1833 ls [])) : W p l e room_1 s m #[Value.ref b] below meth c H [] cells slots Q (F0 m 1709 ls []) := by
  obtain ⟨hx, hb, hml, hown, hts, hK, hG0, hN, hX, hbl, hfl⟩ := C
  obtain ⟨hp0, hp1, hw, hq, hqd, hP, hD, hS⟩ := hI
  have hbA : ¬ LA s b := Nat.not_le.mpr hbl
  obtain ⟨z0, hz0, e0⟩ := ex_i (xs (5 * n + 1))
  obtain ⟨z1, hz1, e1⟩ := ex_i (xs (5 * n + 2))
  have hza0 := hz0.1
  have hzb0 := hz0.2
  have hza1 := hz1.1
  have hzb1 := hz1.2
  by_cases b1 : ¬ (z0 = 0 ∨ z0 = 1)
  · skip
    refine lv_aload_n hx hb dL_law_1709 rfl (lv_at hl 1 rfl) ?_
    refine lv_aload_n hx hb dL_law_1710 rfl (lv_at hl 0 rfl) ?_
    refine lv_iload hx hb dL_law_1711 (lv_at hl 4 rfl) ?_
    refine ib_const hx hb dL_law_1713 ?_
    refine ib_add (z := (((5 * n) + 1 : Nat) : Int)) hx hb dL_law_1714 (by omega) ?_
    refine st_i (y := iI ((5 * n + 1 : Nat) : Int)) (congrArg iI (by omega)) ?_
    refine va_sld (b := b) (L := L) (xs := xs) hx hb hX hbl hbA hS (iI_vp (i := 5 * n + 1) (by omega) (by omega)) dL_law_1715 ?_
    refine st_i (y := iI z0) ((congrArg xs (iI_cl (by omega))).trans e0) ?_
    refine lv_aload_n hx hb dL_law_1716 rfl (lv_at hl 0 rfl) ?_
    refine lv_iload hx hb dL_law_1717 (lv_at hl 4 rfl) ?_
    refine ib_const hx hb dL_law_1719 ?_
    refine ib_add (z := (((5 * n) + 2 : Nat) : Int)) hx hb dL_law_1720 (by omega) ?_
    refine st_i (y := iI ((5 * n + 2 : Nat) : Int)) (congrArg iI (by omega)) ?_
    refine va_sld (b := b) (L := L) (xs := xs) hx hb hX hbl hbA hS (iI_vp (i := 5 * n + 2) (by omega) (by omega)) dL_law_1721 ?_
    refine st_i (y := iI z1) ((congrArg xs (iI_cl (by omega))).trans e1) ?_
    refine lv_aload_n hx hb dL_law_1722 rfl (lv_at hl 3 rfl) ?_
    have hf9 : cells + 1 ≤ room_1.cells ∧ slots + 6 ≤ room_1.slots := ⟨by show cells + 1 ≤ 1036; omega, by show slots + 6 ≤ 8286; omega⟩
    have hP1 : va_P (dC, dI) vwCl [(o0, .inr (0, [.long (pk a0), .long (pk a1), .long (pkn q w), .int (iI ((w : Nat) : Int))]))] H := va_P_l (w1 := [(o0, .inr (0, [.long (pk a0), .long (pk a1), .long (pkn q w), .int (iI ((w : Nat) : Int))]))]) (w2 := [(u0, .inl (cJ, 1, .inr (.inl (g)))), (m0, .inr (1, [.int th, .ref t0, .ref k0, .ref p0, .int (iI ((w : Nat) : Int))])), (t0, .inl (cI, 24, .inl (fun j => iI ((tb a0 a1 j : Nat) : Int)))), (k0, .inl (cI, 12, .inl (fun j => iI ((K j : Nat) : Int)))), (p0, .inl (cI, 12, .inl (fun j => iI ((q j : Nat) : Int))))]) hP
    have hK1 := hK.sub (tys' := []) [] rfl
    refine rdK_call (vx_runSW (As := [.ref o0, .int (iI z0), .int (iI z1), .ref u0]) (rest := []) ⟨hx, hb, hml, hown, hts⟩ (mL_placeOfPhrase_x1 l hfl dC dI o0 a0 a1 q w hp0 hp1 hw hq hqd u0 z0 z1 hz0 hz1 b1) (vx_cwSW 4 hts gL_law_L_placeOfPhrase rfl rfl rfl hdL_placeOfPhrase ⟨(Nat.le_of_ble_eq_true rfl), (Nat.le_of_ble_eq_true rfl)⟩) (bY_preS hK1 hP1 (hG0.at hS) hN) rfl rfl hl.1 rfl (lv_room (Nat.le_of_ble_eq_true rfl)) dL_law_1723 hf9) (fun H hz hk => ?_)
    have hP : va_P (dC, dI) vwCl ([(o0, .inr (0, [.long (pk a0), .long (pk a1), .long (pkn q w), .int (iI ((w : Nat) : Int))])), (u0, .inl (cJ, 1, .inr (.inl (g))))] ++ [(m0, .inr (1, [.int th, .ref t0, .ref k0, .ref p0, .int (iI ((w : Nat) : Int))])), (t0, .inl (cI, 24, .inl (fun j => iI ((tb a0 a1 j : Nat) : Int)))), (k0, .inl (cI, 12, .inl (fun j => iI ((K j : Nat) : Int)))), (p0, .inl (cI, 12, .inl (fun j => iI ((q j : Nat) : Int))))]) H := va_P_new hP hk
    have hS := va_S_new hS hz hk
    refine lv_istore (lv' := [(5, .int (iI 1)), (0, .ref b), (1, .ref o0), (2, .ref m0), (3, .ref u0), (4, .int (iI ((5 * n : Nat) : Int)))]) hx hb dL_law_1726 hl (by decide) rfl (fun ls hl => ?_)
    refine lv_aload_n hx hb dL_law_1728 rfl (lv_at hl 3 rfl) ?_
    refine lv_aload_n hx hb dL_law_1729 rfl (lv_at hl 1 rfl) ?_
    refine lv_iload hx hb dL_law_1730 (lv_at hl 5 rfl) ?_
    refine ib_const hx hb dL_law_1732 ?_
    refine ib_add (z := (((5 * n) + 1 : Nat) : Int)) hx hb dL_law_1733 (by omega) ?_
    refine st_i (y := iI ((5 * n + 1 : Nat) : Int)) (congrArg iI (by omega)) ?_
    refine va_sld (b := b) (L := L) (xs := xs) hx hb hX hbl hbA hS (iI_vp (i := 5 * n + 1) (by omega) (by omega)) dL_law_1734 ?_
    refine st_i (y := iI z0) ((congrArg xs (iI_cl (by omega))).trans e0) ?_
    refine lv_aload_n hx hb dL_law_1735 rfl (lv_at hl 1 rfl) ?_
    refine lv_iload hx hb dL_law_1736 (lv_at hl 5 rfl) ?_
    refine ib_const hx hb dL_law_1738 ?_
    refine ib_add (z := (((5 * n) + 2 : Nat) : Int)) hx hb dL_law_1739 (by omega) ?_
    refine st_i (y := iI ((5 * n + 2 : Nat) : Int)) (congrArg iI (by omega)) ?_
    refine va_sld (b := b) (L := L) (xs := xs) hx hb hX hbl hbA hS (iI_vp (i := 5 * n + 2) (by omega) (by omega)) dL_law_1740 ?_
    refine st_i (y := iI z1) ((congrArg xs (iI_cl (by omega))).trans e1) ?_
    have hP2 : va_P (dC, dI) vwCl [(m0, .inr (1, [.int th, .ref t0, .ref k0, .ref p0, .int (iI ((w : Nat) : Int))])), (t0, .inl (cI, 24, .inl (fun j => iI ((tb a0 a1 j : Nat) : Int)))), (k0, .inl (cI, 12, .inl (fun j => iI ((K j : Nat) : Int)))), (p0, .inl (cI, 12, .inl (fun j => iI ((q j : Nat) : Int))))] H := va_P_r (w1 := [(o0, .inr (0, [.long (pk a0), .long (pk a1), .long (pkn q w), .int (iI ((w : Nat) : Int))])), (u0, .inl (cJ, 1, .inr (.inl (g))))]) (w2 := [(m0, .inr (1, [.int th, .ref t0, .ref k0, .ref p0, .int (iI ((w : Nat) : Int))])), (t0, .inl (cI, 24, .inl (fun j => iI ((tb a0 a1 j : Nat) : Int)))), (k0, .inl (cI, 12, .inl (fun j => iI ((K j : Nat) : Int)))), (p0, .inl (cI, 12, .inl (fun j => iI ((q j : Nat) : Int))))]) hP
    have hK2 := hK.sub (tys' := [(cI, .int)]) [1] rfl
    have hf9 : cells + 1 + 0 ≤ room_1.cells ∧ slots + 6 + 0 ≤ room_1.slots := ⟨by show cells + 1 + 0 ≤ 1036; omega, by show slots + 6 + 0 ≤ 8286; omega⟩
    have hD2 : va_D (LA s) [(m0, .inr (1, [.int th, .ref t0, .ref k0, .ref p0, .int (iI ((w : Nat) : Int))])), (t0, .inl (cI, 24, .inl (fun j => iI ((tb a0 a1 j : Nat) : Int)))), (k0, .inl (cI, 12, .inl (fun j => iI ((K j : Nat) : Int)))), (p0, .inl (cI, 12, .inl (fun j => iI ((q j : Nat) : Int))))] := va_D_r (w1 := [(o0, .inr (0, [.long (pk a0), .long (pk a1), .long (pkn q w), .int (iI ((w : Nat) : Int))])), (u0, .inl (cJ, 1, .inr (.inl (g))))]) (w2 := [(m0, .inr (1, [.int th, .ref t0, .ref k0, .ref p0, .int (iI ((w : Nat) : Int))])), (t0, .inl (cI, 24, .inl (fun j => iI ((tb a0 a1 j : Nat) : Int)))), (k0, .inl (cI, 12, .inl (fun j => iI ((K j : Nat) : Int)))), (p0, .inl (cI, 12, .inl (fun j => iI ((q j : Nat) : Int))))]) hD
    refine wr_call (va_runV (As := [.int (iI z0), .int (iI z1)]) (rest := []) ⟨hx, hb, hml, hown, hts⟩ (mX1_placeOfPhrase_x1 l dC dI cI m0 t0 k0 p0 a0 a1 K q th w hp0.1 hp1.1 hw hq z0 z1 hz0 hz1 b1) (cwV 2 hts gL_law_X1_placeOfPhrase rfl rfl rfl hvX1_placeOfPhrase ⟨(Nat.le_of_ble_eq_true rfl), (Nat.le_of_ble_eq_true rfl)⟩) (bD_pre (ci := 1) (q0 := 0) hK2 hP2 hD2 rfl rfl rfl) rfl rfl hl.1 rfl (lv_room (Nat.le_of_ble_eq_true rfl)) dL_law_1741 hf9) hS (fun q9 h => inW_A hD2 h) (fun H locs hPn hz hk hS => ?_)
    have hP : va_P (dC, dI) vwCl ([(o0, .inr (0, [.long (pk a0), .long (pk a1), .long (pkn q w), .int (iI ((w : Nat) : Int))])), (u0, .inl (cJ, 1, .inr (.inl (g))))] ++ [(m0, .inr (1, [.int (iI 1), .ref t0, .ref k0, .ref p0, .int (iI ((w : Nat) : Int))])), (t0, .inl (cI, 24, .inl (fun j => iI ((tb a0 a1 j : Nat) : Int)))), (k0, .inl (cI, 12, .inl (fun j => iI ((K j : Nat) : Int)))), (p0, .inl (cI, 12, .inl (fun j => iI ((q j : Nat) : Int))))]) H := wj_r (w1 := [(o0, .inr (0, [.long (pk a0), .long (pk a1), .long (pkn q w), .int (iI ((w : Nat) : Int))])), (u0, .inl (cJ, 1, .inr (.inl (g))))]) (w2 := [(m0, .inr (1, [.int th, .ref t0, .ref k0, .ref p0, .int (iI ((w : Nat) : Int))])), (t0, .inl (cI, 24, .inl (fun j => iI ((tb a0 a1 j : Nat) : Int)))), (k0, .inl (cI, 12, .inl (fun j => iI ((K j : Nat) : Int)))), (p0, .inl (cI, 12, .inl (fun j => iI ((q j : Nat) : Int))))]) (w2' := [(m0, .inr (1, [.int (iI 1), .ref t0, .ref k0, .ref p0, .int (iI ((w : Nat) : Int))])), (t0, .inl (cI, 24, .inl (fun j => iI ((tb a0 a1 j : Nat) : Int)))), (k0, .inl (cI, 12, .inl (fun j => iI ((K j : Nat) : Int)))), (p0, .inl (cI, 12, .inl (fun j => iI ((q j : Nat) : Int))))]) hP hD hPn hk
    have hD : va_D (LA s) ([(o0, .inr (0, [.long (pk a0), .long (pk a1), .long (pkn q w), .int (iI ((w : Nat) : Int))])), (u0, .inl (cJ, 1, .inr (.inl (g))))] ++ [(m0, .inr (1, [.int (iI 1), .ref t0, .ref k0, .ref p0, .int (iI ((w : Nat) : Int))])), (t0, .inl (cI, 24, .inl (fun j => iI ((tb a0 a1 j : Nat) : Int)))), (k0, .inl (cI, 12, .inl (fun j => iI ((K j : Nat) : Int)))), (p0, .inl (cI, 12, .inl (fun j => iI ((q j : Nat) : Int))))]) := va_D_same (w := ([(o0, .inr (0, [.long (pk a0), .long (pk a1), .long (pkn q w), .int (iI ((w : Nat) : Int))])), (u0, .inl (cJ, 1, .inr (.inl (g))))] ++ [(m0, .inr (1, [.int th, .ref t0, .ref k0, .ref p0, .int (iI ((w : Nat) : Int))])), (t0, .inl (cI, 24, .inl (fun j => iI ((tb a0 a1 j : Nat) : Int)))), (k0, .inl (cI, 12, .inl (fun j => iI ((K j : Nat) : Int)))), (p0, .inl (cI, 12, .inl (fun j => iI ((q j : Nat) : Int))))])) (Eq.trans (b := [o0, u0, m0, t0, k0, p0]) rfl rfl) hD
    refine va_forget hS.2.2 ?_
    have hS := va_S_nil hS
    refine lv_istore (lv' := [(6, .int (iI 0)), (5, .int (iI 1)), (0, .ref b), (1, .ref o0), (2, .ref m0), (3, .ref u0), (4, .int (iI ((5 * n : Nat) : Int)))]) hx hb dL_law_1744 hl (by decide) rfl (fun ls hl => ?_)
    refine lv_aload_n hx hb dL_law_1746 rfl (lv_at hl 4 rfl) ?_
    have hP2 : va_P (dC, dI) vwCl [(m0, .inr (1, [.int (iI 1), .ref t0, .ref k0, .ref p0, .int (iI ((w : Nat) : Int))])), (t0, .inl (cI, 24, .inl (fun j => iI ((tb a0 a1 j : Nat) : Int)))), (k0, .inl (cI, 12, .inl (fun j => iI ((K j : Nat) : Int)))), (p0, .inl (cI, 12, .inl (fun j => iI ((q j : Nat) : Int))))] H := va_P_r (w1 := [(o0, .inr (0, [.long (pk a0), .long (pk a1), .long (pkn q w), .int (iI ((w : Nat) : Int))])), (u0, .inl (cJ, 1, .inr (.inl (g))))]) (w2 := [(m0, .inr (1, [.int (iI 1), .ref t0, .ref k0, .ref p0, .int (iI ((w : Nat) : Int))])), (t0, .inl (cI, 24, .inl (fun j => iI ((tb a0 a1 j : Nat) : Int)))), (k0, .inl (cI, 12, .inl (fun j => iI ((K j : Nat) : Int)))), (p0, .inl (cI, 12, .inl (fun j => iI ((q j : Nat) : Int))))]) hP
    have hK2 := hK.sub (tys' := [(cI, .int)]) [1] rfl
    have hf9 : cells + 1 + 0 ≤ room_1.cells ∧ slots + 6 + 0 ≤ room_1.slots := ⟨by show cells + 1 + 0 ≤ 1036; omega, by show slots + 6 + 0 ≤ 8286; omega⟩
    refine rd_call (va_runV (As := []) (rest := []) ⟨hx, hb, hml, hown, hts⟩ (mX1_thrown l dC dI cI m0 t0 k0 p0 a0 a1 K q (iI 1) w hp0.1 hp1.1 hw hq) (cwV 0 hts gL_law_X1_thrown rfl rfl rfl hvX1_thrown ⟨(Nat.le_of_ble_eq_true rfl), (Nat.le_of_ble_eq_true rfl)⟩) (bW_pre (ci := 1) (q0 := 0) hK2 hP2 rfl rfl rfl) rfl rfl hl.1 rfl (lv_room (Nat.le_of_ble_eq_true rfl)) dL_law_1747 hf9) ?_
    refine lv_iload hx hb dL_law_1750 (lv_at hl 1 rfl) ?_
    refine ib_icmp_eq (tgt := 1757) hx hb dL_law_1752 (by decide) ⟨by omega, by omega⟩ ⟨by omega, by omega⟩ (fun c_1752 => ?_) (fun c_1752 => absurd c_1752 (by decide))
    refine lv_iload hx hb dL_law_1757 (lv_at hl 1 rfl) ?_
    refine ib_if_ne (tgt := 1774) hx hb dL_law_1759 (by decide) ⟨by omega, by omega⟩ (fun c_1759 => ?_) (fun c_1759 => absurd c_1759 (by decide))
    refine lv_goto (tgt := 1833) hx hb dL_law_1774 (by decide) ?_
    exact kk a0 a1 q K w (iI 1) (g) H ls ⟨hp0, hp1, hw, hq, hqd, hP, hD, hS⟩ (lv_sub hl [2, 3, 4, 5, 6] rfl)
  by_cases b2 : (z0 = 0 ∨ z0 = 1) ∧ ¬ (0 ≤ z1 ∧ z1 ≤ 47)
  · skip
    refine lv_aload_n hx hb dL_law_1709 rfl (lv_at hl 1 rfl) ?_
    refine lv_aload_n hx hb dL_law_1710 rfl (lv_at hl 0 rfl) ?_
    refine lv_iload hx hb dL_law_1711 (lv_at hl 4 rfl) ?_
    refine ib_const hx hb dL_law_1713 ?_
    refine ib_add (z := (((5 * n) + 1 : Nat) : Int)) hx hb dL_law_1714 (by omega) ?_
    refine st_i (y := iI ((5 * n + 1 : Nat) : Int)) (congrArg iI (by omega)) ?_
    refine va_sld (b := b) (L := L) (xs := xs) hx hb hX hbl hbA hS (iI_vp (i := 5 * n + 1) (by omega) (by omega)) dL_law_1715 ?_
    refine st_i (y := iI z0) ((congrArg xs (iI_cl (by omega))).trans e0) ?_
    refine lv_aload_n hx hb dL_law_1716 rfl (lv_at hl 0 rfl) ?_
    refine lv_iload hx hb dL_law_1717 (lv_at hl 4 rfl) ?_
    refine ib_const hx hb dL_law_1719 ?_
    refine ib_add (z := (((5 * n) + 2 : Nat) : Int)) hx hb dL_law_1720 (by omega) ?_
    refine st_i (y := iI ((5 * n + 2 : Nat) : Int)) (congrArg iI (by omega)) ?_
    refine va_sld (b := b) (L := L) (xs := xs) hx hb hX hbl hbA hS (iI_vp (i := 5 * n + 2) (by omega) (by omega)) dL_law_1721 ?_
    refine st_i (y := iI z1) ((congrArg xs (iI_cl (by omega))).trans e1) ?_
    refine lv_aload_n hx hb dL_law_1722 rfl (lv_at hl 3 rfl) ?_
    have hf9 : cells + 1 ≤ room_1.cells ∧ slots + 6 ≤ room_1.slots := ⟨by show cells + 1 ≤ 1036; omega, by show slots + 6 ≤ 8286; omega⟩
    have hP1 : va_P (dC, dI) vwCl [(o0, .inr (0, [.long (pk a0), .long (pk a1), .long (pkn q w), .int (iI ((w : Nat) : Int))]))] H := va_P_l (w1 := [(o0, .inr (0, [.long (pk a0), .long (pk a1), .long (pkn q w), .int (iI ((w : Nat) : Int))]))]) (w2 := [(u0, .inl (cJ, 1, .inr (.inl (g)))), (m0, .inr (1, [.int th, .ref t0, .ref k0, .ref p0, .int (iI ((w : Nat) : Int))])), (t0, .inl (cI, 24, .inl (fun j => iI ((tb a0 a1 j : Nat) : Int)))), (k0, .inl (cI, 12, .inl (fun j => iI ((K j : Nat) : Int)))), (p0, .inl (cI, 12, .inl (fun j => iI ((q j : Nat) : Int))))]) hP
    have hK1 := hK.sub (tys' := []) [] rfl
    refine rdK_call (vx_runSW (As := [.ref o0, .int (iI z0), .int (iI z1), .ref u0]) (rest := []) ⟨hx, hb, hml, hown, hts⟩ (mL_placeOfPhrase_x2 l hfl dC dI o0 a0 a1 q w hp0 hp1 hw hq hqd u0 z0 z1 hz0 hz1 b2) (vx_cwSW 4 hts gL_law_L_placeOfPhrase rfl rfl rfl hdL_placeOfPhrase ⟨(Nat.le_of_ble_eq_true rfl), (Nat.le_of_ble_eq_true rfl)⟩) (bY_preS hK1 hP1 (hG0.at hS) hN) rfl rfl hl.1 rfl (lv_room (Nat.le_of_ble_eq_true rfl)) dL_law_1723 hf9) (fun H hz hk => ?_)
    have hP : va_P (dC, dI) vwCl ([(o0, .inr (0, [.long (pk a0), .long (pk a1), .long (pkn q w), .int (iI ((w : Nat) : Int))])), (u0, .inl (cJ, 1, .inr (.inl (g))))] ++ [(m0, .inr (1, [.int th, .ref t0, .ref k0, .ref p0, .int (iI ((w : Nat) : Int))])), (t0, .inl (cI, 24, .inl (fun j => iI ((tb a0 a1 j : Nat) : Int)))), (k0, .inl (cI, 12, .inl (fun j => iI ((K j : Nat) : Int)))), (p0, .inl (cI, 12, .inl (fun j => iI ((q j : Nat) : Int))))]) H := va_P_new hP hk
    have hS := va_S_new hS hz hk
    refine lv_istore (lv' := [(5, .int (iI 2)), (0, .ref b), (1, .ref o0), (2, .ref m0), (3, .ref u0), (4, .int (iI ((5 * n : Nat) : Int)))]) hx hb dL_law_1726 hl (by decide) rfl (fun ls hl => ?_)
    refine lv_aload_n hx hb dL_law_1728 rfl (lv_at hl 3 rfl) ?_
    refine lv_aload_n hx hb dL_law_1729 rfl (lv_at hl 1 rfl) ?_
    refine lv_iload hx hb dL_law_1730 (lv_at hl 5 rfl) ?_
    refine ib_const hx hb dL_law_1732 ?_
    refine ib_add (z := (((5 * n) + 1 : Nat) : Int)) hx hb dL_law_1733 (by omega) ?_
    refine st_i (y := iI ((5 * n + 1 : Nat) : Int)) (congrArg iI (by omega)) ?_
    refine va_sld (b := b) (L := L) (xs := xs) hx hb hX hbl hbA hS (iI_vp (i := 5 * n + 1) (by omega) (by omega)) dL_law_1734 ?_
    refine st_i (y := iI z0) ((congrArg xs (iI_cl (by omega))).trans e0) ?_
    refine lv_aload_n hx hb dL_law_1735 rfl (lv_at hl 1 rfl) ?_
    refine lv_iload hx hb dL_law_1736 (lv_at hl 5 rfl) ?_
    refine ib_const hx hb dL_law_1738 ?_
    refine ib_add (z := (((5 * n) + 2 : Nat) : Int)) hx hb dL_law_1739 (by omega) ?_
    refine st_i (y := iI ((5 * n + 2 : Nat) : Int)) (congrArg iI (by omega)) ?_
    refine va_sld (b := b) (L := L) (xs := xs) hx hb hX hbl hbA hS (iI_vp (i := 5 * n + 2) (by omega) (by omega)) dL_law_1740 ?_
    refine st_i (y := iI z1) ((congrArg xs (iI_cl (by omega))).trans e1) ?_
    have hP2 : va_P (dC, dI) vwCl [(m0, .inr (1, [.int th, .ref t0, .ref k0, .ref p0, .int (iI ((w : Nat) : Int))])), (t0, .inl (cI, 24, .inl (fun j => iI ((tb a0 a1 j : Nat) : Int)))), (k0, .inl (cI, 12, .inl (fun j => iI ((K j : Nat) : Int)))), (p0, .inl (cI, 12, .inl (fun j => iI ((q j : Nat) : Int))))] H := va_P_r (w1 := [(o0, .inr (0, [.long (pk a0), .long (pk a1), .long (pkn q w), .int (iI ((w : Nat) : Int))])), (u0, .inl (cJ, 1, .inr (.inl (g))))]) (w2 := [(m0, .inr (1, [.int th, .ref t0, .ref k0, .ref p0, .int (iI ((w : Nat) : Int))])), (t0, .inl (cI, 24, .inl (fun j => iI ((tb a0 a1 j : Nat) : Int)))), (k0, .inl (cI, 12, .inl (fun j => iI ((K j : Nat) : Int)))), (p0, .inl (cI, 12, .inl (fun j => iI ((q j : Nat) : Int))))]) hP
    have hK2 := hK.sub (tys' := [(cI, .int)]) [1] rfl
    have hf9 : cells + 1 + 0 ≤ room_1.cells ∧ slots + 6 + 0 ≤ room_1.slots := ⟨by show cells + 1 + 0 ≤ 1036; omega, by show slots + 6 + 0 ≤ 8286; omega⟩
    have hD2 : va_D (LA s) [(m0, .inr (1, [.int th, .ref t0, .ref k0, .ref p0, .int (iI ((w : Nat) : Int))])), (t0, .inl (cI, 24, .inl (fun j => iI ((tb a0 a1 j : Nat) : Int)))), (k0, .inl (cI, 12, .inl (fun j => iI ((K j : Nat) : Int)))), (p0, .inl (cI, 12, .inl (fun j => iI ((q j : Nat) : Int))))] := va_D_r (w1 := [(o0, .inr (0, [.long (pk a0), .long (pk a1), .long (pkn q w), .int (iI ((w : Nat) : Int))])), (u0, .inl (cJ, 1, .inr (.inl (g))))]) (w2 := [(m0, .inr (1, [.int th, .ref t0, .ref k0, .ref p0, .int (iI ((w : Nat) : Int))])), (t0, .inl (cI, 24, .inl (fun j => iI ((tb a0 a1 j : Nat) : Int)))), (k0, .inl (cI, 12, .inl (fun j => iI ((K j : Nat) : Int)))), (p0, .inl (cI, 12, .inl (fun j => iI ((q j : Nat) : Int))))]) hD
    refine wr_call (va_runV (As := [.int (iI z0), .int (iI z1)]) (rest := []) ⟨hx, hb, hml, hown, hts⟩ (mX1_placeOfPhrase_x2 l dC dI cI m0 t0 k0 p0 a0 a1 K q th w hp0.1 hp1.1 hw hq z0 z1 hz0 hz1 b2) (cwV 2 hts gL_law_X1_placeOfPhrase rfl rfl rfl hvX1_placeOfPhrase ⟨(Nat.le_of_ble_eq_true rfl), (Nat.le_of_ble_eq_true rfl)⟩) (bD_pre (ci := 1) (q0 := 0) hK2 hP2 hD2 rfl rfl rfl) rfl rfl hl.1 rfl (lv_room (Nat.le_of_ble_eq_true rfl)) dL_law_1741 hf9) hS (fun q9 h => inW_A hD2 h) (fun H locs hPn hz hk hS => ?_)
    have hP : va_P (dC, dI) vwCl ([(o0, .inr (0, [.long (pk a0), .long (pk a1), .long (pkn q w), .int (iI ((w : Nat) : Int))])), (u0, .inl (cJ, 1, .inr (.inl (g))))] ++ [(m0, .inr (1, [.int (iI 2), .ref t0, .ref k0, .ref p0, .int (iI ((w : Nat) : Int))])), (t0, .inl (cI, 24, .inl (fun j => iI ((tb a0 a1 j : Nat) : Int)))), (k0, .inl (cI, 12, .inl (fun j => iI ((K j : Nat) : Int)))), (p0, .inl (cI, 12, .inl (fun j => iI ((q j : Nat) : Int))))]) H := wj_r (w1 := [(o0, .inr (0, [.long (pk a0), .long (pk a1), .long (pkn q w), .int (iI ((w : Nat) : Int))])), (u0, .inl (cJ, 1, .inr (.inl (g))))]) (w2 := [(m0, .inr (1, [.int th, .ref t0, .ref k0, .ref p0, .int (iI ((w : Nat) : Int))])), (t0, .inl (cI, 24, .inl (fun j => iI ((tb a0 a1 j : Nat) : Int)))), (k0, .inl (cI, 12, .inl (fun j => iI ((K j : Nat) : Int)))), (p0, .inl (cI, 12, .inl (fun j => iI ((q j : Nat) : Int))))]) (w2' := [(m0, .inr (1, [.int (iI 2), .ref t0, .ref k0, .ref p0, .int (iI ((w : Nat) : Int))])), (t0, .inl (cI, 24, .inl (fun j => iI ((tb a0 a1 j : Nat) : Int)))), (k0, .inl (cI, 12, .inl (fun j => iI ((K j : Nat) : Int)))), (p0, .inl (cI, 12, .inl (fun j => iI ((q j : Nat) : Int))))]) hP hD hPn hk
    have hD : va_D (LA s) ([(o0, .inr (0, [.long (pk a0), .long (pk a1), .long (pkn q w), .int (iI ((w : Nat) : Int))])), (u0, .inl (cJ, 1, .inr (.inl (g))))] ++ [(m0, .inr (1, [.int (iI 2), .ref t0, .ref k0, .ref p0, .int (iI ((w : Nat) : Int))])), (t0, .inl (cI, 24, .inl (fun j => iI ((tb a0 a1 j : Nat) : Int)))), (k0, .inl (cI, 12, .inl (fun j => iI ((K j : Nat) : Int)))), (p0, .inl (cI, 12, .inl (fun j => iI ((q j : Nat) : Int))))]) := va_D_same (w := ([(o0, .inr (0, [.long (pk a0), .long (pk a1), .long (pkn q w), .int (iI ((w : Nat) : Int))])), (u0, .inl (cJ, 1, .inr (.inl (g))))] ++ [(m0, .inr (1, [.int th, .ref t0, .ref k0, .ref p0, .int (iI ((w : Nat) : Int))])), (t0, .inl (cI, 24, .inl (fun j => iI ((tb a0 a1 j : Nat) : Int)))), (k0, .inl (cI, 12, .inl (fun j => iI ((K j : Nat) : Int)))), (p0, .inl (cI, 12, .inl (fun j => iI ((q j : Nat) : Int))))])) (Eq.trans (b := [o0, u0, m0, t0, k0, p0]) rfl rfl) hD
    refine va_forget hS.2.2 ?_
    have hS := va_S_nil hS
    refine lv_istore (lv' := [(6, .int (iI 0)), (5, .int (iI 2)), (0, .ref b), (1, .ref o0), (2, .ref m0), (3, .ref u0), (4, .int (iI ((5 * n : Nat) : Int)))]) hx hb dL_law_1744 hl (by decide) rfl (fun ls hl => ?_)
    refine lv_aload_n hx hb dL_law_1746 rfl (lv_at hl 4 rfl) ?_
    have hP2 : va_P (dC, dI) vwCl [(m0, .inr (1, [.int (iI 2), .ref t0, .ref k0, .ref p0, .int (iI ((w : Nat) : Int))])), (t0, .inl (cI, 24, .inl (fun j => iI ((tb a0 a1 j : Nat) : Int)))), (k0, .inl (cI, 12, .inl (fun j => iI ((K j : Nat) : Int)))), (p0, .inl (cI, 12, .inl (fun j => iI ((q j : Nat) : Int))))] H := va_P_r (w1 := [(o0, .inr (0, [.long (pk a0), .long (pk a1), .long (pkn q w), .int (iI ((w : Nat) : Int))])), (u0, .inl (cJ, 1, .inr (.inl (g))))]) (w2 := [(m0, .inr (1, [.int (iI 2), .ref t0, .ref k0, .ref p0, .int (iI ((w : Nat) : Int))])), (t0, .inl (cI, 24, .inl (fun j => iI ((tb a0 a1 j : Nat) : Int)))), (k0, .inl (cI, 12, .inl (fun j => iI ((K j : Nat) : Int)))), (p0, .inl (cI, 12, .inl (fun j => iI ((q j : Nat) : Int))))]) hP
    have hK2 := hK.sub (tys' := [(cI, .int)]) [1] rfl
    have hf9 : cells + 1 + 0 ≤ room_1.cells ∧ slots + 6 + 0 ≤ room_1.slots := ⟨by show cells + 1 + 0 ≤ 1036; omega, by show slots + 6 + 0 ≤ 8286; omega⟩
    refine rd_call (va_runV (As := []) (rest := []) ⟨hx, hb, hml, hown, hts⟩ (mX1_thrown l dC dI cI m0 t0 k0 p0 a0 a1 K q (iI 2) w hp0.1 hp1.1 hw hq) (cwV 0 hts gL_law_X1_thrown rfl rfl rfl hvX1_thrown ⟨(Nat.le_of_ble_eq_true rfl), (Nat.le_of_ble_eq_true rfl)⟩) (bW_pre (ci := 1) (q0 := 0) hK2 hP2 rfl rfl rfl) rfl rfl hl.1 rfl (lv_room (Nat.le_of_ble_eq_true rfl)) dL_law_1747 hf9) ?_
    refine lv_iload hx hb dL_law_1750 (lv_at hl 1 rfl) ?_
    refine ib_icmp_eq (tgt := 1757) hx hb dL_law_1752 (by decide) ⟨by omega, by omega⟩ ⟨by omega, by omega⟩ (fun c_1752 => ?_) (fun c_1752 => absurd c_1752 (by decide))
    refine lv_iload hx hb dL_law_1757 (lv_at hl 1 rfl) ?_
    refine ib_if_ne (tgt := 1774) hx hb dL_law_1759 (by decide) ⟨by omega, by omega⟩ (fun c_1759 => ?_) (fun c_1759 => absurd c_1759 (by decide))
    refine lv_goto (tgt := 1833) hx hb dL_law_1774 (by decide) ?_
    exact kk a0 a1 q K w (iI 2) (g) H ls ⟨hp0, hp1, hw, hq, hqd, hP, hD, hS⟩ (lv_sub hl [2, 3, 4, 5, 6] rfl)
  obtain ⟨r, hn0, rfl⟩ := nat_of (z := z0) (k := 4095) (by omega)
  obtain ⟨c9, hn1, rfl⟩ := nat_of (z := z1) (k := 4095) (by omega)
  refine lv_aload_n hx hb dL_law_1709 rfl (lv_at hl 1 rfl) ?_
  refine lv_aload_n hx hb dL_law_1710 rfl (lv_at hl 0 rfl) ?_
  refine lv_iload hx hb dL_law_1711 (lv_at hl 4 rfl) ?_
  refine ib_const hx hb dL_law_1713 ?_
  refine ib_add (z := (((5 * n) + 1 : Nat) : Int)) hx hb dL_law_1714 (by omega) ?_
  refine st_i (y := iI ((5 * n + 1 : Nat) : Int)) (congrArg iI (by omega)) ?_
  refine va_sld (b := b) (L := L) (xs := xs) hx hb hX hbl hbA hS (iI_vp (i := 5 * n + 1) (by omega) (by omega)) dL_law_1715 ?_
  refine st_i (y := iI ((r : Nat) : Int)) ((congrArg xs (iI_cl (by omega))).trans e0) ?_
  refine lv_aload_n hx hb dL_law_1716 rfl (lv_at hl 0 rfl) ?_
  refine lv_iload hx hb dL_law_1717 (lv_at hl 4 rfl) ?_
  refine ib_const hx hb dL_law_1719 ?_
  refine ib_add (z := (((5 * n) + 2 : Nat) : Int)) hx hb dL_law_1720 (by omega) ?_
  refine st_i (y := iI ((5 * n + 2 : Nat) : Int)) (congrArg iI (by omega)) ?_
  refine va_sld (b := b) (L := L) (xs := xs) hx hb hX hbl hbA hS (iI_vp (i := 5 * n + 2) (by omega) (by omega)) dL_law_1721 ?_
  refine st_i (y := iI ((c9 : Nat) : Int)) ((congrArg xs (iI_cl (by omega))).trans e1) ?_
  refine lv_aload_n hx hb dL_law_1722 rfl (lv_at hl 3 rfl) ?_
  have hf9 : cells + 0 ≤ room_1.cells ∧ slots + 0 ≤ room_1.slots := ⟨by show cells + 0 ≤ 1036; omega, by show slots + 0 ≤ 8286; omega⟩
  have hP1 : va_P (dC, dI) vwCl [(o0, .inr (0, [.long (pk a0), .long (pk a1), .long (pkn q w), .int (iI ((w : Nat) : Int))])), (u0, .inl (cJ, 1, .inr (.inl (g))))] H := va_P_l (w1 := [(o0, .inr (0, [.long (pk a0), .long (pk a1), .long (pkn q w), .int (iI ((w : Nat) : Int))])), (u0, .inl (cJ, 1, .inr (.inl (g))))]) (w2 := [(m0, .inr (1, [.int th, .ref t0, .ref k0, .ref p0, .int (iI ((w : Nat) : Int))])), (t0, .inl (cI, 24, .inl (fun j => iI ((tb a0 a1 j : Nat) : Int)))), (k0, .inl (cI, 12, .inl (fun j => iI ((K j : Nat) : Int)))), (p0, .inl (cI, 12, .inl (fun j => iI ((q j : Nat) : Int))))]) hP
  have hD1 : va_D (LA s) [(o0, .inr (0, [.long (pk a0), .long (pk a1), .long (pkn q w), .int (iI ((w : Nat) : Int))])), (u0, .inl (cJ, 1, .inr (.inl (g))))] := va_D_l (w1 := [(o0, .inr (0, [.long (pk a0), .long (pk a1), .long (pkn q w), .int (iI ((w : Nat) : Int))])), (u0, .inl (cJ, 1, .inr (.inl (g))))]) (w2 := [(m0, .inr (1, [.int th, .ref t0, .ref k0, .ref p0, .int (iI ((w : Nat) : Int))])), (t0, .inl (cI, 24, .inl (fun j => iI ((tb a0 a1 j : Nat) : Int)))), (k0, .inl (cI, 12, .inl (fun j => iI ((K j : Nat) : Int)))), (p0, .inl (cI, 12, .inl (fun j => iI ((q j : Nat) : Int))))]) hD
  have hK1 := hK.sub (tys' := [(cJ, .long)]) [0] rfl
  refine wr_call (vx_runSW (As := [.ref o0, .int (iI ((r : Nat) : Int)), .int (iI ((c9 : Nat) : Int)), .ref u0]) (rest := []) ⟨hx, hb, hml, hown, hts⟩ (mL_placeOfPhrase_ok l dC dI cJ o0 u0 a0 a1 q w hp0 hp1 hw hq hqd g r c9 (by omega) (by omega)) (vx_cwSW 4 hts gL_law_L_placeOfPhrase rfl rfl rfl hdL_placeOfPhrase ⟨(Nat.le_of_ble_eq_true rfl), (Nat.le_of_ble_eq_true rfl)⟩) (bD_preS hK1 hP1 hD1) rfl rfl hl.1 rfl (lv_room (Nat.le_of_ble_eq_true rfl)) dL_law_1723 hf9) hS (fun q9 h => inW_A hD1 h) (fun H locs hPn hz hk hS => ?_)
  have hP : va_P (dC, dI) vwCl ([(o0, .inr (0, [.long (pk a0), .long (pk a1), .long (pkn q w), .int (iI ((w : Nat) : Int))])), (u0, .inl (cJ, 1, .inr (.inl (fun _ => (iI (if w = 0 then -1 else plF (rw_ r a0 a1) q c9 w)).toInt64))))] ++ [(m0, .inr (1, [.int th, .ref t0, .ref k0, .ref p0, .int (iI ((w : Nat) : Int))])), (t0, .inl (cI, 24, .inl (fun j => iI ((tb a0 a1 j : Nat) : Int)))), (k0, .inl (cI, 12, .inl (fun j => iI ((K j : Nat) : Int)))), (p0, .inl (cI, 12, .inl (fun j => iI ((q j : Nat) : Int))))]) H := wj_l (w1 := [(o0, .inr (0, [.long (pk a0), .long (pk a1), .long (pkn q w), .int (iI ((w : Nat) : Int))])), (u0, .inl (cJ, 1, .inr (.inl (g))))]) (w2 := [(m0, .inr (1, [.int th, .ref t0, .ref k0, .ref p0, .int (iI ((w : Nat) : Int))])), (t0, .inl (cI, 24, .inl (fun j => iI ((tb a0 a1 j : Nat) : Int)))), (k0, .inl (cI, 12, .inl (fun j => iI ((K j : Nat) : Int)))), (p0, .inl (cI, 12, .inl (fun j => iI ((q j : Nat) : Int))))]) (w1' := [(o0, .inr (0, [.long (pk a0), .long (pk a1), .long (pkn q w), .int (iI ((w : Nat) : Int))])), (u0, .inl (cJ, 1, .inr (.inl (fun _ => (iI (if w = 0 then -1 else plF (rw_ r a0 a1) q c9 w)).toInt64))))]) hP hD hPn hk
  have hD : va_D (LA s) ([(o0, .inr (0, [.long (pk a0), .long (pk a1), .long (pkn q w), .int (iI ((w : Nat) : Int))])), (u0, .inl (cJ, 1, .inr (.inl (fun _ => (iI (if w = 0 then -1 else plF (rw_ r a0 a1) q c9 w)).toInt64))))] ++ [(m0, .inr (1, [.int th, .ref t0, .ref k0, .ref p0, .int (iI ((w : Nat) : Int))])), (t0, .inl (cI, 24, .inl (fun j => iI ((tb a0 a1 j : Nat) : Int)))), (k0, .inl (cI, 12, .inl (fun j => iI ((K j : Nat) : Int)))), (p0, .inl (cI, 12, .inl (fun j => iI ((q j : Nat) : Int))))]) := va_D_same (w := ([(o0, .inr (0, [.long (pk a0), .long (pk a1), .long (pkn q w), .int (iI ((w : Nat) : Int))])), (u0, .inl (cJ, 1, .inr (.inl (g))))] ++ [(m0, .inr (1, [.int th, .ref t0, .ref k0, .ref p0, .int (iI ((w : Nat) : Int))])), (t0, .inl (cI, 24, .inl (fun j => iI ((tb a0 a1 j : Nat) : Int)))), (k0, .inl (cI, 12, .inl (fun j => iI ((K j : Nat) : Int)))), (p0, .inl (cI, 12, .inl (fun j => iI ((q j : Nat) : Int))))])) (Eq.trans (b := [o0, u0, m0, t0, k0, p0]) rfl rfl) hD
  refine va_forget hS.2.2 ?_
  have hS := va_S_nil hS
  refine W.widen (k := cells + 1) (n := slots + 6) (by omega) (by omega) ?_
  refine lv_istore (lv' := [(5, .int (iI 0)), (0, .ref b), (1, .ref o0), (2, .ref m0), (3, .ref u0), (4, .int (iI ((5 * n : Nat) : Int)))]) hx hb dL_law_1726 hl (by decide) rfl (fun ls hl => ?_)
  refine lv_aload_n hx hb dL_law_1728 rfl (lv_at hl 3 rfl) ?_
  refine lv_aload_n hx hb dL_law_1729 rfl (lv_at hl 1 rfl) ?_
  refine lv_iload hx hb dL_law_1730 (lv_at hl 5 rfl) ?_
  refine ib_const hx hb dL_law_1732 ?_
  refine ib_add (z := (((5 * n) + 1 : Nat) : Int)) hx hb dL_law_1733 (by omega) ?_
  refine st_i (y := iI ((5 * n + 1 : Nat) : Int)) (congrArg iI (by omega)) ?_
  refine va_sld (b := b) (L := L) (xs := xs) hx hb hX hbl hbA hS (iI_vp (i := 5 * n + 1) (by omega) (by omega)) dL_law_1734 ?_
  refine st_i (y := iI ((r : Nat) : Int)) ((congrArg xs (iI_cl (by omega))).trans e0) ?_
  refine lv_aload_n hx hb dL_law_1735 rfl (lv_at hl 1 rfl) ?_
  refine lv_iload hx hb dL_law_1736 (lv_at hl 5 rfl) ?_
  refine ib_const hx hb dL_law_1738 ?_
  refine ib_add (z := (((5 * n) + 2 : Nat) : Int)) hx hb dL_law_1739 (by omega) ?_
  refine st_i (y := iI ((5 * n + 2 : Nat) : Int)) (congrArg iI (by omega)) ?_
  refine va_sld (b := b) (L := L) (xs := xs) hx hb hX hbl hbA hS (iI_vp (i := 5 * n + 2) (by omega) (by omega)) dL_law_1740 ?_
  refine st_i (y := iI ((c9 : Nat) : Int)) ((congrArg xs (iI_cl (by omega))).trans e1) ?_
  have hP2 : va_P (dC, dI) vwCl [(m0, .inr (1, [.int th, .ref t0, .ref k0, .ref p0, .int (iI ((w : Nat) : Int))])), (t0, .inl (cI, 24, .inl (fun j => iI ((tb a0 a1 j : Nat) : Int)))), (k0, .inl (cI, 12, .inl (fun j => iI ((K j : Nat) : Int)))), (p0, .inl (cI, 12, .inl (fun j => iI ((q j : Nat) : Int))))] H := va_P_r (w1 := [(o0, .inr (0, [.long (pk a0), .long (pk a1), .long (pkn q w), .int (iI ((w : Nat) : Int))])), (u0, .inl (cJ, 1, .inr (.inl (fun _ => (iI (if w = 0 then -1 else plF (rw_ r a0 a1) q c9 w)).toInt64))))]) (w2 := [(m0, .inr (1, [.int th, .ref t0, .ref k0, .ref p0, .int (iI ((w : Nat) : Int))])), (t0, .inl (cI, 24, .inl (fun j => iI ((tb a0 a1 j : Nat) : Int)))), (k0, .inl (cI, 12, .inl (fun j => iI ((K j : Nat) : Int)))), (p0, .inl (cI, 12, .inl (fun j => iI ((q j : Nat) : Int))))]) hP
  have hK2 := hK.sub (tys' := [(cI, .int)]) [1] rfl
  have hf9 : cells + 1 + 0 ≤ room_1.cells ∧ slots + 6 + 0 ≤ room_1.slots := ⟨by show cells + 1 + 0 ≤ 1036; omega, by show slots + 6 + 0 ≤ 8286; omega⟩
  have hD2 : va_D (LA s) [(m0, .inr (1, [.int th, .ref t0, .ref k0, .ref p0, .int (iI ((w : Nat) : Int))])), (t0, .inl (cI, 24, .inl (fun j => iI ((tb a0 a1 j : Nat) : Int)))), (k0, .inl (cI, 12, .inl (fun j => iI ((K j : Nat) : Int)))), (p0, .inl (cI, 12, .inl (fun j => iI ((q j : Nat) : Int))))] := va_D_r (w1 := [(o0, .inr (0, [.long (pk a0), .long (pk a1), .long (pkn q w), .int (iI ((w : Nat) : Int))])), (u0, .inl (cJ, 1, .inr (.inl (fun _ => (iI (if w = 0 then -1 else plF (rw_ r a0 a1) q c9 w)).toInt64))))]) (w2 := [(m0, .inr (1, [.int th, .ref t0, .ref k0, .ref p0, .int (iI ((w : Nat) : Int))])), (t0, .inl (cI, 24, .inl (fun j => iI ((tb a0 a1 j : Nat) : Int)))), (k0, .inl (cI, 12, .inl (fun j => iI ((K j : Nat) : Int)))), (p0, .inl (cI, 12, .inl (fun j => iI ((q j : Nat) : Int))))]) hD
  refine wr_call (va_runV (As := [.int (iI ((r : Nat) : Int)), .int (iI ((c9 : Nat) : Int))]) (rest := []) ⟨hx, hb, hml, hown, hts⟩ (mX1_placeOfPhrase_ok l dC dI cI m0 t0 k0 p0 a0 a1 K q th w hp0.1 hp1.1 hw hq r c9 (by omega) (by omega)) (cwV 2 hts gL_law_X1_placeOfPhrase rfl rfl rfl hvX1_placeOfPhrase ⟨(Nat.le_of_ble_eq_true rfl), (Nat.le_of_ble_eq_true rfl)⟩) (bD_pre (ci := 1) (q0 := 0) hK2 hP2 hD2 rfl rfl rfl) rfl rfl hl.1 rfl (lv_room (Nat.le_of_ble_eq_true rfl)) dL_law_1741 hf9) hS (fun q9 h => inW_A hD2 h) (fun H locs hPn hz hk hS => ?_)
  have hP : va_P (dC, dI) vwCl ([(o0, .inr (0, [.long (pk a0), .long (pk a1), .long (pkn q w), .int (iI ((w : Nat) : Int))])), (u0, .inl (cJ, 1, .inr (.inl (fun _ => (iI (if w = 0 then -1 else plF (rw_ r a0 a1) q c9 w)).toInt64))))] ++ [(m0, .inr (1, [.int (iI 0), .ref t0, .ref k0, .ref p0, .int (iI ((w : Nat) : Int))])), (t0, .inl (cI, 24, .inl (fun j => iI ((tb a0 a1 j : Nat) : Int)))), (k0, .inl (cI, 12, .inl (fun j => iI ((K j : Nat) : Int)))), (p0, .inl (cI, 12, .inl (fun j => iI ((q j : Nat) : Int))))]) H := wj_r (w1 := [(o0, .inr (0, [.long (pk a0), .long (pk a1), .long (pkn q w), .int (iI ((w : Nat) : Int))])), (u0, .inl (cJ, 1, .inr (.inl (fun _ => (iI (if w = 0 then -1 else plF (rw_ r a0 a1) q c9 w)).toInt64))))]) (w2 := [(m0, .inr (1, [.int th, .ref t0, .ref k0, .ref p0, .int (iI ((w : Nat) : Int))])), (t0, .inl (cI, 24, .inl (fun j => iI ((tb a0 a1 j : Nat) : Int)))), (k0, .inl (cI, 12, .inl (fun j => iI ((K j : Nat) : Int)))), (p0, .inl (cI, 12, .inl (fun j => iI ((q j : Nat) : Int))))]) (w2' := [(m0, .inr (1, [.int (iI 0), .ref t0, .ref k0, .ref p0, .int (iI ((w : Nat) : Int))])), (t0, .inl (cI, 24, .inl (fun j => iI ((tb a0 a1 j : Nat) : Int)))), (k0, .inl (cI, 12, .inl (fun j => iI ((K j : Nat) : Int)))), (p0, .inl (cI, 12, .inl (fun j => iI ((q j : Nat) : Int))))]) hP hD hPn hk
  have hD : va_D (LA s) ([(o0, .inr (0, [.long (pk a0), .long (pk a1), .long (pkn q w), .int (iI ((w : Nat) : Int))])), (u0, .inl (cJ, 1, .inr (.inl (fun _ => (iI (if w = 0 then -1 else plF (rw_ r a0 a1) q c9 w)).toInt64))))] ++ [(m0, .inr (1, [.int (iI 0), .ref t0, .ref k0, .ref p0, .int (iI ((w : Nat) : Int))])), (t0, .inl (cI, 24, .inl (fun j => iI ((tb a0 a1 j : Nat) : Int)))), (k0, .inl (cI, 12, .inl (fun j => iI ((K j : Nat) : Int)))), (p0, .inl (cI, 12, .inl (fun j => iI ((q j : Nat) : Int))))]) := va_D_same (w := ([(o0, .inr (0, [.long (pk a0), .long (pk a1), .long (pkn q w), .int (iI ((w : Nat) : Int))])), (u0, .inl (cJ, 1, .inr (.inl (fun _ => (iI (if w = 0 then -1 else plF (rw_ r a0 a1) q c9 w)).toInt64))))] ++ [(m0, .inr (1, [.int th, .ref t0, .ref k0, .ref p0, .int (iI ((w : Nat) : Int))])), (t0, .inl (cI, 24, .inl (fun j => iI ((tb a0 a1 j : Nat) : Int)))), (k0, .inl (cI, 12, .inl (fun j => iI ((K j : Nat) : Int)))), (p0, .inl (cI, 12, .inl (fun j => iI ((q j : Nat) : Int))))])) (Eq.trans (b := [o0, u0, m0, t0, k0, p0]) rfl rfl) hD
  refine va_forget hS.2.2 ?_
  have hS := va_S_nil hS
  refine lv_istore (lv' := [(6, .int (iI (if w = 0 then -1 else plF (rw_ r a0 a1) q c9 w))), (5, .int (iI 0)), (0, .ref b), (1, .ref o0), (2, .ref m0), (3, .ref u0), (4, .int (iI ((5 * n : Nat) : Int)))]) hx hb dL_law_1744 hl (by decide) rfl (fun ls hl => ?_)
  refine lv_aload_n hx hb dL_law_1746 rfl (lv_at hl 4 rfl) ?_
  have hP2 : va_P (dC, dI) vwCl [(m0, .inr (1, [.int (iI 0), .ref t0, .ref k0, .ref p0, .int (iI ((w : Nat) : Int))])), (t0, .inl (cI, 24, .inl (fun j => iI ((tb a0 a1 j : Nat) : Int)))), (k0, .inl (cI, 12, .inl (fun j => iI ((K j : Nat) : Int)))), (p0, .inl (cI, 12, .inl (fun j => iI ((q j : Nat) : Int))))] H := va_P_r (w1 := [(o0, .inr (0, [.long (pk a0), .long (pk a1), .long (pkn q w), .int (iI ((w : Nat) : Int))])), (u0, .inl (cJ, 1, .inr (.inl (fun _ => (iI (if w = 0 then -1 else plF (rw_ r a0 a1) q c9 w)).toInt64))))]) (w2 := [(m0, .inr (1, [.int (iI 0), .ref t0, .ref k0, .ref p0, .int (iI ((w : Nat) : Int))])), (t0, .inl (cI, 24, .inl (fun j => iI ((tb a0 a1 j : Nat) : Int)))), (k0, .inl (cI, 12, .inl (fun j => iI ((K j : Nat) : Int)))), (p0, .inl (cI, 12, .inl (fun j => iI ((q j : Nat) : Int))))]) hP
  have hK2 := hK.sub (tys' := [(cI, .int)]) [1] rfl
  have hf9 : cells + 1 + 0 ≤ room_1.cells ∧ slots + 6 + 0 ≤ room_1.slots := ⟨by show cells + 1 + 0 ≤ 1036; omega, by show slots + 6 + 0 ≤ 8286; omega⟩
  refine rd_call (va_runV (As := []) (rest := []) ⟨hx, hb, hml, hown, hts⟩ (mX1_thrown l dC dI cI m0 t0 k0 p0 a0 a1 K q (iI 0) w hp0.1 hp1.1 hw hq) (cwV 0 hts gL_law_X1_thrown rfl rfl rfl hvX1_thrown ⟨(Nat.le_of_ble_eq_true rfl), (Nat.le_of_ble_eq_true rfl)⟩) (bW_pre (ci := 1) (q0 := 0) hK2 hP2 rfl rfl rfl) rfl rfl hl.1 rfl (lv_room (Nat.le_of_ble_eq_true rfl)) dL_law_1747 hf9) ?_
  refine lv_iload hx hb dL_law_1750 (lv_at hl 1 rfl) ?_
  refine ib_icmp_eq (tgt := 1757) hx hb dL_law_1752 (by decide) ⟨by omega, by omega⟩ ⟨by omega, by omega⟩ (fun c_1752 => ?_) (fun c_1752 => absurd c_1752 (by decide))
  refine lv_iload hx hb dL_law_1757 (lv_at hl 1 rfl) ?_
  refine ib_if_ne (tgt := 1774) hx hb dL_law_1759 (by decide) ⟨by omega, by omega⟩ (fun c_1759 => absurd c_1759 (by decide)) (fun c_1759 => ?_)
  refine lv_aload_n hx hb dL_law_1762 rfl (lv_at hl 5 rfl) ?_
  refine ib_const hx hb dL_law_1763 ?_
  refine va_lald hx hb hK hP 1 0 rfl rfl vp0 dL_law_1764 ?_
  refine st_l (y := (iI (if w = 0 then -1 else plF (rw_ r a0 a1) q c9 w)).toInt64) rfl ?_
  refine lv_iload hx hb dL_law_1765 (lv_at hl 0 rfl) ?_
  refine lv_i2l hx hb dL_law_1767 rfl ?_
  refine W.lcmp hx hb dL_law_1768 ?_
  refine bl_eq (tgt := 1774) hx hb dL_law_1769 (by decide) (fun _ => ?_) (fun h => absurd rfl h)
  refine lv_goto (tgt := 1833) hx hb dL_law_1774 (by decide) ?_
  exact kk a0 a1 q K w (iI 0) (fun _ => (iI (if w = 0 then -1 else plF (rw_ r a0 a1) q c9 w)).toInt64) H ls ⟨hp0, hp1, hw, hq, hqd, hP, hD, hS⟩ (lv_sub hl [2, 3, 4, 5, 6] rfl)

set_option maxHeartbeats 4000000 in
set_option maxRecDepth 100000 in
theorem law_c24 {p : Program} {l : Launch} {e : Env} {s : State} {m : MethodId} {below : List Frame} {meth : Method} {c : Code} {Q : State → Prop} {dC : Nat → ClassId} {dI : Nat → Nat → Nat} {cI cJ : ClassId} {b L : Nat} {xs : Nat → Int32} (C : LC p l s m meth c (dC, dI) cI cJ b L xs) {o0 u0 m0 t0 k0 p0 : Nat} {a0 a1 q K : Nat → Nat} {w : Nat} {th : Int32} {g : Nat → Int64} {H : Heap} (hI : LI s (dC, dI) cI cJ o0 u0 m0 t0 k0 p0 a0 a1 q K w th g H) {n cells slots : Nat} (hc1 : cells + 1 ≤ 1036) (hc2 : slots + 6 ≤ 8286) (hn : 5 * n + 5 ≤ L) (hL : L ≤ 2560) {ls : Array Slot} (hl : lv_has ls 8 [(0, .ref b), (1, .ref o0), (2, .ref m0), (3, .ref u0), (4, .int (iI ((5 * n : Nat) : Int)))])
    (kk : ∀ (a0 a1 q K : Nat → Nat) (w : Nat) (th : Int32) (g : Nat → Int64) (H : Heap) (ls : Array Slot), LI s (dC, dI) cI cJ o0 u0 m0 t0 k0 p0 a0 a1 q K w th g H → lv_has ls 8 [(0, .ref b), (1, .ref o0), (2, .ref m0), (3, .ref u0), (4, .int (iI ((5 * n : Nat) : Int)))] → W p l e room_1 s m #[Value.ref b] below meth c H [] (cells + 1) (slots + 6) Q (F0 m 1833 ls [])) : W p l e room_1 s m #[Value.ref b] below meth c H [] cells slots Q (F0 m 1777 ls []) := by
  obtain ⟨hx, hb, hml, hown, hts, hK, hG0, hN, hX, hbl, hfl⟩ := C
  obtain ⟨hp0, hp1, hw, hq, hqd, hP, hD, hS⟩ := hI
  have hbA : ¬ LA s b := Nat.not_le.mpr hbl
  obtain ⟨z0, hz0, e0⟩ := ex_i (xs (5 * n + 1))
  have hza0 := hz0.1
  have hzb0 := hz0.2
  by_cases b1 : ¬ (z0 = 0 ∨ z0 = 1)
  · skip
    refine lv_aload_n hx hb dL_law_1777 rfl (lv_at hl 1 rfl) ?_
    refine lv_aload_n hx hb dL_law_1778 rfl (lv_at hl 0 rfl) ?_
    refine lv_iload hx hb dL_law_1779 (lv_at hl 4 rfl) ?_
    refine ib_const hx hb dL_law_1781 ?_
    refine ib_add (z := (((5 * n) + 1 : Nat) : Int)) hx hb dL_law_1782 (by omega) ?_
    refine st_i (y := iI ((5 * n + 1 : Nat) : Int)) (congrArg iI (by omega)) ?_
    refine va_sld (b := b) (L := L) (xs := xs) hx hb hX hbl hbA hS (iI_vp (i := 5 * n + 1) (by omega) (by omega)) dL_law_1783 ?_
    refine st_i (y := iI z0) ((congrArg xs (iI_cl (by omega))).trans e0) ?_
    refine lv_aload_n hx hb dL_law_1784 rfl (lv_at hl 3 rfl) ?_
    have hf9 : cells + 1 ≤ room_1.cells ∧ slots + 6 ≤ room_1.slots := ⟨by show cells + 1 ≤ 1036; omega, by show slots + 6 ≤ 8286; omega⟩
    have hP1 : va_P (dC, dI) vwCl [(o0, .inr (0, [.long (pk a0), .long (pk a1), .long (pkn q w), .int (iI ((w : Nat) : Int))]))] H := va_P_l (w1 := [(o0, .inr (0, [.long (pk a0), .long (pk a1), .long (pkn q w), .int (iI ((w : Nat) : Int))]))]) (w2 := [(u0, .inl (cJ, 1, .inr (.inl (g)))), (m0, .inr (1, [.int th, .ref t0, .ref k0, .ref p0, .int (iI ((w : Nat) : Int))])), (t0, .inl (cI, 24, .inl (fun j => iI ((tb a0 a1 j : Nat) : Int)))), (k0, .inl (cI, 12, .inl (fun j => iI ((K j : Nat) : Int)))), (p0, .inl (cI, 12, .inl (fun j => iI ((q j : Nat) : Int))))]) hP
    have hK1 := hK.sub (tys' := []) [] rfl
    refine rdK_call (vx_runSW (As := [.ref o0, .int (iI z0), .ref u0]) (rest := []) ⟨hx, hb, hml, hown, hts⟩ (mL_complete_x1 l hfl dC dI o0 a0 a1 q w hp0 hp1 hw hq hqd u0 z0 hz0 b1) (vx_cwSW 3 hts gL_law_L_complete rfl rfl rfl hdL_complete ⟨(Nat.le_of_ble_eq_true rfl), (Nat.le_of_ble_eq_true rfl)⟩) (bY_preS hK1 hP1 (hG0.at hS) hN) rfl rfl hl.1 rfl (lv_room (Nat.le_of_ble_eq_true rfl)) dL_law_1785 hf9) (fun H hz hk => ?_)
    have hP : va_P (dC, dI) vwCl ([(o0, .inr (0, [.long (pk a0), .long (pk a1), .long (pkn q w), .int (iI ((w : Nat) : Int))])), (u0, .inl (cJ, 1, .inr (.inl (g))))] ++ [(m0, .inr (1, [.int th, .ref t0, .ref k0, .ref p0, .int (iI ((w : Nat) : Int))])), (t0, .inl (cI, 24, .inl (fun j => iI ((tb a0 a1 j : Nat) : Int)))), (k0, .inl (cI, 12, .inl (fun j => iI ((K j : Nat) : Int)))), (p0, .inl (cI, 12, .inl (fun j => iI ((q j : Nat) : Int))))]) H := va_P_new hP hk
    have hS := va_S_new hS hz hk
    refine lv_istore (lv' := [(5, .int (iI 1)), (0, .ref b), (1, .ref o0), (2, .ref m0), (3, .ref u0), (4, .int (iI ((5 * n : Nat) : Int)))]) hx hb dL_law_1788 hl (by decide) rfl (fun ls hl => ?_)
    refine lv_aload_n hx hb dL_law_1790 rfl (lv_at hl 3 rfl) ?_
    refine lv_aload_n hx hb dL_law_1791 rfl (lv_at hl 1 rfl) ?_
    refine lv_iload hx hb dL_law_1792 (lv_at hl 5 rfl) ?_
    refine ib_const hx hb dL_law_1794 ?_
    refine ib_add (z := (((5 * n) + 1 : Nat) : Int)) hx hb dL_law_1795 (by omega) ?_
    refine st_i (y := iI ((5 * n + 1 : Nat) : Int)) (congrArg iI (by omega)) ?_
    refine va_sld (b := b) (L := L) (xs := xs) hx hb hX hbl hbA hS (iI_vp (i := 5 * n + 1) (by omega) (by omega)) dL_law_1796 ?_
    refine st_i (y := iI z0) ((congrArg xs (iI_cl (by omega))).trans e0) ?_
    have hP2 : va_P (dC, dI) vwCl [(m0, .inr (1, [.int th, .ref t0, .ref k0, .ref p0, .int (iI ((w : Nat) : Int))])), (t0, .inl (cI, 24, .inl (fun j => iI ((tb a0 a1 j : Nat) : Int)))), (k0, .inl (cI, 12, .inl (fun j => iI ((K j : Nat) : Int)))), (p0, .inl (cI, 12, .inl (fun j => iI ((q j : Nat) : Int))))] H := va_P_r (w1 := [(o0, .inr (0, [.long (pk a0), .long (pk a1), .long (pkn q w), .int (iI ((w : Nat) : Int))])), (u0, .inl (cJ, 1, .inr (.inl (g))))]) (w2 := [(m0, .inr (1, [.int th, .ref t0, .ref k0, .ref p0, .int (iI ((w : Nat) : Int))])), (t0, .inl (cI, 24, .inl (fun j => iI ((tb a0 a1 j : Nat) : Int)))), (k0, .inl (cI, 12, .inl (fun j => iI ((K j : Nat) : Int)))), (p0, .inl (cI, 12, .inl (fun j => iI ((q j : Nat) : Int))))]) hP
    have hK2 := hK.sub (tys' := [(cI, .int)]) [1] rfl
    have hf9 : cells + 1 + 0 ≤ room_1.cells ∧ slots + 6 + 0 ≤ room_1.slots := ⟨by show cells + 1 + 0 ≤ 1036; omega, by show slots + 6 + 0 ≤ 8286; omega⟩
    have hD2 : va_D (LA s) [(m0, .inr (1, [.int th, .ref t0, .ref k0, .ref p0, .int (iI ((w : Nat) : Int))])), (t0, .inl (cI, 24, .inl (fun j => iI ((tb a0 a1 j : Nat) : Int)))), (k0, .inl (cI, 12, .inl (fun j => iI ((K j : Nat) : Int)))), (p0, .inl (cI, 12, .inl (fun j => iI ((q j : Nat) : Int))))] := va_D_r (w1 := [(o0, .inr (0, [.long (pk a0), .long (pk a1), .long (pkn q w), .int (iI ((w : Nat) : Int))])), (u0, .inl (cJ, 1, .inr (.inl (g))))]) (w2 := [(m0, .inr (1, [.int th, .ref t0, .ref k0, .ref p0, .int (iI ((w : Nat) : Int))])), (t0, .inl (cI, 24, .inl (fun j => iI ((tb a0 a1 j : Nat) : Int)))), (k0, .inl (cI, 12, .inl (fun j => iI ((K j : Nat) : Int)))), (p0, .inl (cI, 12, .inl (fun j => iI ((q j : Nat) : Int))))]) hD
    refine wr_call (va_runV (As := [.int (iI z0)]) (rest := []) ⟨hx, hb, hml, hown, hts⟩ (mX1_complete_x1 l dC dI cI m0 t0 k0 p0 a0 a1 K q th w hp0.1 hp1.1 hw hq z0 hz0 b1) (cwV 1 hts gL_law_X1_complete rfl rfl rfl hvX1_complete ⟨(Nat.le_of_ble_eq_true rfl), (Nat.le_of_ble_eq_true rfl)⟩) (bD_pre (ci := 1) (q0 := 0) hK2 hP2 hD2 rfl rfl rfl) rfl rfl hl.1 rfl (lv_room (Nat.le_of_ble_eq_true rfl)) dL_law_1797 hf9) hS (fun q9 h => inW_A hD2 h) (fun H locs hPn hz hk hS => ?_)
    have hP : va_P (dC, dI) vwCl ([(o0, .inr (0, [.long (pk a0), .long (pk a1), .long (pkn q w), .int (iI ((w : Nat) : Int))])), (u0, .inl (cJ, 1, .inr (.inl (g))))] ++ [(m0, .inr (1, [.int (iI 1), .ref t0, .ref k0, .ref p0, .int (iI ((w : Nat) : Int))])), (t0, .inl (cI, 24, .inl (fun j => iI ((tb a0 a1 j : Nat) : Int)))), (k0, .inl (cI, 12, .inl (fun j => iI ((K j : Nat) : Int)))), (p0, .inl (cI, 12, .inl (fun j => iI ((q j : Nat) : Int))))]) H := wj_r (w1 := [(o0, .inr (0, [.long (pk a0), .long (pk a1), .long (pkn q w), .int (iI ((w : Nat) : Int))])), (u0, .inl (cJ, 1, .inr (.inl (g))))]) (w2 := [(m0, .inr (1, [.int th, .ref t0, .ref k0, .ref p0, .int (iI ((w : Nat) : Int))])), (t0, .inl (cI, 24, .inl (fun j => iI ((tb a0 a1 j : Nat) : Int)))), (k0, .inl (cI, 12, .inl (fun j => iI ((K j : Nat) : Int)))), (p0, .inl (cI, 12, .inl (fun j => iI ((q j : Nat) : Int))))]) (w2' := [(m0, .inr (1, [.int (iI 1), .ref t0, .ref k0, .ref p0, .int (iI ((w : Nat) : Int))])), (t0, .inl (cI, 24, .inl (fun j => iI ((tb a0 a1 j : Nat) : Int)))), (k0, .inl (cI, 12, .inl (fun j => iI ((K j : Nat) : Int)))), (p0, .inl (cI, 12, .inl (fun j => iI ((q j : Nat) : Int))))]) hP hD hPn hk
    have hD : va_D (LA s) ([(o0, .inr (0, [.long (pk a0), .long (pk a1), .long (pkn q w), .int (iI ((w : Nat) : Int))])), (u0, .inl (cJ, 1, .inr (.inl (g))))] ++ [(m0, .inr (1, [.int (iI 1), .ref t0, .ref k0, .ref p0, .int (iI ((w : Nat) : Int))])), (t0, .inl (cI, 24, .inl (fun j => iI ((tb a0 a1 j : Nat) : Int)))), (k0, .inl (cI, 12, .inl (fun j => iI ((K j : Nat) : Int)))), (p0, .inl (cI, 12, .inl (fun j => iI ((q j : Nat) : Int))))]) := va_D_same (w := ([(o0, .inr (0, [.long (pk a0), .long (pk a1), .long (pkn q w), .int (iI ((w : Nat) : Int))])), (u0, .inl (cJ, 1, .inr (.inl (g))))] ++ [(m0, .inr (1, [.int th, .ref t0, .ref k0, .ref p0, .int (iI ((w : Nat) : Int))])), (t0, .inl (cI, 24, .inl (fun j => iI ((tb a0 a1 j : Nat) : Int)))), (k0, .inl (cI, 12, .inl (fun j => iI ((K j : Nat) : Int)))), (p0, .inl (cI, 12, .inl (fun j => iI ((q j : Nat) : Int))))])) (Eq.trans (b := [o0, u0, m0, t0, k0, p0]) rfl rfl) hD
    refine va_forget hS.2.2 ?_
    have hS := va_S_nil hS
    refine lv_istore (lv' := [(6, .int (iI 0)), (5, .int (iI 1)), (0, .ref b), (1, .ref o0), (2, .ref m0), (3, .ref u0), (4, .int (iI ((5 * n : Nat) : Int)))]) hx hb dL_law_1800 hl (by decide) rfl (fun ls hl => ?_)
    refine lv_aload_n hx hb dL_law_1802 rfl (lv_at hl 4 rfl) ?_
    have hP2 : va_P (dC, dI) vwCl [(m0, .inr (1, [.int (iI 1), .ref t0, .ref k0, .ref p0, .int (iI ((w : Nat) : Int))])), (t0, .inl (cI, 24, .inl (fun j => iI ((tb a0 a1 j : Nat) : Int)))), (k0, .inl (cI, 12, .inl (fun j => iI ((K j : Nat) : Int)))), (p0, .inl (cI, 12, .inl (fun j => iI ((q j : Nat) : Int))))] H := va_P_r (w1 := [(o0, .inr (0, [.long (pk a0), .long (pk a1), .long (pkn q w), .int (iI ((w : Nat) : Int))])), (u0, .inl (cJ, 1, .inr (.inl (g))))]) (w2 := [(m0, .inr (1, [.int (iI 1), .ref t0, .ref k0, .ref p0, .int (iI ((w : Nat) : Int))])), (t0, .inl (cI, 24, .inl (fun j => iI ((tb a0 a1 j : Nat) : Int)))), (k0, .inl (cI, 12, .inl (fun j => iI ((K j : Nat) : Int)))), (p0, .inl (cI, 12, .inl (fun j => iI ((q j : Nat) : Int))))]) hP
    have hK2 := hK.sub (tys' := [(cI, .int)]) [1] rfl
    have hf9 : cells + 1 + 0 ≤ room_1.cells ∧ slots + 6 + 0 ≤ room_1.slots := ⟨by show cells + 1 + 0 ≤ 1036; omega, by show slots + 6 + 0 ≤ 8286; omega⟩
    refine rd_call (va_runV (As := []) (rest := []) ⟨hx, hb, hml, hown, hts⟩ (mX1_thrown l dC dI cI m0 t0 k0 p0 a0 a1 K q (iI 1) w hp0.1 hp1.1 hw hq) (cwV 0 hts gL_law_X1_thrown rfl rfl rfl hvX1_thrown ⟨(Nat.le_of_ble_eq_true rfl), (Nat.le_of_ble_eq_true rfl)⟩) (bW_pre (ci := 1) (q0 := 0) hK2 hP2 rfl rfl rfl) rfl rfl hl.1 rfl (lv_room (Nat.le_of_ble_eq_true rfl)) dL_law_1803 hf9) ?_
    refine lv_iload hx hb dL_law_1806 (lv_at hl 1 rfl) ?_
    refine ib_icmp_eq (tgt := 1813) hx hb dL_law_1808 (by decide) ⟨by omega, by omega⟩ ⟨by omega, by omega⟩ (fun c_1808 => ?_) (fun c_1808 => absurd c_1808 (by decide))
    refine lv_iload hx hb dL_law_1813 (lv_at hl 1 rfl) ?_
    refine ib_if_ne (tgt := 1830) hx hb dL_law_1815 (by decide) ⟨by omega, by omega⟩ (fun c_1815 => ?_) (fun c_1815 => absurd c_1815 (by decide))
    refine lv_goto (tgt := 1833) hx hb dL_law_1830 (by decide) ?_
    exact kk a0 a1 q K w (iI 1) (g) H ls ⟨hp0, hp1, hw, hq, hqd, hP, hD, hS⟩ (lv_sub hl [2, 3, 4, 5, 6] rfl)
  obtain ⟨r, hn0, rfl⟩ := nat_of (z := z0) (k := 4095) (by omega)
  obtain ⟨G, e12, he12, hGP, hGe, hce⟩ := cp_G (K := K) (rw_Pm hp0 hp1 r) hq hqd
  have hF : Pm (G) := hGP
  refine lv_aload_n hx hb dL_law_1777 rfl (lv_at hl 1 rfl) ?_
  refine lv_aload_n hx hb dL_law_1778 rfl (lv_at hl 0 rfl) ?_
  refine lv_iload hx hb dL_law_1779 (lv_at hl 4 rfl) ?_
  refine ib_const hx hb dL_law_1781 ?_
  refine ib_add (z := (((5 * n) + 1 : Nat) : Int)) hx hb dL_law_1782 (by omega) ?_
  refine st_i (y := iI ((5 * n + 1 : Nat) : Int)) (congrArg iI (by omega)) ?_
  refine va_sld (b := b) (L := L) (xs := xs) hx hb hX hbl hbA hS (iI_vp (i := 5 * n + 1) (by omega) (by omega)) dL_law_1783 ?_
  refine st_i (y := iI ((r : Nat) : Int)) ((congrArg xs (iI_cl (by omega))).trans e0) ?_
  refine lv_aload_n hx hb dL_law_1784 rfl (lv_at hl 3 rfl) ?_
  have hf9 : cells + 0 ≤ room_1.cells ∧ slots + 0 ≤ room_1.slots := ⟨by show cells + 0 ≤ 1036; omega, by show slots + 0 ≤ 8286; omega⟩
  have hP1 : va_P (dC, dI) vwCl [(o0, .inr (0, [.long (pk a0), .long (pk a1), .long (pkn q w), .int (iI ((w : Nat) : Int))])), (u0, .inl (cJ, 1, .inr (.inl (g))))] H := va_P_l (w1 := [(o0, .inr (0, [.long (pk a0), .long (pk a1), .long (pkn q w), .int (iI ((w : Nat) : Int))])), (u0, .inl (cJ, 1, .inr (.inl (g))))]) (w2 := [(m0, .inr (1, [.int th, .ref t0, .ref k0, .ref p0, .int (iI ((w : Nat) : Int))])), (t0, .inl (cI, 24, .inl (fun j => iI ((tb a0 a1 j : Nat) : Int)))), (k0, .inl (cI, 12, .inl (fun j => iI ((K j : Nat) : Int)))), (p0, .inl (cI, 12, .inl (fun j => iI ((q j : Nat) : Int))))]) hP
  have hD1 : va_D (LA s) [(o0, .inr (0, [.long (pk a0), .long (pk a1), .long (pkn q w), .int (iI ((w : Nat) : Int))])), (u0, .inl (cJ, 1, .inr (.inl (g))))] := va_D_l (w1 := [(o0, .inr (0, [.long (pk a0), .long (pk a1), .long (pkn q w), .int (iI ((w : Nat) : Int))])), (u0, .inl (cJ, 1, .inr (.inl (g))))]) (w2 := [(m0, .inr (1, [.int th, .ref t0, .ref k0, .ref p0, .int (iI ((w : Nat) : Int))])), (t0, .inl (cI, 24, .inl (fun j => iI ((tb a0 a1 j : Nat) : Int)))), (k0, .inl (cI, 12, .inl (fun j => iI ((K j : Nat) : Int)))), (p0, .inl (cI, 12, .inl (fun j => iI ((q j : Nat) : Int))))]) hD
  have hK1 := hK.sub (tys' := [(cJ, .long)]) [0] rfl
  refine wr_call (vx_runSW (As := [.ref o0, .int (iI ((r : Nat) : Int)), .ref u0]) (rest := []) ⟨hx, hb, hml, hown, hts⟩ (mL_complete_ok l dC dI cJ o0 u0 a0 a1 q w hp0 hp1 hw hq hqd g r (by omega) G e12 he12 hGP.1 hGe) (vx_cwSW 3 hts gL_law_L_complete rfl rfl rfl hdL_complete ⟨(Nat.le_of_ble_eq_true rfl), (Nat.le_of_ble_eq_true rfl)⟩) (bD_preS hK1 hP1 hD1) rfl rfl hl.1 rfl (lv_room (Nat.le_of_ble_eq_true rfl)) dL_law_1785 hf9) hS (fun q9 h => inW_A hD1 h) (fun H locs hPn hz hk hS => ?_)
  have hP : va_P (dC, dI) vwCl ([(o0, .inr (0, [.long (pk (sr0 r G a0)), .long (pk (sr1 r G a1)), .long (pkn q w), .int (iI ((w : Nat) : Int))])), (u0, .inl (cJ, 1, .inr (.inl (fun _ => (iI ((G 0 : Nat) : Int)).toInt64))))] ++ [(m0, .inr (1, [.int th, .ref t0, .ref k0, .ref p0, .int (iI ((w : Nat) : Int))])), (t0, .inl (cI, 24, .inl (fun j => iI ((tb a0 a1 j : Nat) : Int)))), (k0, .inl (cI, 12, .inl (fun j => iI ((K j : Nat) : Int)))), (p0, .inl (cI, 12, .inl (fun j => iI ((q j : Nat) : Int))))]) H := wj_l (w1 := [(o0, .inr (0, [.long (pk a0), .long (pk a1), .long (pkn q w), .int (iI ((w : Nat) : Int))])), (u0, .inl (cJ, 1, .inr (.inl (g))))]) (w2 := [(m0, .inr (1, [.int th, .ref t0, .ref k0, .ref p0, .int (iI ((w : Nat) : Int))])), (t0, .inl (cI, 24, .inl (fun j => iI ((tb a0 a1 j : Nat) : Int)))), (k0, .inl (cI, 12, .inl (fun j => iI ((K j : Nat) : Int)))), (p0, .inl (cI, 12, .inl (fun j => iI ((q j : Nat) : Int))))]) (w1' := [(o0, .inr (0, [.long (pk (sr0 r G a0)), .long (pk (sr1 r G a1)), .long (pkn q w), .int (iI ((w : Nat) : Int))])), (u0, .inl (cJ, 1, .inr (.inl (fun _ => (iI ((G 0 : Nat) : Int)).toInt64))))]) hP hD hPn hk
  have hD : va_D (LA s) ([(o0, .inr (0, [.long (pk (sr0 r G a0)), .long (pk (sr1 r G a1)), .long (pkn q w), .int (iI ((w : Nat) : Int))])), (u0, .inl (cJ, 1, .inr (.inl (fun _ => (iI ((G 0 : Nat) : Int)).toInt64))))] ++ [(m0, .inr (1, [.int th, .ref t0, .ref k0, .ref p0, .int (iI ((w : Nat) : Int))])), (t0, .inl (cI, 24, .inl (fun j => iI ((tb a0 a1 j : Nat) : Int)))), (k0, .inl (cI, 12, .inl (fun j => iI ((K j : Nat) : Int)))), (p0, .inl (cI, 12, .inl (fun j => iI ((q j : Nat) : Int))))]) := va_D_same (w := ([(o0, .inr (0, [.long (pk a0), .long (pk a1), .long (pkn q w), .int (iI ((w : Nat) : Int))])), (u0, .inl (cJ, 1, .inr (.inl (g))))] ++ [(m0, .inr (1, [.int th, .ref t0, .ref k0, .ref p0, .int (iI ((w : Nat) : Int))])), (t0, .inl (cI, 24, .inl (fun j => iI ((tb a0 a1 j : Nat) : Int)))), (k0, .inl (cI, 12, .inl (fun j => iI ((K j : Nat) : Int)))), (p0, .inl (cI, 12, .inl (fun j => iI ((q j : Nat) : Int))))])) (Eq.trans (b := [o0, u0, m0, t0, k0, p0]) rfl rfl) hD
  refine va_forget hS.2.2 ?_
  have hS := va_S_nil hS
  refine W.widen (k := cells + 1) (n := slots + 6) (by omega) (by omega) ?_
  refine lv_istore (lv' := [(5, .int (iI 0)), (0, .ref b), (1, .ref o0), (2, .ref m0), (3, .ref u0), (4, .int (iI ((5 * n : Nat) : Int)))]) hx hb dL_law_1788 hl (by decide) rfl (fun ls hl => ?_)
  refine lv_aload_n hx hb dL_law_1790 rfl (lv_at hl 3 rfl) ?_
  refine lv_aload_n hx hb dL_law_1791 rfl (lv_at hl 1 rfl) ?_
  refine lv_iload hx hb dL_law_1792 (lv_at hl 5 rfl) ?_
  refine ib_const hx hb dL_law_1794 ?_
  refine ib_add (z := (((5 * n) + 1 : Nat) : Int)) hx hb dL_law_1795 (by omega) ?_
  refine st_i (y := iI ((5 * n + 1 : Nat) : Int)) (congrArg iI (by omega)) ?_
  refine va_sld (b := b) (L := L) (xs := xs) hx hb hX hbl hbA hS (iI_vp (i := 5 * n + 1) (by omega) (by omega)) dL_law_1796 ?_
  refine st_i (y := iI ((r : Nat) : Int)) ((congrArg xs (iI_cl (by omega))).trans e0) ?_
  have hP2 : va_P (dC, dI) vwCl [(m0, .inr (1, [.int th, .ref t0, .ref k0, .ref p0, .int (iI ((w : Nat) : Int))])), (t0, .inl (cI, 24, .inl (fun j => iI ((tb a0 a1 j : Nat) : Int)))), (k0, .inl (cI, 12, .inl (fun j => iI ((K j : Nat) : Int)))), (p0, .inl (cI, 12, .inl (fun j => iI ((q j : Nat) : Int))))] H := va_P_r (w1 := [(o0, .inr (0, [.long (pk (sr0 r G a0)), .long (pk (sr1 r G a1)), .long (pkn q w), .int (iI ((w : Nat) : Int))])), (u0, .inl (cJ, 1, .inr (.inl (fun _ => (iI ((G 0 : Nat) : Int)).toInt64))))]) (w2 := [(m0, .inr (1, [.int th, .ref t0, .ref k0, .ref p0, .int (iI ((w : Nat) : Int))])), (t0, .inl (cI, 24, .inl (fun j => iI ((tb a0 a1 j : Nat) : Int)))), (k0, .inl (cI, 12, .inl (fun j => iI ((K j : Nat) : Int)))), (p0, .inl (cI, 12, .inl (fun j => iI ((q j : Nat) : Int))))]) hP
  have hK2 := hK.sub (tys' := [(cI, .int)]) [1] rfl
  have hf9 : cells + 1 + 0 ≤ room_1.cells ∧ slots + 6 + 0 ≤ room_1.slots := ⟨by show cells + 1 + 0 ≤ 1036; omega, by show slots + 6 + 0 ≤ 8286; omega⟩
  have hD2 : va_D (LA s) [(m0, .inr (1, [.int th, .ref t0, .ref k0, .ref p0, .int (iI ((w : Nat) : Int))])), (t0, .inl (cI, 24, .inl (fun j => iI ((tb a0 a1 j : Nat) : Int)))), (k0, .inl (cI, 12, .inl (fun j => iI ((K j : Nat) : Int)))), (p0, .inl (cI, 12, .inl (fun j => iI ((q j : Nat) : Int))))] := va_D_r (w1 := [(o0, .inr (0, [.long (pk (sr0 r G a0)), .long (pk (sr1 r G a1)), .long (pkn q w), .int (iI ((w : Nat) : Int))])), (u0, .inl (cJ, 1, .inr (.inl (fun _ => (iI ((G 0 : Nat) : Int)).toInt64))))]) (w2 := [(m0, .inr (1, [.int th, .ref t0, .ref k0, .ref p0, .int (iI ((w : Nat) : Int))])), (t0, .inl (cI, 24, .inl (fun j => iI ((tb a0 a1 j : Nat) : Int)))), (k0, .inl (cI, 12, .inl (fun j => iI ((K j : Nat) : Int)))), (p0, .inl (cI, 12, .inl (fun j => iI ((q j : Nat) : Int))))]) hD
  refine wr_call (va_runV (As := [.int (iI ((r : Nat) : Int))]) (rest := []) ⟨hx, hb, hml, hown, hts⟩ (mX1_complete_ok l dC dI cI m0 t0 k0 p0 a0 a1 K q th w hp0.1 hp1.1 hw hq r (by omega) (fun n9 h9 h8 => cpC_12 (rw_Pm hp0 hp1 r) hw hq hqd h9 h8) G e12 he12 hGP.1 hce) (cwV 1 hts gL_law_X1_complete rfl rfl rfl hvX1_complete ⟨(Nat.le_of_ble_eq_true rfl), (Nat.le_of_ble_eq_true rfl)⟩) (bD_pre (ci := 1) (q0 := 0) hK2 hP2 hD2 rfl rfl rfl) rfl rfl hl.1 rfl (lv_room (Nat.le_of_ble_eq_true rfl)) dL_law_1797 hf9) hS (fun q9 h => inW_A hD2 h) (fun H locs hPn hz hk hS => ?_)
  have hP : va_P (dC, dI) vwCl ([(o0, .inr (0, [.long (pk (sr0 r G a0)), .long (pk (sr1 r G a1)), .long (pkn q w), .int (iI ((w : Nat) : Int))])), (u0, .inl (cJ, 1, .inr (.inl (fun _ => (iI ((G 0 : Nat) : Int)).toInt64))))] ++ [(m0, .inr (1, [.int (iI 0), .ref t0, .ref k0, .ref p0, .int (iI ((w : Nat) : Int))])), (t0, .inl (cI, 24, .inl (fun j => iI ((tb (sr0 r G a0) (sr1 r G a1) j : Nat) : Int)))), (k0, .inl (cI, 12, .inl (fun j => iI (((cpK q (rw_ r a0 a1) K w e12) j : Nat) : Int)))), (p0, .inl (cI, 12, .inl (fun j => iI ((q j : Nat) : Int))))]) H := wj_r (w1 := [(o0, .inr (0, [.long (pk (sr0 r G a0)), .long (pk (sr1 r G a1)), .long (pkn q w), .int (iI ((w : Nat) : Int))])), (u0, .inl (cJ, 1, .inr (.inl (fun _ => (iI ((G 0 : Nat) : Int)).toInt64))))]) (w2 := [(m0, .inr (1, [.int th, .ref t0, .ref k0, .ref p0, .int (iI ((w : Nat) : Int))])), (t0, .inl (cI, 24, .inl (fun j => iI ((tb a0 a1 j : Nat) : Int)))), (k0, .inl (cI, 12, .inl (fun j => iI ((K j : Nat) : Int)))), (p0, .inl (cI, 12, .inl (fun j => iI ((q j : Nat) : Int))))]) (w2' := [(m0, .inr (1, [.int (iI 0), .ref t0, .ref k0, .ref p0, .int (iI ((w : Nat) : Int))])), (t0, .inl (cI, 24, .inl (fun j => iI ((tb (sr0 r G a0) (sr1 r G a1) j : Nat) : Int)))), (k0, .inl (cI, 12, .inl (fun j => iI (((cpK q (rw_ r a0 a1) K w e12) j : Nat) : Int)))), (p0, .inl (cI, 12, .inl (fun j => iI ((q j : Nat) : Int))))]) hP hD hPn hk
  have hD : va_D (LA s) ([(o0, .inr (0, [.long (pk (sr0 r G a0)), .long (pk (sr1 r G a1)), .long (pkn q w), .int (iI ((w : Nat) : Int))])), (u0, .inl (cJ, 1, .inr (.inl (fun _ => (iI ((G 0 : Nat) : Int)).toInt64))))] ++ [(m0, .inr (1, [.int (iI 0), .ref t0, .ref k0, .ref p0, .int (iI ((w : Nat) : Int))])), (t0, .inl (cI, 24, .inl (fun j => iI ((tb (sr0 r G a0) (sr1 r G a1) j : Nat) : Int)))), (k0, .inl (cI, 12, .inl (fun j => iI (((cpK q (rw_ r a0 a1) K w e12) j : Nat) : Int)))), (p0, .inl (cI, 12, .inl (fun j => iI ((q j : Nat) : Int))))]) := va_D_same (w := ([(o0, .inr (0, [.long (pk (sr0 r G a0)), .long (pk (sr1 r G a1)), .long (pkn q w), .int (iI ((w : Nat) : Int))])), (u0, .inl (cJ, 1, .inr (.inl (fun _ => (iI ((G 0 : Nat) : Int)).toInt64))))] ++ [(m0, .inr (1, [.int th, .ref t0, .ref k0, .ref p0, .int (iI ((w : Nat) : Int))])), (t0, .inl (cI, 24, .inl (fun j => iI ((tb a0 a1 j : Nat) : Int)))), (k0, .inl (cI, 12, .inl (fun j => iI ((K j : Nat) : Int)))), (p0, .inl (cI, 12, .inl (fun j => iI ((q j : Nat) : Int))))])) (Eq.trans (b := [o0, u0, m0, t0, k0, p0]) rfl rfl) hD
  refine va_forget hS.2.2 ?_
  have hS := va_S_nil hS
  refine lv_istore (lv' := [(6, .int (iI ((G 0 : Nat) : Int))), (5, .int (iI 0)), (0, .ref b), (1, .ref o0), (2, .ref m0), (3, .ref u0), (4, .int (iI ((5 * n : Nat) : Int)))]) hx hb dL_law_1800 hl (by decide) rfl (fun ls hl => ?_)
  refine lv_aload_n hx hb dL_law_1802 rfl (lv_at hl 4 rfl) ?_
  have hP2 : va_P (dC, dI) vwCl [(m0, .inr (1, [.int (iI 0), .ref t0, .ref k0, .ref p0, .int (iI ((w : Nat) : Int))])), (t0, .inl (cI, 24, .inl (fun j => iI ((tb (sr0 r G a0) (sr1 r G a1) j : Nat) : Int)))), (k0, .inl (cI, 12, .inl (fun j => iI (((cpK q (rw_ r a0 a1) K w e12) j : Nat) : Int)))), (p0, .inl (cI, 12, .inl (fun j => iI ((q j : Nat) : Int))))] H := va_P_r (w1 := [(o0, .inr (0, [.long (pk (sr0 r G a0)), .long (pk (sr1 r G a1)), .long (pkn q w), .int (iI ((w : Nat) : Int))])), (u0, .inl (cJ, 1, .inr (.inl (fun _ => (iI ((G 0 : Nat) : Int)).toInt64))))]) (w2 := [(m0, .inr (1, [.int (iI 0), .ref t0, .ref k0, .ref p0, .int (iI ((w : Nat) : Int))])), (t0, .inl (cI, 24, .inl (fun j => iI ((tb (sr0 r G a0) (sr1 r G a1) j : Nat) : Int)))), (k0, .inl (cI, 12, .inl (fun j => iI (((cpK q (rw_ r a0 a1) K w e12) j : Nat) : Int)))), (p0, .inl (cI, 12, .inl (fun j => iI ((q j : Nat) : Int))))]) hP
  have hK2 := hK.sub (tys' := [(cI, .int)]) [1] rfl
  have hf9 : cells + 1 + 0 ≤ room_1.cells ∧ slots + 6 + 0 ≤ room_1.slots := ⟨by show cells + 1 + 0 ≤ 1036; omega, by show slots + 6 + 0 ≤ 8286; omega⟩
  refine rd_call (va_runV (As := []) (rest := []) ⟨hx, hb, hml, hown, hts⟩ (mX1_thrown l dC dI cI m0 t0 k0 p0 (sr0 r G a0) (sr1 r G a1) (cpK q (rw_ r a0 a1) K w e12) q (iI 0) w (sr0_Pm r hF hp0).1 (sr1_Pm r hF hp1).1 hw hq) (cwV 0 hts gL_law_X1_thrown rfl rfl rfl hvX1_thrown ⟨(Nat.le_of_ble_eq_true rfl), (Nat.le_of_ble_eq_true rfl)⟩) (bW_pre (ci := 1) (q0 := 0) hK2 hP2 rfl rfl rfl) rfl rfl hl.1 rfl (lv_room (Nat.le_of_ble_eq_true rfl)) dL_law_1803 hf9) ?_
  refine lv_iload hx hb dL_law_1806 (lv_at hl 1 rfl) ?_
  refine ib_icmp_eq (tgt := 1813) hx hb dL_law_1808 (by decide) ⟨by omega, by omega⟩ ⟨by omega, by omega⟩ (fun c_1808 => ?_) (fun c_1808 => absurd c_1808 (by decide))
  refine lv_iload hx hb dL_law_1813 (lv_at hl 1 rfl) ?_
  refine ib_if_ne (tgt := 1830) hx hb dL_law_1815 (by decide) ⟨by omega, by omega⟩ (fun c_1815 => absurd c_1815 (by decide)) (fun c_1815 => ?_)
  refine lv_aload_n hx hb dL_law_1818 rfl (lv_at hl 5 rfl) ?_
  refine ib_const hx hb dL_law_1819 ?_
  refine va_lald hx hb hK hP 1 0 rfl rfl vp0 dL_law_1820 ?_
  refine st_l (y := (iI ((G 0 : Nat) : Int)).toInt64) rfl ?_
  refine lv_iload hx hb dL_law_1821 (lv_at hl 0 rfl) ?_
  refine lv_i2l hx hb dL_law_1823 rfl ?_
  refine W.lcmp hx hb dL_law_1824 ?_
  refine bl_eq (tgt := 1830) hx hb dL_law_1825 (by decide) (fun _ => ?_) (fun h => absurd rfl h)
  refine lv_goto (tgt := 1833) hx hb dL_law_1830 (by decide) ?_
  exact kk (sr0 r G a0) (sr1 r G a1) q (cpK q (rw_ r a0 a1) K w e12) w (iI 0) (fun _ => (iI ((G 0 : Nat) : Int)).toInt64) H ls ⟨(sr0_Pm r hF hp0), (sr1_Pm r hF hp1), hw, hq, hqd, hP, hD, hS⟩ (lv_sub hl [2, 3, 4, 5, 6] rfl)
