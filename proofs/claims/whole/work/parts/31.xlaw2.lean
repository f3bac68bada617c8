set_option maxHeartbeats 4000000 in
set_option maxRecDepth 100000 in
theorem law_c9 {p : Program} {l : Launch} {e : Env} {s : State} {m : MethodId} {below : List Frame} {meth : Method} {c : Code} {Q : State → Prop} {dC : Nat → ClassId} {dI : Nat → Nat → Nat} {cI cJ : ClassId} {b L : Nat} {xs : Nat → Int32} (C : LC p l s m meth c (dC, dI) cI cJ b L xs) {o0 u0 m0 t0 k0 p0 : Nat} {a0 a1 q K : Nat → Nat} {w : Nat} {th : Int32} {g : Nat → Int64} {H : Heap} (hI : LI s (dC, dI) cI cJ o0 u0 m0 t0 k0 p0 a0 a1 q K w th g H) {n cells slots : Nat} (hc1 : cells + 1 ≤ 1036) (hc2 : slots + 6 ≤ 8286) (hn : 5 * n + 5 ≤ L) (hL : L ≤ 2560) {ls : Array Slot} (hl : lv_has ls 8 [(0, .ref b), (1, .ref o0), (2, .ref m0), (3, .ref u0), (4, .int (iI ((5 * n : Nat) : Int)))])
    (kk : ∀ (a0 a1 q K : Nat → Nat) (w : Nat) (th : Int32) (g : Nat → Int64) (H : Heap) (ls : Array Slot), LI s (dC, dI) cI cJ o0 u0 m0 t0 k0 p0 a0 a1 q K w th g H → lv_has ls 8 [(0, .ref b), (1, .ref o0), (2, .ref m0), (3, .ref u0), (4, .int (iI ((5 * n : Nat) : Int)))] → W p l e room_1 s m #[Value.ref b] below meth c H [] (cells + 1) (slots + 6) Q (F0 m 1833 ls [])) : W p l e room_1 s m #[Value.ref b] below meth c H [] cells slots Q (F0 m 831 ls []) := by
  obtain ⟨hx, hb, hml, hown, hts, hK, hG0, hN, hX, hbl, hfl⟩ := C
  obtain ⟨hp0, hp1, hw, hq, hqd, hP, hD, hS⟩ := hI
  have hbA : ¬ LA s b := Nat.not_le.mpr hbl
  obtain ⟨z0, hz0, e0⟩ := ex_i (xs (5 * n + 1))
  have hza0 := hz0.1
  have hzb0 := hz0.2
  by_cases b1 : ¬ (z0 = 0 ∨ z0 = 1)
  · skip
    refine lv_aload_n hx hb dL_law_831 rfl (lv_at hl 1 rfl) ?_
    refine lv_aload_n hx hb dL_law_832 rfl (lv_at hl 0 rfl) ?_
    refine lv_iload hx hb dL_law_833 (lv_at hl 4 rfl) ?_
    refine ib_const hx hb dL_law_835 ?_
    refine ib_add (z := (((5 * n) + 1 : Nat) : Int)) hx hb dL_law_836 (by omega) ?_
    refine st_i (y := iI ((5 * n + 1 : Nat) : Int)) (congrArg iI (by omega)) ?_
    refine va_sld (b := b) (L := L) (xs := xs) hx hb hX hbl hbA hS (iI_vp (i := 5 * n + 1) (by omega) (by omega)) dL_law_837 ?_
    refine st_i (y := iI z0) ((congrArg xs (iI_cl (by omega))).trans e0) ?_
    refine lv_aload_n hx hb dL_law_838 rfl (lv_at hl 3 rfl) ?_
    have hf9 : cells + 1 ≤ room_1.cells ∧ slots + 6 ≤ room_1.slots := ⟨by show cells + 1 ≤ 1036; omega, by show slots + 6 ≤ 8286; omega⟩
    have hP1 : va_P (dC, dI) vwCl [(o0, .inr (0, [.long (pk a0), .long (pk a1), .long (pkn q w), .int (iI ((w : Nat) : Int))]))] H := va_P_l (w1 := [(o0, .inr (0, [.long (pk a0), .long (pk a1), .long (pkn q w), .int (iI ((w : Nat) : Int))]))]) (w2 := [(u0, .inl (cJ, 1, .inr (.inl (g)))), (m0, .inr (1, [.int th, .ref t0, .ref k0, .ref p0, .int (iI ((w : Nat) : Int))])), (t0, .inl (cI, 24, .inl (fun j => iI ((tb a0 a1 j : Nat) : Int)))), (k0, .inl (cI, 12, .inl (fun j => iI ((K j : Nat) : Int)))), (p0, .inl (cI, 12, .inl (fun j => iI ((q j : Nat) : Int))))]) hP
    have hK1 := hK.sub (tys' := []) [] rfl
    refine rdK_call (vx_runSW (As := [.ref o0, .int (iI z0), .ref u0]) (rest := []) ⟨hx, hb, hml, hown, hts⟩ (mL_differentForms_x1 l hfl dC dI o0 a0 a1 q w hp0 hp1 hw hq hqd u0 z0 hz0 b1) (vx_cwSW 3 hts gL_law_L_differentForms rfl rfl rfl hdL_differentForms ⟨(Nat.le_of_ble_eq_true rfl), (Nat.le_of_ble_eq_true rfl)⟩) (bY_preS hK1 hP1 (hG0.at hS) hN) rfl rfl hl.1 rfl (lv_room (Nat.le_of_ble_eq_true rfl)) dL_law_839 hf9) (fun H hz hk => ?_)
    have hP : va_P (dC, dI) vwCl ([(o0, .inr (0, [.long (pk a0), .long (pk a1), .long (pkn q w), .int (iI ((w : Nat) : Int))])), (u0, .inl (cJ, 1, .inr (.inl (g))))] ++ [(m0, .inr (1, [.int th, .ref t0, .ref k0, .ref p0, .int (iI ((w : Nat) : Int))])), (t0, .inl (cI, 24, .inl (fun j => iI ((tb a0 a1 j : Nat) : Int)))), (k0, .inl (cI, 12, .inl (fun j => iI ((K j : Nat) : Int)))), (p0, .inl (cI, 12, .inl (fun j => iI ((q j : Nat) : Int))))]) H := va_P_new hP hk
    have hS := va_S_new hS hz hk
    refine lv_istore (lv' := [(5, .int (iI 1)), (0, .ref b), (1, .ref o0), (2, .ref m0), (3, .ref u0), (4, .int (iI ((5 * n : Nat) : Int)))]) hx hb dL_law_842 hl (by decide) rfl (fun ls hl => ?_)
    refine lv_aload_n hx hb dL_law_844 rfl (lv_at hl 3 rfl) ?_
    refine lv_aload_n hx hb dL_law_845 rfl (lv_at hl 1 rfl) ?_
    refine lv_iload hx hb dL_law_846 (lv_at hl 5 rfl) ?_
    refine ib_const hx hb dL_law_848 ?_
    refine ib_add (z := (((5 * n) + 1 : Nat) : Int)) hx hb dL_law_849 (by omega) ?_
    refine st_i (y := iI ((5 * n + 1 : Nat) : Int)) (congrArg iI (by omega)) ?_
    refine va_sld (b := b) (L := L) (xs := xs) hx hb hX hbl hbA hS (iI_vp (i := 5 * n + 1) (by omega) (by omega)) dL_law_850 ?_
    refine st_i (y := iI z0) ((congrArg xs (iI_cl (by omega))).trans e0) ?_
    have hP2 : va_P (dC, dI) vwCl [(m0, .inr (1, [.int th, .ref t0, .ref k0, .ref p0, .int (iI ((w : Nat) : Int))])), (t0, .inl (cI, 24, .inl (fun j => iI ((tb a0 a1 j : Nat) : Int)))), (k0, .inl (cI, 12, .inl (fun j => iI ((K j : Nat) : Int)))), (p0, .inl (cI, 12, .inl (fun j => iI ((q j : Nat) : Int))))] H := va_P_r (w1 := [(o0, .inr (0, [.long (pk a0), .long (pk a1), .long (pkn q w), .int (iI ((w : Nat) : Int))])), (u0, .inl (cJ, 1, .inr (.inl (g))))]) (w2 := [(m0, .inr (1, [.int th, .ref t0, .ref k0, .ref p0, .int (iI ((w : Nat) : Int))])), (t0, .inl (cI, 24, .inl (fun j => iI ((tb a0 a1 j : Nat) : Int)))), (k0, .inl (cI, 12, .inl (fun j => iI ((K j : Nat) : Int)))), (p0, .inl (cI, 12, .inl (fun j => iI ((q j : Nat) : Int))))]) hP
    have hK2 := hK.sub (tys' := [(cI, .int)]) [1] rfl
    have hf9 : cells + 1 + 0 ≤ room_1.cells ∧ slots + 6 + 0 ≤ room_1.slots := ⟨by show cells + 1 + 0 ≤ 1036; omega, by show slots + 6 + 0 ≤ 8286; omega⟩
    have hD2 : va_D (LA s) [(m0, .inr (1, [.int th, .ref t0, .ref k0, .ref p0, .int (iI ((w : Nat) : Int))])), (t0, .inl (cI, 24, .inl (fun j => iI ((tb a0 a1 j : Nat) : Int)))), (k0, .inl (cI, 12, .inl (fun j => iI ((K j : Nat) : Int)))), (p0, .inl (cI, 12, .inl (fun j => iI ((q j : Nat) : Int))))] := va_D_r (w1 := [(o0, .inr (0, [.long (pk a0), .long (pk a1), .long (pkn q w), .int (iI ((w : Nat) : Int))])), (u0, .inl (cJ, 1, .inr (.inl (g))))]) (w2 := [(m0, .inr (1, [.int th, .ref t0, .ref k0, .ref p0, .int (iI ((w : Nat) : Int))])), (t0, .inl (cI, 24, .inl (fun j => iI ((tb a0 a1 j : Nat) : Int)))), (k0, .inl (cI, 12, .inl (fun j => iI ((K j : Nat) : Int)))), (p0, .inl (cI, 12, .inl (fun j => iI ((q j : Nat) : Int))))]) hD
    refine wr_call (va_runV (As := [.int (iI z0)]) (rest := []) ⟨hx, hb, hml, hown, hts⟩ (mX1_differentForms_x1 l dC dI cI m0 t0 k0 p0 a0 a1 K q th w hp0.1 hp1.1 hw hq z0 hz0 b1) (cwV 1 hts gL_law_X1_differentForms rfl rfl rfl hvX1_differentForms ⟨(Nat.le_of_ble_eq_true rfl), (Nat.le_of_ble_eq_true rfl)⟩) (bD_pre (ci := 1) (q0 := 0) hK2 hP2 hD2 rfl rfl rfl) rfl rfl hl.1 rfl (lv_room (Nat.le_of_ble_eq_true rfl)) dL_law_851 hf9) hS (fun q9 h => inW_A hD2 h) (fun H locs hPn hz hk hS => ?_)
    have hP : va_P (dC, dI) vwCl ([(o0, .inr (0, [.long (pk a0), .long (pk a1), .long (pkn q w), .int (iI ((w : Nat) : Int))])), (u0, .inl (cJ, 1, .inr (.inl (g))))] ++ [(m0, .inr (1, [.int (iI 1), .ref t0, .ref k0, .ref p0, .int (iI ((w : Nat) : Int))])), (t0, .inl (cI, 24, .inl (fun j => iI ((tb a0 a1 j : Nat) : Int)))), (k0, .inl (cI, 12, .inl (fun j => iI ((K j : Nat) : Int)))), (p0, .inl (cI, 12, .inl (fun j => iI ((q j : Nat) : Int))))]) H := wj_r (w1 := [(o0, .inr (0, [.long (pk a0), .long (pk a1), .long (pkn q w), .int (iI ((w : Nat) : Int))])), (u0, .inl (cJ, 1, .inr (.inl (g))))]) (w2 := [(m0, .inr (1, [.int th, .ref t0, .ref k0, .ref p0, .int (iI ((w : Nat) : Int))])), (t0, .inl (cI, 24, .inl (fun j => iI ((tb a0 a1 j : Nat) : Int)))), (k0, .inl (cI, 12, .inl (fun j => iI ((K j : Nat) : Int)))), (p0, .inl (cI, 12, .inl (fun j => iI ((q j : Nat) : Int))))]) (w2' := [(m0, .inr (1, [.int (iI 1), .ref t0, .ref k0, .ref p0, .int (iI ((w : Nat) : Int))])), (t0, .inl (cI, 24, .inl (fun j => iI ((tb a0 a1 j : Nat) : Int)))), (k0, .inl (cI, 12, .inl (fun j => iI ((K j : Nat) : Int)))), (p0, .inl (cI, 12, .inl (fun j => iI ((q j : Nat) : Int))))]) hP hD hPn hk
    have hD : va_D (LA s) ([(o0, .inr (0, [.long (pk a0), .long (pk a1), .long (pkn q w), .int (iI ((w : Nat) : Int))])), (u0, .inl (cJ, 1, .inr (.inl (g))))] ++ [(m0, .inr (1, [.int (iI 1), .ref t0, .ref k0, .ref p0, .int (iI ((w : Nat) : Int))])), (t0, .inl (cI, 24, .inl (fun j => iI ((tb a0 a1 j : Nat) : Int)))), (k0, .inl (cI, 12, .inl (fun j => iI ((K j : Nat) : Int)))), (p0, .inl (cI, 12, .inl (fun j => iI ((q j : Nat) : Int))))]) := va_D_same (w := ([(o0, .inr (0, [.long (pk a0), .long (pk a1), .long (pkn q w), .int (iI ((w : Nat) : Int))])), (u0, .inl (cJ, 1, .inr (.inl (g))))] ++ [(m0, .inr (1, [.int th, .ref t0, .ref k0, .ref p0, .int (iI ((w : Nat) : Int))])), (t0, .inl (cI, 24, .inl (fun j => iI ((tb a0 a1 j : Nat) : Int)))), (k0, .inl (cI, 12, .inl (fun j => iI ((K j : Nat) : Int)))), (p0, .inl (cI, 12, .inl (fun j => iI ((q j : Nat) : Int))))])) (Eq.trans (b := [o0, u0, m0, t0, k0, p0]) rfl rfl) hD
    refine va_forget hS.2.2 ?_
    have hS := va_S_nil hS
    refine lv_istore (lv' := [(6, .int (iI 0)), (5, .int (iI 1)), (0, .ref b), (1, .ref o0), (2, .ref m0), (3, .ref u0), (4, .int (iI ((5 * n : Nat) : Int)))]) hx hb dL_law_854 hl (by decide) rfl (fun ls hl => ?_)
    refine lv_aload_n hx hb dL_law_856 rfl (lv_at hl 4 rfl) ?_
    have hP2 : va_P (dC, dI) vwCl [(m0, .inr (1, [.int (iI 1), .ref t0, .ref k0, .ref p0, .int (iI ((w : Nat) : Int))])), (t0, .inl (cI, 24, .inl (fun j => iI ((tb a0 a1 j : Nat) : Int)))), (k0, .inl (cI, 12, .inl (fun j => iI ((K j : Nat) : Int)))), (p0, .inl (cI, 12, .inl (fun j => iI ((q j : Nat) : Int))))] H := va_P_r (w1 := [(o0, .inr (0, [.long (pk a0), .long (pk a1), .long (pkn q w), .int (iI ((w : Nat) : Int))])), (u0, .inl (cJ, 1, .inr (.inl (g))))]) (w2 := [(m0, .inr (1, [.int (iI 1), .ref t0, .ref k0, .ref p0, .int (iI ((w : Nat) : Int))])), (t0, .inl (cI, 24, .inl (fun j => iI ((tb a0 a1 j : Nat) : Int)))), (k0, .inl (cI, 12, .inl (fun j => iI ((K j : Nat) : Int)))), (p0, .inl (cI, 12, .inl (fun j => iI ((q j : Nat) : Int))))]) hP
    have hK2 := hK.sub (tys' := [(cI, .int)]) [1] rfl
    have hf9 : cells + 1 + 0 ≤ room_1.cells ∧ slots + 6 + 0 ≤ room_1.slots := ⟨by show cells + 1 + 0 ≤ 1036; omega, by show slots + 6 + 0 ≤ 8286; omega⟩
    refine rd_call (va_runV (As := []) (rest := []) ⟨hx, hb, hml, hown, hts⟩ (mX1_thrown l dC dI cI m0 t0 k0 p0 a0 a1 K q (iI 1) w hp0.1 hp1.1 hw hq) (cwV 0 hts gL_law_X1_thrown rfl rfl rfl hvX1_thrown ⟨(Nat.le_of_ble_eq_true rfl), (Nat.le_of_ble_eq_true rfl)⟩) (bW_pre (ci := 1) (q0 := 0) hK2 hP2 rfl rfl rfl) rfl rfl hl.1 rfl (lv_room (Nat.le_of_ble_eq_true rfl)) dL_law_857 hf9) ?_
    refine lv_iload hx hb dL_law_860 (lv_at hl 1 rfl) ?_
    refine ib_icmp_eq (tgt := 867) hx hb dL_law_862 (by decide) ⟨by omega, by omega⟩ ⟨by omega, by omega⟩ (fun c_862 => ?_) (fun c_862 => absurd c_862 (by decide))
    refine lv_iload hx hb dL_law_867 (lv_at hl 1 rfl) ?_
    refine ib_if_ne (tgt := 884) hx hb dL_law_869 (by decide) ⟨by omega, by omega⟩ (fun c_869 => ?_) (fun c_869 => absurd c_869 (by decide))
    refine lv_goto (tgt := 1833) hx hb dL_law_884 (by decide) ?_
    exact kk a0 a1 q K w (iI 1) (g) H ls ⟨hp0, hp1, hw, hq, hqd, hP, hD, hS⟩ (lv_sub hl [2, 3, 4, 5, 6] rfl)
  obtain ⟨r, hn0, rfl⟩ := nat_of (z := z0) (k := 4095) (by omega)
  refine lv_aload_n hx hb dL_law_831 rfl (lv_at hl 1 rfl) ?_
  refine lv_aload_n hx hb dL_law_832 rfl (lv_at hl 0 rfl) ?_
  refine lv_iload hx hb dL_law_833 (lv_at hl 4 rfl) ?_
  refine ib_const hx hb dL_law_835 ?_
  refine ib_add (z := (((5 * n) + 1 : Nat) : Int)) hx hb dL_law_836 (by omega) ?_
  refine st_i (y := iI ((5 * n + 1 : Nat) : Int)) (congrArg iI (by omega)) ?_
  refine va_sld (b := b) (L := L) (xs := xs) hx hb hX hbl hbA hS (iI_vp (i := 5 * n + 1) (by omega) (by omega)) dL_law_837 ?_
  refine st_i (y := iI ((r : Nat) : Int)) ((congrArg xs (iI_cl (by omega))).trans e0) ?_
  refine lv_aload_n hx hb dL_law_838 rfl (lv_at hl 3 rfl) ?_
  have hf9 : cells + 0 ≤ room_1.cells ∧ slots + 0 ≤ room_1.slots := ⟨by show cells + 0 ≤ 1036; omega, by show slots + 0 ≤ 8286; omega⟩
  have hP1 : va_P (dC, dI) vwCl [(o0, .inr (0, [.long (pk a0), .long (pk a1), .long (pkn q w), .int (iI ((w : Nat) : Int))])), (u0, .inl (cJ, 1, .inr (.inl (g))))] H := va_P_l (w1 := [(o0, .inr (0, [.long (pk a0), .long (pk a1), .long (pkn q w), .int (iI ((w : Nat) : Int))])), (u0, .inl (cJ, 1, .inr (.inl (g))))]) (w2 := [(m0, .inr (1, [.int th, .ref t0, .ref k0, .ref p0, .int (iI ((w : Nat) : Int))])), (t0, .inl (cI, 24, .inl (fun j => iI ((tb a0 a1 j : Nat) : Int)))), (k0, .inl (cI, 12, .inl (fun j => iI ((K j : Nat) : Int)))), (p0, .inl (cI, 12, .inl (fun j => iI ((q j : Nat) : Int))))]) hP
  have hD1 : va_D (LA s) [(o0, .inr (0, [.long (pk a0), .long (pk a1), .long (pkn q w), .int (iI ((w : Nat) : Int))])), (u0, .inl (cJ, 1, .inr (.inl (g))))] := va_D_l (w1 := [(o0, .inr (0, [.long (pk a0), .long (pk a1), .long (pkn q w), .int (iI ((w : Nat) : Int))])), (u0, .inl (cJ, 1, .inr (.inl (g))))]) (w2 := [(m0, .inr (1, [.int th, .ref t0, .ref k0, .ref p0, .int (iI ((w : Nat) : Int))])), (t0, .inl (cI, 24, .inl (fun j => iI ((tb a0 a1 j : Nat) : Int)))), (k0, .inl (cI, 12, .inl (fun j => iI ((K j : Nat) : Int)))), (p0, .inl (cI, 12, .inl (fun j => iI ((q j : Nat) : Int))))]) hD
  have hK1 := hK.sub (tys' := [(cJ, .long)]) [0] rfl
  refine wr_call (vx_runSW (As := [.ref o0, .int (iI ((r : Nat) : Int)), .ref u0]) (rest := []) ⟨hx, hb, hml, hown, hts⟩ (mL_differentForms_ok l dC dI cJ o0 u0 a0 a1 q w hp0 hp1 hw hq hqd g r (by omega)) (vx_cwSW 3 hts gL_law_L_differentForms rfl rfl rfl hdL_differentForms ⟨(Nat.le_of_ble_eq_true rfl), (Nat.le_of_ble_eq_true rfl)⟩) (bD_preS hK1 hP1 hD1) rfl rfl hl.1 rfl (lv_room (Nat.le_of_ble_eq_true rfl)) dL_law_839 hf9) hS (fun q9 h => inW_A hD1 h) (fun H locs hPn hz hk hS => ?_)
  have hP : va_P (dC, dI) vwCl ([(o0, .inr (0, [.long (pk a0), .long (pk a1), .long (pkn q w), .int (iI ((w : Nat) : Int))])), (u0, .inl (cJ, 1, .inr (.inl (fun _ => (iI ((dfN (rw_ r a0 a1) 48 : Nat) : Int)).toInt64))))] ++ [(m0, .inr (1, [.int th, .ref t0, .ref k0, .ref p0, .int (iI ((w : Nat) : Int))])), (t0, .inl (cI, 24, .inl (fun j => iI ((tb a0 a1 j : Nat) : Int)))), (k0, .inl (cI, 12, .inl (fun j => iI ((K j : Nat) : Int)))), (p0, .inl (cI, 12, .inl (fun j => iI ((q j : Nat) : Int))))]) H := wj_l (w1 := [(o0, .inr (0, [.long (pk a0), .long (pk a1), .long (pkn q w), .int (iI ((w : Nat) : Int))])), (u0, .inl (cJ, 1, .inr (.inl (g))))]) (w2 := [(m0, .inr (1, [.int th, .ref t0, .ref k0, .ref p0, .int (iI ((w : Nat) : Int))])), (t0, .inl (cI, 24, .inl (fun j => iI ((tb a0 a1 j : Nat) : Int)))), (k0, .inl (cI, 12, .inl (fun j => iI ((K j : Nat) : Int)))), (p0, .inl (cI, 12, .inl (fun j => iI ((q j : Nat) : Int))))]) (w1' := [(o0, .inr (0, [.long (pk a0), .long (pk a1), .long (pkn q w), .int (iI ((w : Nat) : Int))])), (u0, .inl (cJ, 1, .inr (.inl (fun _ => (iI ((dfN (rw_ r a0 a1) 48 : Nat) : Int)).toInt64))))]) hP hD hPn hk
  have hD : va_D (LA s) ([(o0, .inr (0, [.long (pk a0), .long (pk a1), .long (pkn q w), .int (iI ((w : Nat) : Int))])), (u0, .inl (cJ, 1, .inr (.inl (fun _ => (iI ((dfN (rw_ r a0 a1) 48 : Nat) : Int)).toInt64))))] ++ [(m0, .inr (1, [.int th, .ref t0, .ref k0, .ref p0, .int (iI ((w : Nat) : Int))])), (t0, .inl (cI, 24, .inl (fun j => iI ((tb a0 a1 j : Nat) : Int)))), (k0, .inl (cI, 12, .inl (fun j => iI ((K j : Nat) : Int)))), (p0, .inl (cI, 12, .inl (fun j => iI ((q j : Nat) : Int))))]) := va_D_same (w := ([(o0, .inr (0, [.long (pk a0), .long (pk a1), .long (pkn q w), .int (iI ((w : Nat) : Int))])), (u0, .inl (cJ, 1, .inr (.inl (g))))] ++ [(m0, .inr (1, [.int th, .ref t0, .ref k0, .ref p0, .int (iI ((w : Nat) : Int))])), (t0, .inl (cI, 24, .inl (fun j => iI ((tb a0 a1 j : Nat) : Int)))), (k0, .inl (cI, 12, .inl (fun j => iI ((K j : Nat) : Int)))), (p0, .inl (cI, 12, .inl (fun j => iI ((q j : Nat) : Int))))])) (Eq.trans (b := [o0, u0, m0, t0, k0, p0]) rfl rfl) hD
  refine va_forget hS.2.2 ?_
  have hS := va_S_nil hS
  refine W.widen (k := cells + 1) (n := slots + 6) (by omega) (by omega) ?_
  refine lv_istore (lv' := [(5, .int (iI 0)), (0, .ref b), (1, .ref o0), (2, .ref m0), (3, .ref u0), (4, .int (iI ((5 * n : Nat) : Int)))]) hx hb dL_law_842 hl (by decide) rfl (fun ls hl => ?_)
  refine lv_aload_n hx hb dL_law_844 rfl (lv_at hl 3 rfl) ?_
  refine lv_aload_n hx hb dL_law_845 rfl (lv_at hl 1 rfl) ?_
  refine lv_iload hx hb dL_law_846 (lv_at hl 5 rfl) ?_
  refine ib_const hx hb dL_law_848 ?_
  refine ib_add (z := (((5 * n) + 1 : Nat) : Int)) hx hb dL_law_849 (by omega) ?_
  refine st_i (y := iI ((5 * n + 1 : Nat) : Int)) (congrArg iI (by omega)) ?_
  refine va_sld (b := b) (L := L) (xs := xs) hx hb hX hbl hbA hS (iI_vp (i := 5 * n + 1) (by omega) (by omega)) dL_law_850 ?_
  refine st_i (y := iI ((r : Nat) : Int)) ((congrArg xs (iI_cl (by omega))).trans e0) ?_
  have hP2 : va_P (dC, dI) vwCl [(m0, .inr (1, [.int th, .ref t0, .ref k0, .ref p0, .int (iI ((w : Nat) : Int))])), (t0, .inl (cI, 24, .inl (fun j => iI ((tb a0 a1 j : Nat) : Int)))), (k0, .inl (cI, 12, .inl (fun j => iI ((K j : Nat) : Int)))), (p0, .inl (cI, 12, .inl (fun j => iI ((q j : Nat) : Int))))] H := va_P_r (w1 := [(o0, .inr (0, [.long (pk a0), .long (pk a1), .long (pkn q w), .int (iI ((w : Nat) : Int))])), (u0, .inl (cJ, 1, .inr (.inl (fun _ => (iI ((dfN (rw_ r a0 a1) 48 : Nat) : Int)).toInt64))))]) (w2 := [(m0, .inr (1, [.int th, .ref t0, .ref k0, .ref p0, .int (iI ((w : Nat) : Int))])), (t0, .inl (cI, 24, .inl (fun j => iI ((tb a0 a1 j : Nat) : Int)))), (k0, .inl (cI, 12, .inl (fun j => iI ((K j : Nat) : Int)))), (p0, .inl (cI, 12, .inl (fun j => iI ((q j : Nat) : Int))))]) hP
  have hK2 := hK.sub (tys' := [(cI, .int)]) [1] rfl
  have hf9 : cells + 1 + 0 ≤ room_1.cells ∧ slots + 6 + 0 ≤ room_1.slots := ⟨by show cells + 1 + 0 ≤ 1036; omega, by show slots + 6 + 0 ≤ 8286; omega⟩
  have hD2 : va_D (LA s) [(m0, .inr (1, [.int th, .ref t0, .ref k0, .ref p0, .int (iI ((w : Nat) : Int))])), (t0, .inl (cI, 24, .inl (fun j => iI ((tb a0 a1 j : Nat) : Int)))), (k0, .inl (cI, 12, .inl (fun j => iI ((K j : Nat) : Int)))), (p0, .inl (cI, 12, .inl (fun j => iI ((q j : Nat) : Int))))] := va_D_r (w1 := [(o0, .inr (0, [.long (pk a0), .long (pk a1), .long (pkn q w), .int (iI ((w : Nat) : Int))])), (u0, .inl (cJ, 1, .inr (.inl (fun _ => (iI ((dfN (rw_ r a0 a1) 48 : Nat) : Int)).toInt64))))]) (w2 := [(m0, .inr (1, [.int th, .ref t0, .ref k0, .ref p0, .int (iI ((w : Nat) : Int))])), (t0, .inl (cI, 24, .inl (fun j => iI ((tb a0 a1 j : Nat) : Int)))), (k0, .inl (cI, 12, .inl (fun j => iI ((K j : Nat) : Int)))), (p0, .inl (cI, 12, .inl (fun j => iI ((q j : Nat) : Int))))]) hD
  refine wr_call (va_runV (As := [.int (iI ((r : Nat) : Int))]) (rest := []) ⟨hx, hb, hml, hown, hts⟩ (mX1_differentForms_ok l dC dI cI m0 t0 k0 p0 a0 a1 K q th w hp0.1 hp1.1 hw hq r (by omega)) (cwV 1 hts gL_law_X1_differentForms rfl rfl rfl hvX1_differentForms ⟨(Nat.le_of_ble_eq_true rfl), (Nat.le_of_ble_eq_true rfl)⟩) (bD_pre (ci := 1) (q0 := 0) hK2 hP2 hD2 rfl rfl rfl) rfl rfl hl.1 rfl (lv_room (Nat.le_of_ble_eq_true rfl)) dL_law_851 hf9) hS (fun q9 h => inW_A hD2 h) (fun H locs hPn hz hk hS => ?_)
  have hP : va_P (dC, dI) vwCl ([(o0, .inr (0, [.long (pk a0), .long (pk a1), .long (pkn q w), .int (iI ((w : Nat) : Int))])), (u0, .inl (cJ, 1, .inr (.inl (fun _ => (iI ((dfN (rw_ r a0 a1) 48 : Nat) : Int)).toInt64))))] ++ [(m0, .inr (1, [.int (iI 0), .ref t0, .ref k0, .ref p0, .int (iI ((w : Nat) : Int))])), (t0, .inl (cI, 24, .inl (fun j => iI ((tb a0 a1 j : Nat) : Int)))), (k0, .inl (cI, 12, .inl (fun j => iI ((K j : Nat) : Int)))), (p0, .inl (cI, 12, .inl (fun j => iI ((q j : Nat) : Int))))]) H := wj_r (w1 := [(o0, .inr (0, [.long (pk a0), .long (pk a1), .long (pkn q w), .int (iI ((w : Nat) : Int))])), (u0, .inl (cJ, 1, .inr (.inl (fun _ => (iI ((dfN (rw_ r a0 a1) 48 : Nat) : Int)).toInt64))))]) (w2 := [(m0, .inr (1, [.int th, .ref t0, .ref k0, .ref p0, .int (iI ((w : Nat) : Int))])), (t0, .inl (cI, 24, .inl (fun j => iI ((tb a0 a1 j : Nat) : Int)))), (k0, .inl (cI, 12, .inl (fun j => iI ((K j : Nat) : Int)))), (p0, .inl (cI, 12, .inl (fun j => iI ((q j : Nat) : Int))))]) (w2' := [(m0, .inr (1, [.int (iI 0), .ref t0, .ref k0, .ref p0, .int (iI ((w : Nat) : Int))])), (t0, .inl (cI, 24, .inl (fun j => iI ((tb a0 a1 j : Nat) : Int)))), (k0, .inl (cI, 12, .inl (fun j => iI ((K j : Nat) : Int)))), (p0, .inl (cI, 12, .inl (fun j => iI ((q j : Nat) : Int))))]) hP hD hPn hk
  have hD : va_D (LA s) ([(o0, .inr (0, [.long (pk a0), .long (pk a1), .long (pkn q w), .int (iI ((w : Nat) : Int))])), (u0, .inl (cJ, 1, .inr (.inl (fun _ => (iI ((dfN (rw_ r a0 a1) 48 : Nat) : Int)).toInt64))))] ++ [(m0, .inr (1, [.int (iI 0), .ref t0, .ref k0, .ref p0, .int (iI ((w : Nat) : Int))])), (t0, .inl (cI, 24, .inl (fun j => iI ((tb a0 a1 j : Nat) : Int)))), (k0, .inl (cI, 12, .inl (fun j => iI ((K j : Nat) : Int)))), (p0, .inl (cI, 12, .inl (fun j => iI ((q j : Nat) : Int))))]) := va_D_same (w := ([(o0, .inr (0, [.long (pk a0), .long (pk a1), .long (pkn q w), .int (iI ((w : Nat) : Int))])), (u0, .inl (cJ, 1, .inr (.inl (fun _ => (iI ((dfN (rw_ r a0 a1) 48 : Nat) : Int)).toInt64))))] ++ [(m0, .inr (1, [.int th, .ref t0, .ref k0, .ref p0, .int (iI ((w : Nat) : Int))])), (t0, .inl (cI, 24, .inl (fun j => iI ((tb a0 a1 j : Nat) : Int)))), (k0, .inl (cI, 12, .inl (fun j => iI ((K j : Nat) : Int)))), (p0, .inl (cI, 12, .inl (fun j => iI ((q j : Nat) : Int))))])) (Eq.trans (b := [o0, u0, m0, t0, k0, p0]) rfl rfl) hD
  refine va_forget hS.2.2 ?_
  have hS := va_S_nil hS
  refine lv_istore (lv' := [(6, .int (iI ((dfN (rw_ r a0 a1) 48 : Nat) : Int))), (5, .int (iI 0)), (0, .ref b), (1, .ref o0), (2, .ref m0), (3, .ref u0), (4, .int (iI ((5 * n : Nat) : Int)))]) hx hb dL_law_854 hl (by decide) rfl (fun ls hl => ?_)
  refine lv_aload_n hx hb dL_law_856 rfl (lv_at hl 4 rfl) ?_
  have hP2 : va_P (dC, dI) vwCl [(m0, .inr (1, [.int (iI 0), .ref t0, .ref k0, .ref p0, .int (iI ((w : Nat) : Int))])), (t0, .inl (cI, 24, .inl (fun j => iI ((tb a0 a1 j : Nat) : Int)))), (k0, .inl (cI, 12, .inl (fun j => iI ((K j : Nat) : Int)))), (p0, .inl (cI, 12, .inl (fun j => iI ((q j : Nat) : Int))))] H := va_P_r (w1 := [(o0, .inr (0, [.long (pk a0), .long (pk a1), .long (pkn q w), .int (iI ((w : Nat) : Int))])), (u0, .inl (cJ, 1, .inr (.inl (fun _ => (iI ((dfN (rw_ r a0 a1) 48 : Nat) : Int)).toInt64))))]) (w2 := [(m0, .inr (1, [.int (iI 0), .ref t0, .ref k0, .ref p0, .int (iI ((w : Nat) : Int))])), (t0, .inl (cI, 24, .inl (fun j => iI ((tb a0 a1 j : Nat) : Int)))), (k0, .inl (cI, 12, .inl (fun j => iI ((K j : Nat) : Int)))), (p0, .inl (cI, 12, .inl (fun j => iI ((q j : Nat) : Int))))]) hP
  have hK2 := hK.sub (tys' := [(cI, .int)]) [1] rfl
  have hf9 : cells + 1 + 0 ≤ room_1.cells ∧ slots + 6 + 0 ≤ room_1.slots := ⟨by show cells + 1 + 0 ≤ 1036; omega, by show slots + 6 + 0 ≤ 8286; omega⟩
  refine rd_call (va_runV (As := []) (rest := []) ⟨hx, hb, hml, hown, hts⟩ (mX1_thrown l dC dI cI m0 t0 k0 p0 a0 a1 K q (iI 0) w hp0.1 hp1.1 hw hq) (cwV 0 hts gL_law_X1_thrown rfl rfl rfl hvX1_thrown ⟨(Nat.le_of_ble_eq_true rfl), (Nat.le_of_ble_eq_true rfl)⟩) (bW_pre (ci := 1) (q0 := 0) hK2 hP2 rfl rfl rfl) rfl rfl hl.1 rfl (lv_room (Nat.le_of_ble_eq_true rfl)) dL_law_857 hf9) ?_
  refine lv_iload hx hb dL_law_860 (lv_at hl 1 rfl) ?_
  refine ib_icmp_eq (tgt := 867) hx hb dL_law_862 (by decide) ⟨by omega, by omega⟩ ⟨by omega, by omega⟩ (fun c_862 => ?_) (fun c_862 => absurd c_862 (by decide))
  refine lv_iload hx hb dL_law_867 (lv_at hl 1 rfl) ?_
  refine ib_if_ne (tgt := 884) hx hb dL_law_869 (by decide) ⟨by omega, by omega⟩ (fun c_869 => absurd c_869 (by decide)) (fun c_869 => ?_)
  refine lv_aload_n hx hb dL_law_872 rfl (lv_at hl 5 rfl) ?_
  refine ib_const hx hb dL_law_873 ?_
  refine va_lald hx hb hK hP 1 0 rfl rfl vp0 dL_law_874 ?_
  refine st_l (y := (iI ((dfN (rw_ r a0 a1) 48 : Nat) : Int)).toInt64) rfl ?_
  refine lv_iload hx hb dL_law_875 (lv_at hl 0 rfl) ?_
  refine lv_i2l hx hb dL_law_877 rfl ?_
  refine W.lcmp hx hb dL_law_878 ?_
  refine bl_eq (tgt := 884) hx hb dL_law_879 (by decide) (fun _ => ?_) (fun h => absurd rfl h)
  refine lv_goto (tgt := 1833) hx hb dL_law_884 (by decide) ?_
  exact kk a0 a1 q K w (iI 0) (fun _ => (iI ((dfN (rw_ r a0 a1) 48 : Nat) : Int)).toInt64) H ls ⟨hp0, hp1, hw, hq, hqd, hP, hD, hS⟩ (lv_sub hl [2, 3, 4, 5, 6] rfl)

set_option maxHeartbeats 4000000 in
set_option maxRecDepth 100000 in
theorem law_c10 {p : Program} {l : Launch} {e : Env} {s : State} {m : MethodId} {below : List Frame} {meth : Method} {c : Code} {Q : State → Prop} {dC : Nat → ClassId} {dI : Nat → Nat → Nat} {cI cJ : ClassId} {b L : Nat} {xs : Nat → Int32} (C : LC p l s m meth c (dC, dI) cI cJ b L xs) {o0 u0 m0 t0 k0 p0 : Nat} {a0 a1 q K : Nat → Nat} {w : Nat} {th : Int32} {g : Nat → Int64} {H : Heap} (hI : LI s (dC, dI) cI cJ o0 u0 m0 t0 k0 p0 a0 a1 q K w th g H) {n cells slots : Nat} (hc1 : cells + 1 ≤ 1036) (hc2 : slots + 6 ≤ 8286) (hn : 5 * n + 5 ≤ L) (hL : L ≤ 2560) {ls : Array Slot} (hl : lv_has ls 8 [(0, .ref b), (1, .ref o0), (2, .ref m0), (3, .ref u0), (4, .int (iI ((5 * n : Nat) : Int)))])
    (kk : ∀ (a0 a1 q K : Nat → Nat) (w : Nat) (th : Int32) (g : Nat → Int64) (H : Heap) (ls : Array Slot), LI s (dC, dI) cI cJ o0 u0 m0 t0 k0 p0 a0 a1 q K w th g H → lv_has ls 8 [(0, .ref b), (1, .ref o0), (2, .ref m0), (3, .ref u0), (4, .int (iI ((5 * n : Nat) : Int)))] → W p l e room_1 s m #[Value.ref b] below meth c H [] (cells + 1) (slots + 6) Q (F0 m 1833 ls [])) : W p l e room_1 s m #[Value.ref b] below meth c H [] cells slots Q (F0 m 887 ls []) := by
  obtain ⟨hx, hb, hml, hown, hts, hK, hG0, hN, hX, hbl, hfl⟩ := C
  obtain ⟨hp0, hp1, hw, hq, hqd, hP, hD, hS⟩ := hI
  have hbA : ¬ LA s b := Nat.not_le.mpr hbl
  obtain ⟨z0, hz0, e0⟩ := ex_i (xs (5 * n + 1))
  have hza0 := hz0.1
  have hzb0 := hz0.2
  by_cases b1 : ¬ (z0 = 0 ∨ z0 = 1)
  · skip
    refine lv_aload_n hx hb dL_law_887 rfl (lv_at hl 1 rfl) ?_
    refine lv_aload_n hx hb dL_law_888 rfl (lv_at hl 0 rfl) ?_
    refine lv_iload hx hb dL_law_889 (lv_at hl 4 rfl) ?_
    refine ib_const hx hb dL_law_891 ?_
    refine ib_add (z := (((5 * n) + 1 : Nat) : Int)) hx hb dL_law_892 (by omega) ?_
    refine st_i (y := iI ((5 * n + 1 : Nat) : Int)) (congrArg iI (by omega)) ?_
    refine va_sld (b := b) (L := L) (xs := xs) hx hb hX hbl hbA hS (iI_vp (i := 5 * n + 1) (by omega) (by omega)) dL_law_893 ?_
    refine st_i (y := iI z0) ((congrArg xs (iI_cl (by omega))).trans e0) ?_
    refine lv_aload_n hx hb dL_law_894 rfl (lv_at hl 3 rfl) ?_
    have hf9 : cells + 1 ≤ room_1.cells ∧ slots + 6 ≤ room_1.slots := ⟨by show cells + 1 ≤ 1036; omega, by show slots + 6 ≤ 8286; omega⟩
    have hP1 : va_P (dC, dI) vwCl [(o0, .inr (0, [.long (pk a0), .long (pk a1), .long (pkn q w), .int (iI ((w : Nat) : Int))]))] H := va_P_l (w1 := [(o0, .inr (0, [.long (pk a0), .long (pk a1), .long (pkn q w), .int (iI ((w : Nat) : Int))]))]) (w2 := [(u0, .inl (cJ, 1, .inr (.inl (g)))), (m0, .inr (1, [.int th, .ref t0, .ref k0, .ref p0, .int (iI ((w : Nat) : Int))])), (t0, .inl (cI, 24, .inl (fun j => iI ((tb a0 a1 j : Nat) : Int)))), (k0, .inl (cI, 12, .inl (fun j => iI ((K j : Nat) : Int)))), (p0, .inl (cI, 12, .inl (fun j => iI ((q j : Nat) : Int))))]) hP
    have hK1 := hK.sub (tys' := []) [] rfl
    refine rdK_call (vx_runSW (As := [.ref o0, .int (iI z0), .ref u0]) (rest := []) ⟨hx, hb, hml, hown, hts⟩ (mL_formOfOther_x1 l hfl dC dI o0 a0 a1 q w hp0 hp1 hw hq hqd u0 z0 hz0 b1) (vx_cwSW 3 hts gL_law_L_formOfOther rfl rfl rfl hdL_formOfOther ⟨(Nat.le_of_ble_eq_true rfl), (Nat.le_of_ble_eq_true rfl)⟩) (bY_preS hK1 hP1 (hG0.at hS) hN) rfl rfl hl.1 rfl (lv_room (Nat.le_of_ble_eq_true rfl)) dL_law_895 hf9) (fun H hz hk => ?_)
    have hP : va_P (dC, dI) vwCl ([(o0, .inr (0, [.long (pk a0), .long (pk a1), .long (pkn q w), .int (iI ((w : Nat) : Int))])), (u0, .inl (cJ, 1, .inr (.inl (g))))] ++ [(m0, .inr (1, [.int th, .ref t0, .ref k0, .ref p0, .int (iI ((w : Nat) : Int))])), (t0, .inl (cI, 24, .inl (fun j => iI ((tb a0 a1 j : Nat) : Int)))), (k0, .inl (cI, 12, .inl (fun j => iI ((K j : Nat) : Int)))), (p0, .inl (cI, 12, .inl (fun j => iI ((q j : Nat) : Int))))]) H := va_P_new hP hk
    have hS := va_S_new hS hz hk
    refine lv_istore (lv' := [(5, .int (iI 1)), (0, .ref b), (1, .ref o0), (2, .ref m0), (3, .ref u0), (4, .int (iI ((5 * n : Nat) : Int)))]) hx hb dL_law_898 hl (by decide) rfl (fun ls hl => ?_)
    refine lv_aload_n hx hb dL_law_900 rfl (lv_at hl 3 rfl) ?_
    refine lv_aload_n hx hb dL_law_901 rfl (lv_at hl 1 rfl) ?_
    refine lv_iload hx hb dL_law_902 (lv_at hl 5 rfl) ?_
    refine ib_const hx hb dL_law_904 ?_
    refine ib_add (z := (((5 * n) + 1 : Nat) : Int)) hx hb dL_law_905 (by omega) ?_
    refine st_i (y := iI ((5 * n + 1 : Nat) : Int)) (congrArg iI (by omega)) ?_
    refine va_sld (b := b) (L := L) (xs := xs) hx hb hX hbl hbA hS (iI_vp (i := 5 * n + 1) (by omega) (by omega)) dL_law_906 ?_
    refine st_i (y := iI z0) ((congrArg xs (iI_cl (by omega))).trans e0) ?_
    have hP2 : va_P (dC, dI) vwCl [(m0, .inr (1, [.int th, .ref t0, .ref k0, .ref p0, .int (iI ((w : Nat) : Int))])), (t0, .inl (cI, 24, .inl (fun j => iI ((tb a0 a1 j : Nat) : Int)))), (k0, .inl (cI, 12, .inl (fun j => iI ((K j : Nat) : Int)))), (p0, .inl (cI, 12, .inl (fun j => iI ((q j : Nat) : Int))))] H := va_P_r (w1 := [(o0, .inr (0, [.long (pk a0), .long (pk a1), .long (pkn q w), .int (iI ((w : Nat) : Int))])), (u0, .inl (cJ, 1, .inr (.inl (g))))]) (w2 := [(m0, .inr (1, [.int th, .ref t0, .ref k0, .ref p0, .int (iI ((w : Nat) : Int))])), (t0, .inl (cI, 24, .inl (fun j => iI ((tb a0 a1 j : Nat) : Int)))), (k0, .inl (cI, 12, .inl (fun j => iI ((K j : Nat) : Int)))), (p0, .inl (cI, 12, .inl (fun j => iI ((q j : Nat) : Int))))]) hP
    have hK2 := hK.sub (tys' := [(cI, .int)]) [1] rfl
    have hf9 : cells + 1 + 0 ≤ room_1.cells ∧ slots + 6 + 0 ≤ room_1.slots := ⟨by show cells + 1 + 0 ≤ 1036; omega, by show slots + 6 + 0 ≤ 8286; omega⟩
    have hD2 : va_D (LA s) [(m0, .inr (1, [.int th, .ref t0, .ref k0, .ref p0, .int (iI ((w : Nat) : Int))])), (t0, .inl (cI, 24, .inl (fun j => iI ((tb a0 a1 j : Nat) : Int)))), (k0, .inl (cI, 12, .inl (fun j => iI ((K j : Nat) : Int)))), (p0, .inl (cI, 12, .inl (fun j => iI ((q j : Nat) : Int))))] := va_D_r (w1 := [(o0, .inr (0, [.long (pk a0), .long (pk a1), .long (pkn q w), .int (iI ((w : Nat) : Int))])), (u0, .inl (cJ, 1, .inr (.inl (g))))]) (w2 := [(m0, .inr (1, [.int th, .ref t0, .ref k0, .ref p0, .int (iI ((w : Nat) : Int))])), (t0, .inl (cI, 24, .inl (fun j => iI ((tb a0 a1 j : Nat) : Int)))), (k0, .inl (cI, 12, .inl (fun j => iI ((K j : Nat) : Int)))), (p0, .inl (cI, 12, .inl (fun j => iI ((q j : Nat) : Int))))]) hD
    refine wr_call (va_runV (As := [.int (iI z0)]) (rest := []) ⟨hx, hb, hml, hown, hts⟩ (mX1_formOfOther_x1 l dC dI cI m0 t0 k0 p0 a0 a1 K q th w hp0.1 hp1.1 hw hq z0 hz0 b1) (cwV 1 hts gL_law_X1_formOfOther rfl rfl rfl hvX1_formOfOther ⟨(Nat.le_of_ble_eq_true rfl), (Nat.le_of_ble_eq_true rfl)⟩) (bD_pre (ci := 1) (q0 := 0) hK2 hP2 hD2 rfl rfl rfl) rfl rfl hl.1 rfl (lv_room (Nat.le_of_ble_eq_true rfl)) dL_law_907 hf9) hS (fun q9 h => inW_A hD2 h) (fun H locs hPn hz hk hS => ?_)
    have hP : va_P (dC, dI) vwCl ([(o0, .inr (0, [.long (pk a0), .long (pk a1), .long (pkn q w), .int (iI ((w : Nat) : Int))])), (u0, .inl (cJ, 1, .inr (.inl (g))))] ++ [(m0, .inr (1, [.int (iI 1), .ref t0, .ref k0, .ref p0, .int (iI ((w : Nat) : Int))])), (t0, .inl (cI, 24, .inl (fun j => iI ((tb a0 a1 j : Nat) : Int)))), (k0, .inl (cI, 12, .inl (fun j => iI ((K j : Nat) : Int)))), (p0, .inl (cI, 12, .inl (fun j => iI ((q j : Nat) : Int))))]) H := wj_r (w1 := [(o0, .inr (0, [.long (pk a0), .long (pk a1), .long (pkn q w), .int (iI ((w : Nat) : Int))])), (u0, .inl (cJ, 1, .inr (.inl (g))))]) (w2 := [(m0, .inr (1, [.int th, .ref t0, .ref k0, .ref p0, .int (iI ((w : Nat) : Int))])), (t0, .inl (cI, 24, .inl (fun j => iI ((tb a0 a1 j : Nat) : Int)))), (k0, .inl (cI, 12, .inl (fun j => iI ((K j : Nat) : Int)))), (p0, .inl (cI, 12, .inl (fun j => iI ((q j : Nat) : Int))))]) (w2' := [(m0, .inr (1, [.int (iI 1), .ref t0, .ref k0, .ref p0, .int (iI ((w : Nat) : Int))])), (t0, .inl (cI, 24, .inl (fun j => iI ((tb a0 a1 j : Nat) : Int)))), (k0, .inl (cI, 12, .inl (fun j => iI ((K j : Nat) : Int)))), (p0, .inl (cI, 12, .inl (fun j => iI ((q j : Nat) : Int))))]) hP hD hPn hk
    have hD : va_D (LA s) ([(o0, .inr (0, [.long (pk a0), .long (pk a1), .long (pkn q w), .int (iI ((w : Nat) : Int))])), (u0, .inl (cJ, 1, .inr (.inl (g))))] ++ [(m0, .inr (1, [.int (iI 1), .ref t0, .ref k0, .ref p0, .int (iI ((w : Nat) : Int))])), (t0, .inl (cI, 24, .inl (fun j => iI ((tb a0 a1 j : Nat) : Int)))), (k0, .inl (cI, 12, .inl (fun j => iI ((K j : Nat) : Int)))), (p0, .inl (cI, 12, .inl (fun j => iI ((q j : Nat) : Int))))]) := va_D_same (w := ([(o0, .inr (0, [.long (pk a0), .long (pk a1), .long (pkn q w), .int (iI ((w : Nat) : Int))])), (u0, .inl (cJ, 1, .inr (.inl (g))))] ++ [(m0, .inr (1, [.int th, .ref t0, .ref k0, .ref p0, .int (iI ((w : Nat) : Int))])), (t0, .inl (cI, 24, .inl (fun j => iI ((tb a0 a1 j : Nat) : Int)))), (k0, .inl (cI, 12, .inl (fun j => iI ((K j : Nat) : Int)))), (p0, .inl (cI, 12, .inl (fun j => iI ((q j : Nat) : Int))))])) (Eq.trans (b := [o0, u0, m0, t0, k0, p0]) rfl rfl) hD
    refine va_forget hS.2.2 ?_
    have hS := va_S_nil hS
    refine lv_istore (lv' := [(6, .int (iI 0)), (5, .int (iI 1)), (0, .ref b), (1, .ref o0), (2, .ref m0), (3, .ref u0), (4, .int (iI ((5 * n : Nat) : Int)))]) hx hb dL_law_910 hl (by decide) rfl (fun ls hl => ?_)
    refine lv_aload_n hx hb dL_law_912 rfl (lv_at hl 4 rfl) ?_
    have hP2 : va_P (dC, dI) vwCl [(m0, .inr (1, [.int (iI 1), .ref t0, .ref k0, .ref p0, .int (iI ((w : Nat) : Int))])), (t0, .inl (cI, 24, .inl (fun j => iI ((tb a0 a1 j : Nat) : Int)))), (k0, .inl (cI, 12, .inl (fun j => iI ((K j : Nat) : Int)))), (p0, .inl (cI, 12, .inl (fun j => iI ((q j : Nat) : Int))))] H := va_P_r (w1 := [(o0, .inr (0, [.long (pk a0), .long (pk a1), .long (pkn q w), .int (iI ((w : Nat) : Int))])), (u0, .inl (cJ, 1, .inr (.inl (g))))]) (w2 := [(m0, .inr (1, [.int (iI 1), .ref t0, .ref k0, .ref p0, .int (iI ((w : Nat) : Int))])), (t0, .inl (cI, 24, .inl (fun j => iI ((tb a0 a1 j : Nat) : Int)))), (k0, .inl (cI, 12, .inl (fun j => iI ((K j : Nat) : Int)))), (p0, .inl (cI, 12, .inl (fun j => iI ((q j : Nat) : Int))))]) hP
    have hK2 := hK.sub (tys' := [(cI, .int)]) [1] rfl
    have hf9 : cells + 1 + 0 ≤ room_1.cells ∧ slots + 6 + 0 ≤ room_1.slots := ⟨by show cells + 1 + 0 ≤ 1036; omega, by show slots + 6 + 0 ≤ 8286; omega⟩
    refine rd_call (va_runV (As := []) (rest := []) ⟨hx, hb, hml, hown, hts⟩ (mX1_thrown l dC dI cI m0 t0 k0 p0 a0 a1 K q (iI 1) w hp0.1 hp1.1 hw hq) (cwV 0 hts gL_law_X1_thrown rfl rfl rfl hvX1_thrown ⟨(Nat.le_of_ble_eq_true rfl), (Nat.le_of_ble_eq_true rfl)⟩) (bW_pre (ci := 1) (q0 := 0) hK2 hP2 rfl rfl rfl) rfl rfl hl.1 rfl (lv_room (Nat.le_of_ble_eq_true rfl)) dL_law_913 hf9) ?_
    refine lv_iload hx hb dL_law_916 (lv_at hl 1 rfl) ?_
    refine ib_icmp_eq (tgt := 923) hx hb dL_law_918 (by decide) ⟨by omega, by omega⟩ ⟨by omega, by omega⟩ (fun c_918 => ?_) (fun c_918 => absurd c_918 (by decide))
    refine lv_iload hx hb dL_law_923 (lv_at hl 1 rfl) ?_
    refine ib_if_ne (tgt := 940) hx hb dL_law_925 (by decide) ⟨by omega, by omega⟩ (fun c_925 => ?_) (fun c_925 => absurd c_925 (by decide))
    refine lv_goto (tgt := 1833) hx hb dL_law_940 (by decide) ?_
    exact kk a0 a1 q K w (iI 1) (g) H ls ⟨hp0, hp1, hw, hq, hqd, hP, hD, hS⟩ (lv_sub hl [2, 3, 4, 5, 6] rfl)
  obtain ⟨r, hn0, rfl⟩ := nat_of (z := z0) (k := 4095) (by omega)
  refine lv_aload_n hx hb dL_law_887 rfl (lv_at hl 1 rfl) ?_
  refine lv_aload_n hx hb dL_law_888 rfl (lv_at hl 0 rfl) ?_
  refine lv_iload hx hb dL_law_889 (lv_at hl 4 rfl) ?_
  refine ib_const hx hb dL_law_891 ?_
  refine ib_add (z := (((5 * n) + 1 : Nat) : Int)) hx hb dL_law_892 (by omega) ?_
  refine st_i (y := iI ((5 * n + 1 : Nat) : Int)) (congrArg iI (by omega)) ?_
  refine va_sld (b := b) (L := L) (xs := xs) hx hb hX hbl hbA hS (iI_vp (i := 5 * n + 1) (by omega) (by omega)) dL_law_893 ?_
  refine st_i (y := iI ((r : Nat) : Int)) ((congrArg xs (iI_cl (by omega))).trans e0) ?_
  refine lv_aload_n hx hb dL_law_894 rfl (lv_at hl 3 rfl) ?_
  have hf9 : cells + 0 ≤ room_1.cells ∧ slots + 0 ≤ room_1.slots := ⟨by show cells + 0 ≤ 1036; omega, by show slots + 0 ≤ 8286; omega⟩
  have hP1 : va_P (dC, dI) vwCl [(o0, .inr (0, [.long (pk a0), .long (pk a1), .long (pkn q w), .int (iI ((w : Nat) : Int))])), (u0, .inl (cJ, 1, .inr (.inl (g))))] H := va_P_l (w1 := [(o0, .inr (0, [.long (pk a0), .long (pk a1), .long (pkn q w), .int (iI ((w : Nat) : Int))])), (u0, .inl (cJ, 1, .inr (.inl (g))))]) (w2 := [(m0, .inr (1, [.int th, .ref t0, .ref k0, .ref p0, .int (iI ((w : Nat) : Int))])), (t0, .inl (cI, 24, .inl (fun j => iI ((tb a0 a1 j : Nat) : Int)))), (k0, .inl (cI, 12, .inl (fun j => iI ((K j : Nat) : Int)))), (p0, .inl (cI, 12, .inl (fun j => iI ((q j : Nat) : Int))))]) hP
  have hD1 : va_D (LA s) [(o0, .inr (0, [.long (pk a0), .long (pk a1), .long (pkn q w), .int (iI ((w : Nat) : Int))])), (u0, .inl (cJ, 1, .inr (.inl (g))))] := va_D_l (w1 := [(o0, .inr (0, [.long (pk a0), .long (pk a1), .long (pkn q w), .int (iI ((w : Nat) : Int))])), (u0, .inl (cJ, 1, .inr (.inl (g))))]) (w2 := [(m0, .inr (1, [.int th, .ref t0, .ref k0, .ref p0, .int (iI ((w : Nat) : Int))])), (t0, .inl (cI, 24, .inl (fun j => iI ((tb a0 a1 j : Nat) : Int)))), (k0, .inl (cI, 12, .inl (fun j => iI ((K j : Nat) : Int)))), (p0, .inl (cI, 12, .inl (fun j => iI ((q j : Nat) : Int))))]) hD
  have hK1 := hK.sub (tys' := [(cJ, .long)]) [0] rfl
  refine wr_call (vx_runSW (As := [.ref o0, .int (iI ((r : Nat) : Int)), .ref u0]) (rest := []) ⟨hx, hb, hml, hown, hts⟩ (mL_formOfOther_ok l dC dI cJ o0 u0 a0 a1 q w hp0 hp1 hw hq hqd g r (by omega)) (vx_cwSW 3 hts gL_law_L_formOfOther rfl rfl rfl hdL_formOfOther ⟨(Nat.le_of_ble_eq_true rfl), (Nat.le_of_ble_eq_true rfl)⟩) (bD_preS hK1 hP1 hD1) rfl rfl hl.1 rfl (lv_room (Nat.le_of_ble_eq_true rfl)) dL_law_895 hf9) hS (fun q9 h => inW_A hD1 h) (fun H locs hPn hz hk hS => ?_)
  have hP : va_P (dC, dI) vwCl ([(o0, .inr (0, [.long (pk a0), .long (pk a1), .long (pkn q w), .int (iI ((w : Nat) : Int))])), (u0, .inl (cJ, 1, .inr (.inl (fun _ => (iI (foF (rw_ r a0 a1) (rw_ (1 - r) a0 a1))).toInt64))))] ++ [(m0, .inr (1, [.int th, .ref t0, .ref k0, .ref p0, .int (iI ((w : Nat) : Int))])), (t0, .inl (cI, 24, .inl (fun j => iI ((tb a0 a1 j : Nat) : Int)))), (k0, .inl (cI, 12, .inl (fun j => iI ((K j : Nat) : Int)))), (p0, .inl (cI, 12, .inl (fun j => iI ((q j : Nat) : Int))))]) H := wj_l (w1 := [(o0, .inr (0, [.long (pk a0), .long (pk a1), .long (pkn q w), .int (iI ((w : Nat) : Int))])), (u0, .inl (cJ, 1, .inr (.inl (g))))]) (w2 := [(m0, .inr (1, [.int th, .ref t0, .ref k0, .ref p0, .int (iI ((w : Nat) : Int))])), (t0, .inl (cI, 24, .inl (fun j => iI ((tb a0 a1 j : Nat) : Int)))), (k0, .inl (cI, 12, .inl (fun j => iI ((K j : Nat) : Int)))), (p0, .inl (cI, 12, .inl (fun j => iI ((q j : Nat) : Int))))]) (w1' := [(o0, .inr (0, [.long (pk a0), .long (pk a1), .long (pkn q w), .int (iI ((w : Nat) : Int))])), (u0, .inl (cJ, 1, .inr (.inl (fun _ => (iI (foF (rw_ r a0 a1) (rw_ (1 - r) a0 a1))).toInt64))))]) hP hD hPn hk
  have hD : va_D (LA s) ([(o0, .inr (0, [.long (pk a0), .long (pk a1), .long (pkn q w), .int (iI ((w : Nat) : Int))])), (u0, .inl (cJ, 1, .inr (.inl (fun _ => (iI (foF (rw_ r a0 a1) (rw_ (1 - r) a0 a1))).toInt64))))] ++ [(m0, .inr (1, [.int th, .ref t0, .ref k0, .ref p0, .int (iI ((w : Nat) : Int))])), (t0, .inl (cI, 24, .inl (fun j => iI ((tb a0 a1 j : Nat) : Int)))), (k0, .inl (cI, 12, .inl (fun j => iI ((K j : Nat) : Int)))), (p0, .inl (cI, 12, .inl (fun j => iI ((q j : Nat) : Int))))]) := va_D_same (w := ([(o0, .inr (0, [.long (pk a0), .long (pk a1), .long (pkn q w), .int (iI ((w : Nat) : Int))])), (u0, .inl (cJ, 1, .inr (.inl (g))))] ++ [(m0, .inr (1, [.int th, .ref t0, .ref k0, .ref p0, .int (iI ((w : Nat) : Int))])), (t0, .inl (cI, 24, .inl (fun j => iI ((tb a0 a1 j : Nat) : Int)))), (k0, .inl (cI, 12, .inl (fun j => iI ((K j : Nat) : Int)))), (p0, .inl (cI, 12, .inl (fun j => iI ((q j : Nat) : Int))))])) (Eq.trans (b := [o0, u0, m0, t0, k0, p0]) rfl rfl) hD
  refine va_forget hS.2.2 ?_
  have hS := va_S_nil hS
  refine W.widen (k := cells + 1) (n := slots + 6) (by omega) (by omega) ?_
  refine lv_istore (lv' := [(5, .int (iI 0)), (0, .ref b), (1, .ref o0), (2, .ref m0), (3, .ref u0), (4, .int (iI ((5 * n : Nat) : Int)))]) hx hb dL_law_898 hl (by decide) rfl (fun ls hl => ?_)
  refine lv_aload_n hx hb dL_law_900 rfl (lv_at hl 3 rfl) ?_
  refine lv_aload_n hx hb dL_law_901 rfl (lv_at hl 1 rfl) ?_
  refine lv_iload hx hb dL_law_902 (lv_at hl 5 rfl) ?_
  refine ib_const hx hb dL_law_904 ?_
  refine ib_add (z := (((5 * n) + 1 : Nat) : Int)) hx hb dL_law_905 (by omega) ?_
  refine st_i (y := iI ((5 * n + 1 : Nat) : Int)) (congrArg iI (by omega)) ?_
  refine va_sld (b := b) (L := L) (xs := xs) hx hb hX hbl hbA hS (iI_vp (i := 5 * n + 1) (by omega) (by omega)) dL_law_906 ?_
  refine st_i (y := iI ((r : Nat) : Int)) ((congrArg xs (iI_cl (by omega))).trans e0) ?_
  have hP2 : va_P (dC, dI) vwCl [(m0, .inr (1, [.int th, .ref t0, .ref k0, .ref p0, .int (iI ((w : Nat) : Int))])), (t0, .inl (cI, 24, .inl (fun j => iI ((tb a0 a1 j : Nat) : Int)))), (k0, .inl (cI, 12, .inl (fun j => iI ((K j : Nat) : Int)))), (p0, .inl (cI, 12, .inl (fun j => iI ((q j : Nat) : Int))))] H := va_P_r (w1 := [(o0, .inr (0, [.long (pk a0), .long (pk a1), .long (pkn q w), .int (iI ((w : Nat) : Int))])), (u0, .inl (cJ, 1, .inr (.inl (fun _ => (iI (foF (rw_ r a0 a1) (rw_ (1 - r) a0 a1))).toInt64))))]) (w2 := [(m0, .inr (1, [.int th, .ref t0, .ref k0, .ref p0, .int (iI ((w : Nat) : Int))])), (t0, .inl (cI, 24, .inl (fun j => iI ((tb a0 a1 j : Nat) : Int)))), (k0, .inl (cI, 12, .inl (fun j => iI ((K j : Nat) : Int)))), (p0, .inl (cI, 12, .inl (fun j => iI ((q j : Nat) : Int))))]) hP
  have hK2 := hK.sub (tys' := [(cI, .int)]) [1] rfl
  have hf9 : cells + 1 + 0 ≤ room_1.cells ∧ slots + 6 + 0 ≤ room_1.slots := ⟨by show cells + 1 + 0 ≤ 1036; omega, by show slots + 6 + 0 ≤ 8286; omega⟩
  have hD2 : va_D (LA s) [(m0, .inr (1, [.int th, .ref t0, .ref k0, .ref p0, .int (iI ((w : Nat) : Int))])), (t0, .inl (cI, 24, .inl (fun j => iI ((tb a0 a1 j : Nat) : Int)))), (k0, .inl (cI, 12, .inl (fun j => iI ((K j : Nat) : Int)))), (p0, .inl (cI, 12, .inl (fun j => iI ((q j : Nat) : Int))))] := va_D_r (w1 := [(o0, .inr (0, [.long (pk a0), .long (pk a1), .long (pkn q w), .int (iI ((w : Nat) : Int))])), (u0, .inl (cJ, 1, .inr (.inl (fun _ => (iI (foF (rw_ r a0 a1) (rw_ (1 - r) a0 a1))).toInt64))))]) (w2 := [(m0, .inr (1, [.int th, .ref t0, .ref k0, .ref p0, .int (iI ((w : Nat) : Int))])), (t0, .inl (cI, 24, .inl (fun j => iI ((tb a0 a1 j : Nat) : Int)))), (k0, .inl (cI, 12, .inl (fun j => iI ((K j : Nat) : Int)))), (p0, .inl (cI, 12, .inl (fun j => iI ((q j : Nat) : Int))))]) hD
  refine wr_call (va_runV (As := [.int (iI ((r : Nat) : Int))]) (rest := []) ⟨hx, hb, hml, hown, hts⟩ (mX1_formOfOther_ok l dC dI cI m0 t0 k0 p0 a0 a1 K q th w hp0.1 hp1.1 hw hq r (by omega)) (cwV 1 hts gL_law_X1_formOfOther rfl rfl rfl hvX1_formOfOther ⟨(Nat.le_of_ble_eq_true rfl), (Nat.le_of_ble_eq_true rfl)⟩) (bD_pre (ci := 1) (q0 := 0) hK2 hP2 hD2 rfl rfl rfl) rfl rfl hl.1 rfl (lv_room (Nat.le_of_ble_eq_true rfl)) dL_law_907 hf9) hS (fun q9 h => inW_A hD2 h) (fun H locs hPn hz hk hS => ?_)
  have hP : va_P (dC, dI) vwCl ([(o0, .inr (0, [.long (pk a0), .long (pk a1), .long (pkn q w), .int (iI ((w : Nat) : Int))])), (u0, .inl (cJ, 1, .inr (.inl (fun _ => (iI (foF (rw_ r a0 a1) (rw_ (1 - r) a0 a1))).toInt64))))] ++ [(m0, .inr (1, [.int (iI 0), .ref t0, .ref k0, .ref p0, .int (iI ((w : Nat) : Int))])), (t0, .inl (cI, 24, .inl (fun j => iI ((tb a0 a1 j : Nat) : Int)))), (k0, .inl (cI, 12, .inl (fun j => iI ((K j : Nat) : Int)))), (p0, .inl (cI, 12, .inl (fun j => iI ((q j : Nat) : Int))))]) H := wj_r (w1 := [(o0, .inr (0, [.long (pk a0), .long (pk a1), .long (pkn q w), .int (iI ((w : Nat) : Int))])), (u0, .inl (cJ, 1, .inr (.inl (fun _ => (iI (foF (rw_ r a0 a1) (rw_ (1 - r) a0 a1))).toInt64))))]) (w2 := [(m0, .inr (1, [.int th, .ref t0, .ref k0, .ref p0, .int (iI ((w : Nat) : Int))])), (t0, .inl (cI, 24, .inl (fun j => iI ((tb a0 a1 j : Nat) : Int)))), (k0, .inl (cI, 12, .inl (fun j => iI ((K j : Nat) : Int)))), (p0, .inl (cI, 12, .inl (fun j => iI ((q j : Nat) : Int))))]) (w2' := [(m0, .inr (1, [.int (iI 0), .ref t0, .ref k0, .ref p0, .int (iI ((w : Nat) : Int))])), (t0, .inl (cI, 24, .inl (fun j => iI ((tb a0 a1 j : Nat) : Int)))), (k0, .inl (cI, 12, .inl (fun j => iI ((K j : Nat) : Int)))), (p0, .inl (cI, 12, .inl (fun j => iI ((q j : Nat) : Int))))]) hP hD hPn hk
  have hD : va_D (LA s) ([(o0, .inr (0, [.long (pk a0), .long (pk a1), .long (pkn q w), .int (iI ((w : Nat) : Int))])), (u0, .inl (cJ, 1, .inr (.inl (fun _ => (iI (foF (rw_ r a0 a1) (rw_ (1 - r) a0 a1))).toInt64))))] ++ [(m0, .inr (1, [.int (iI 0), .ref t0, .ref k0, .ref p0, .int (iI ((w : Nat) : Int))])), (t0, .inl (cI, 24, .inl (fun j => iI ((tb a0 a1 j : Nat) : Int)))), (k0, .inl (cI, 12, .inl (fun j => iI ((K j : Nat) : Int)))), (p0, .inl (cI, 12, .inl (fun j => iI ((q j : Nat) : Int))))]) := va_D_same (w := ([(o0, .inr (0, [.long (pk a0), .long (pk a1), .long (pkn q w), .int (iI ((w : Nat) : Int))])), (u0, .inl (cJ, 1, .inr (.inl (fun _ => (iI (foF (rw_ r a0 a1) (rw_ (1 - r) a0 a1))).toInt64))))] ++ [(m0, .inr (1, [.int th, .ref t0, .ref k0, .ref p0, .int (iI ((w : Nat) : Int))])), (t0, .inl (cI, 24, .inl (fun j => iI ((tb a0 a1 j : Nat) : Int)))), (k0, .inl (cI, 12, .inl (fun j => iI ((K j : Nat) : Int)))), (p0, .inl (cI, 12, .inl (fun j => iI ((q j : Nat) : Int))))])) (Eq.trans (b := [o0, u0, m0, t0, k0, p0]) rfl rfl) hD
  refine va_forget hS.2.2 ?_
  have hS := va_S_nil hS
  refine lv_istore (lv' := [(6, .int (iI (foF (rw_ r a0 a1) (rw_ (1 - r) a0 a1)))), (5, .int (iI 0)), (0, .ref b), (1, .ref o0), (2, .ref m0), (3, .ref u0), (4, .int (iI ((5 * n : Nat) : Int)))]) hx hb dL_law_910 hl (by decide) rfl (fun ls hl => ?_)
  refine lv_aload_n hx hb dL_law_912 rfl (lv_at hl 4 rfl) ?_
  have hP2 : va_P (dC, dI) vwCl [(m0, .inr (1, [.int (iI 0), .ref t0, .ref k0, .ref p0, .int (iI ((w : Nat) : Int))])), (t0, .inl (cI, 24, .inl (fun j => iI ((tb a0 a1 j : Nat) : Int)))), (k0, .inl (cI, 12, .inl (fun j => iI ((K j : Nat) : Int)))), (p0, .inl (cI, 12, .inl (fun j => iI ((q j : Nat) : Int))))] H := va_P_r (w1 := [(o0, .inr (0, [.long (pk a0), .long (pk a1), .long (pkn q w), .int (iI ((w : Nat) : Int))])), (u0, .inl (cJ, 1, .inr (.inl (fun _ => (iI (foF (rw_ r a0 a1) (rw_ (1 - r) a0 a1))).toInt64))))]) (w2 := [(m0, .inr (1, [.int (iI 0), .ref t0, .ref k0, .ref p0, .int (iI ((w : Nat) : Int))])), (t0, .inl (cI, 24, .inl (fun j => iI ((tb a0 a1 j : Nat) : Int)))), (k0, .inl (cI, 12, .inl (fun j => iI ((K j : Nat) : Int)))), (p0, .inl (cI, 12, .inl (fun j => iI ((q j : Nat) : Int))))]) hP
  have hK2 := hK.sub (tys' := [(cI, .int)]) [1] rfl
  have hf9 : cells + 1 + 0 ≤ room_1.cells ∧ slots + 6 + 0 ≤ room_1.slots := ⟨by show cells + 1 + 0 ≤ 1036; omega, by show slots + 6 + 0 ≤ 8286; omega⟩
  refine rd_call (va_runV (As := []) (rest := []) ⟨hx, hb, hml, hown, hts⟩ (mX1_thrown l dC dI cI m0 t0 k0 p0 a0 a1 K q (iI 0) w hp0.1 hp1.1 hw hq) (cwV 0 hts gL_law_X1_thrown rfl rfl rfl hvX1_thrown ⟨(Nat.le_of_ble_eq_true rfl), (Nat.le_of_ble_eq_true rfl)⟩) (bW_pre (ci := 1) (q0 := 0) hK2 hP2 rfl rfl rfl) rfl rfl hl.1 rfl (lv_room (Nat.le_of_ble_eq_true rfl)) dL_law_913 hf9) ?_
  refine lv_iload hx hb dL_law_916 (lv_at hl 1 rfl) ?_
  refine ib_icmp_eq (tgt := 923) hx hb dL_law_918 (by decide) ⟨by omega, by omega⟩ ⟨by omega, by omega⟩ (fun c_918 => ?_) (fun c_918 => absurd c_918 (by decide))
  refine lv_iload hx hb dL_law_923 (lv_at hl 1 rfl) ?_
  refine ib_if_ne (tgt := 940) hx hb dL_law_925 (by decide) ⟨by omega, by omega⟩ (fun c_925 => absurd c_925 (by decide)) (fun c_925 => ?_)
  refine lv_aload_n hx hb dL_law_928 rfl (lv_at hl 5 rfl) ?_
  refine ib_const hx hb dL_law_929 ?_
  refine va_lald hx hb hK hP 1 0 rfl rfl vp0 dL_law_930 ?_
  refine st_l (y := (iI (foF (rw_ r a0 a1) (rw_ (1 - r) a0 a1))).toInt64) rfl ?_
  refine lv_iload hx hb dL_law_931 (lv_at hl 0 rfl) ?_
  refine lv_i2l hx hb dL_law_933 rfl ?_
  refine W.lcmp hx hb dL_law_934 ?_
  refine bl_eq (tgt := 940) hx hb dL_law_935 (by decide) (fun _ => ?_) (fun h => absurd rfl h)
  refine lv_goto (tgt := 1833) hx hb dL_law_940 (by decide) ?_
  exact kk a0 a1 q K w (iI 0) (fun _ => (iI (foF (rw_ r a0 a1) (rw_ (1 - r) a0 a1))).toInt64) H ls ⟨hp0, hp1, hw, hq, hqd, hP, hD, hS⟩ (lv_sub hl [2, 3, 4, 5, 6] rfl)

set_option maxHeartbeats 4000000 in
set_option maxRecDepth 100000 in
theorem law_c11 {p : Program} {l : Launch} {e : Env} {s : State} {m : MethodId} {below : List Frame} {meth : Method} {c : Code} {Q : State → Prop} {dC : Nat → ClassId} {dI : Nat → Nat → Nat} {cI cJ : ClassId} {b L : Nat} {xs : Nat → Int32} (C : LC p l s m meth c (dC, dI) cI cJ b L xs) {o0 u0 m0 t0 k0 p0 : Nat} {a0 a1 q K : Nat → Nat} {w : Nat} {th : Int32} {g : Nat → Int64} {H : Heap} (hI : LI s (dC, dI) cI cJ o0 u0 m0 t0 k0 p0 a0 a1 q K w th g H) {n cells slots : Nat} (hc1 : cells + 1 ≤ 1036) (hc2 : slots + 6 ≤ 8286) (hn : 5 * n + 5 ≤ L) (hL : L ≤ 2560) {ls : Array Slot} (hl : lv_has ls 8 [(0, .ref b), (1, .ref o0), (2, .ref m0), (3, .ref u0), (4, .int (iI ((5 * n : Nat) : Int)))])
    (kk : ∀ (a0 a1 q K : Nat → Nat) (w : Nat) (th : Int32) (g : Nat → Int64) (H : Heap) (ls : Array Slot), LI s (dC, dI) cI cJ o0 u0 m0 t0 k0 p0 a0 a1 q K w th g H → lv_has ls 8 [(0, .ref b), (1, .ref o0), (2, .ref m0), (3, .ref u0), (4, .int (iI ((5 * n : Nat) : Int)))] → W p l e room_1 s m #[Value.ref b] below meth c H [] (cells + 1) (slots + 6) Q (F0 m 1833 ls [])) : W p l e room_1 s m #[Value.ref b] below meth c H [] cells slots Q (F0 m 943 ls []) := by
  obtain ⟨hx, hb, hml, hown, hts, hK, hG0, hN, hX, hbl, hfl⟩ := C
  obtain ⟨hp0, hp1, hw, hq, hqd, hP, hD, hS⟩ := hI
  have hbA : ¬ LA s b := Nat.not_le.mpr hbl
  obtain ⟨z0, hz0, e0⟩ := ex_i (xs (5 * n + 1))
  obtain ⟨z1, hz1, e1⟩ := ex_i (xs (5 * n + 2))
  obtain ⟨z2, hz2, e2⟩ := ex_i (xs (5 * n + 3))
  have hza0 := hz0.1
  have hzb0 := hz0.2
  have hza1 := hz1.1
  have hzb1 := hz1.2
  have hza2 := hz2.1
  have hzb2 := hz2.2
  by_cases b1 : ¬ ((z0 = 0 ∨ z0 = 1) ∧ (0 ≤ z1 ∧ z1 ≤ 11))
  · skip
    refine lv_aload_n hx hb dL_law_943 rfl (lv_at hl 1 rfl) ?_
    refine lv_aload_n hx hb dL_law_944 rfl (lv_at hl 0 rfl) ?_
    refine lv_iload hx hb dL_law_945 (lv_at hl 4 rfl) ?_
    refine ib_const hx hb dL_law_947 ?_
    refine ib_add (z := (((5 * n) + 1 : Nat) : Int)) hx hb dL_law_948 (by omega) ?_
    refine st_i (y := iI ((5 * n + 1 : Nat) : Int)) (congrArg iI (by omega)) ?_
    refine va_sld (b := b) (L := L) (xs := xs) hx hb hX hbl hbA hS (iI_vp (i := 5 * n + 1) (by omega) (by omega)) dL_law_949 ?_
    refine st_i (y := iI z0) ((congrArg xs (iI_cl (by omega))).trans e0) ?_
    refine lv_aload_n hx hb dL_law_950 rfl (lv_at hl 0 rfl) ?_
    refine lv_iload hx hb dL_law_951 (lv_at hl 4 rfl) ?_
    refine ib_const hx hb dL_law_953 ?_
    refine ib_add (z := (((5 * n) + 2 : Nat) : Int)) hx hb dL_law_954 (by omega) ?_
    refine st_i (y := iI ((5 * n + 2 : Nat) : Int)) (congrArg iI (by omega)) ?_
    refine va_sld (b := b) (L := L) (xs := xs) hx hb hX hbl hbA hS (iI_vp (i := 5 * n + 2) (by omega) (by omega)) dL_law_955 ?_
    refine st_i (y := iI z1) ((congrArg xs (iI_cl (by omega))).trans e1) ?_
    refine lv_aload_n hx hb dL_law_956 rfl (lv_at hl 0 rfl) ?_
    refine lv_iload hx hb dL_law_957 (lv_at hl 4 rfl) ?_
    refine ib_const hx hb dL_law_959 ?_
    refine ib_add (z := (((5 * n) + 3 : Nat) : Int)) hx hb dL_law_960 (by omega) ?_
    refine st_i (y := iI ((5 * n + 3 : Nat) : Int)) (congrArg iI (by omega)) ?_
    refine va_sld (b := b) (L := L) (xs := xs) hx hb hX hbl hbA hS (iI_vp (i := 5 * n + 3) (by omega) (by omega)) dL_law_961 ?_
    refine st_i (y := iI z2) ((congrArg xs (iI_cl (by omega))).trans e2) ?_
    refine lv_aload_n hx hb dL_law_962 rfl (lv_at hl 3 rfl) ?_
    have hf9 : cells + 1 ≤ room_1.cells ∧ slots + 6 ≤ room_1.slots := ⟨by show cells + 1 ≤ 1036; omega, by show slots + 6 ≤ 8286; omega⟩
    have hP1 : va_P (dC, dI) vwCl [(o0, .inr (0, [.long (pk a0), .long (pk a1), .long (pkn q w), .int (iI ((w : Nat) : Int))]))] H := va_P_l (w1 := [(o0, .inr (0, [.long (pk a0), .long (pk a1), .long (pkn q w), .int (iI ((w : Nat) : Int))]))]) (w2 := [(u0, .inl (cJ, 1, .inr (.inl (g)))), (m0, .inr (1, [.int th, .ref t0, .ref k0, .ref p0, .int (iI ((w : Nat) : Int))])), (t0, .inl (cI, 24, .inl (fun j => iI ((tb a0 a1 j : Nat) : Int)))), (k0, .inl (cI, 12, .inl (fun j => iI ((K j : Nat) : Int)))), (p0, .inl (cI, 12, .inl (fun j => iI ((q j : Nat) : Int))))]) hP
    have hK1 := hK.sub (tys' := []) [] rfl
    refine rdK_call (vx_runSW (As := [.ref o0, .int (iI z0), .int (iI z1), .int (iI z2), .ref u0]) (rest := []) ⟨hx, hb, hml, hown, hts⟩ (mL_segment_x1 l hfl dC dI o0 a0 a1 q w hp0 hp1 hw hq hqd u0 z0 z1 z2 hz0 hz1 hz2 b1) (vx_cwSW 5 hts gL_law_L_segment rfl rfl rfl hdL_segment ⟨(Nat.le_of_ble_eq_true rfl), (Nat.le_of_ble_eq_true rfl)⟩) (bY_preS hK1 hP1 (hG0.at hS) hN) rfl rfl hl.1 rfl (lv_room (Nat.le_of_ble_eq_true rfl)) dL_law_963 hf9) (fun H hz hk => ?_)
    have hP : va_P (dC, dI) vwCl ([(o0, .inr (0, [.long (pk a0), .long (pk a1), .long (pkn q w), .int (iI ((w : Nat) : Int))])), (u0, .inl (cJ, 1, .inr (.inl (g))))] ++ [(m0, .inr (1, [.int th, .ref t0, .ref k0, .ref p0, .int (iI ((w : Nat) : Int))])), (t0, .inl (cI, 24, .inl (fun j => iI ((tb a0 a1 j : Nat) : Int)))), (k0, .inl (cI, 12, .inl (fun j => iI ((K j : Nat) : Int)))), (p0, .inl (cI, 12, .inl (fun j => iI ((q j : Nat) : Int))))]) H := va_P_new hP hk
    have hS := va_S_new hS hz hk
    refine lv_istore (lv' := [(5, .int (iI 1)), (0, .ref b), (1, .ref o0), (2, .ref m0), (3, .ref u0), (4, .int (iI ((5 * n : Nat) : Int)))]) hx hb dL_law_966 hl (by decide) rfl (fun ls hl => ?_)
    refine lv_aload_n hx hb dL_law_968 rfl (lv_at hl 3 rfl) ?_
    refine lv_aload_n hx hb dL_law_969 rfl (lv_at hl 1 rfl) ?_
    refine lv_iload hx hb dL_law_970 (lv_at hl 5 rfl) ?_
    refine ib_const hx hb dL_law_972 ?_
    refine ib_add (z := (((5 * n) + 1 : Nat) : Int)) hx hb dL_law_973 (by omega) ?_
    refine st_i (y := iI ((5 * n + 1 : Nat) : Int)) (congrArg iI (by omega)) ?_
    refine va_sld (b := b) (L := L) (xs := xs) hx hb hX hbl hbA hS (iI_vp (i := 5 * n + 1) (by omega) (by omega)) dL_law_974 ?_
    refine st_i (y := iI z0) ((congrArg xs (iI_cl (by omega))).trans e0) ?_
    refine lv_aload_n hx hb dL_law_975 rfl (lv_at hl 1 rfl) ?_
    refine lv_iload hx hb dL_law_976 (lv_at hl 5 rfl) ?_
    refine ib_const hx hb dL_law_978 ?_
    refine ib_add (z := (((5 * n) + 2 : Nat) : Int)) hx hb dL_law_979 (by omega) ?_
    refine st_i (y := iI ((5 * n + 2 : Nat) : Int)) (congrArg iI (by omega)) ?_
    refine va_sld (b := b) (L := L) (xs := xs) hx hb hX hbl hbA hS (iI_vp (i := 5 * n + 2) (by omega) (by omega)) dL_law_980 ?_
    refine st_i (y := iI z1) ((congrArg xs (iI_cl (by omega))).trans e1) ?_
    refine lv_aload_n hx hb dL_law_981 rfl (lv_at hl 1 rfl) ?_
    refine lv_iload hx hb dL_law_982 (lv_at hl 5 rfl) ?_
    refine ib_const hx hb dL_law_984 ?_
    refine ib_add (z := (((5 * n) + 3 : Nat) : Int)) hx hb dL_law_985 (by omega) ?_
    refine st_i (y := iI ((5 * n + 3 : Nat) : Int)) (congrArg iI (by omega)) ?_
    refine va_sld (b := b) (L := L) (xs := xs) hx hb hX hbl hbA hS (iI_vp (i := 5 * n + 3) (by omega) (by omega)) dL_law_986 ?_
    refine st_i (y := iI z2) ((congrArg xs (iI_cl (by omega))).trans e2) ?_
    have hP2 : va_P (dC, dI) vwCl [(m0, .inr (1, [.int th, .ref t0, .ref k0, .ref p0, .int (iI ((w : Nat) : Int))])), (t0, .inl (cI, 24, .inl (fun j => iI ((tb a0 a1 j : Nat) : Int)))), (k0, .inl (cI, 12, .inl (fun j => iI ((K j : Nat) : Int)))), (p0, .inl (cI, 12, .inl (fun j => iI ((q j : Nat) : Int))))] H := va_P_r (w1 := [(o0, .inr (0, [.long (pk a0), .long (pk a1), .long (pkn q w), .int (iI ((w : Nat) : Int))])), (u0, .inl (cJ, 1, .inr (.inl (g))))]) (w2 := [(m0, .inr (1, [.int th, .ref t0, .ref k0, .ref p0, .int (iI ((w : Nat) : Int))])), (t0, .inl (cI, 24, .inl (fun j => iI ((tb a0 a1 j : Nat) : Int)))), (k0, .inl (cI, 12, .inl (fun j => iI ((K j : Nat) : Int)))), (p0, .inl (cI, 12, .inl (fun j => iI ((q j : Nat) : Int))))]) hP
    have hK2 := hK.sub (tys' := [(cI, .int)]) [1] rfl
    have hf9 : cells + 1 + 0 ≤ room_1.cells ∧ slots + 6 + 0 ≤ room_1.slots := ⟨by show cells + 1 + 0 ≤ 1036; omega, by show slots + 6 + 0 ≤ 8286; omega⟩
    have hD2 : va_D (LA s) [(m0, .inr (1, [.int th, .ref t0, .ref k0, .ref p0, .int (iI ((w : Nat) : Int))])), (t0, .inl (cI, 24, .inl (fun j => iI ((tb a0 a1 j : Nat) : Int)))), (k0, .inl (cI, 12, .inl (fun j => iI ((K j : Nat) : Int)))), (p0, .inl (cI, 12, .inl (fun j => iI ((q j : Nat) : Int))))] := va_D_r (w1 := [(o0, .inr (0, [.long (pk a0), .long (pk a1), .long (pkn q w), .int (iI ((w : Nat) : Int))])), (u0, .inl (cJ, 1, .inr (.inl (g))))]) (w2 := [(m0, .inr (1, [.int th, .ref t0, .ref k0, .ref p0, .int (iI ((w : Nat) : Int))])), (t0, .inl (cI, 24, .inl (fun j => iI ((tb a0 a1 j : Nat) : Int)))), (k0, .inl (cI, 12, .inl (fun j => iI ((K j : Nat) : Int)))), (p0, .inl (cI, 12, .inl (fun j => iI ((q j : Nat) : Int))))]) hD
    refine wr_call (va_runV (As := [.int (iI z0), .int (iI z1), .int (iI z2)]) (rest := []) ⟨hx, hb, hml, hown, hts⟩ (mX1_segment_x1 l dC dI cI m0 t0 k0 p0 a0 a1 K q th w hp0.1 hp1.1 hw hq z0 z1 z2 hz0 hz1 hz2 b1) (cwV 3 hts gL_law_X1_segment rfl rfl rfl hvX1_segment ⟨(Nat.le_of_ble_eq_true rfl), (Nat.le_of_ble_eq_true rfl)⟩) (bD_pre (ci := 1) (q0 := 0) hK2 hP2 hD2 rfl rfl rfl) rfl rfl hl.1 rfl (lv_room (Nat.le_of_ble_eq_true rfl)) dL_law_987 hf9) hS (fun q9 h => inW_A hD2 h) (fun H locs hPn hz hk hS => ?_)
    have hP : va_P (dC, dI) vwCl ([(o0, .inr (0, [.long (pk a0), .long (pk a1), .long (pkn q w), .int (iI ((w : Nat) : Int))])), (u0, .inl (cJ, 1, .inr (.inl (g))))] ++ [(m0, .inr (1, [.int (iI 1), .ref t0, .ref k0, .ref p0, .int (iI ((w : Nat) : Int))])), (t0, .inl (cI, 24, .inl (fun j => iI ((tb a0 a1 j : Nat) : Int)))), (k0, .inl (cI, 12, .inl (fun j => iI ((K j : Nat) : Int)))), (p0, .inl (cI, 12, .inl (fun j => iI ((q j : Nat) : Int))))]) H := wj_r (w1 := [(o0, .inr (0, [.long (pk a0), .long (pk a1), .long (pkn q w), .int (iI ((w : Nat) : Int))])), (u0, .inl (cJ, 1, .inr (.inl (g))))]) (w2 := [(m0, .inr (1, [.int th, .ref t0, .ref k0, .ref p0, .int (iI ((w : Nat) : Int))])), (t0, .inl (cI, 24, .inl (fun j => iI ((tb a0 a1 j : Nat) : Int)))), (k0, .inl (cI, 12, .inl (fun j => iI ((K j : Nat) : Int)))), (p0, .inl (cI, 12, .inl (fun j => iI ((q j : Nat) : Int))))]) (w2' := [(m0, .inr (1, [.int (iI 1), .ref t0, .ref k0, .ref p0, .int (iI ((w : Nat) : Int))])), (t0, .inl (cI, 24, .inl (fun j => iI ((tb a0 a1 j : Nat) : Int)))), (k0, .inl (cI, 12, .inl (fun j => iI ((K j : Nat) : Int)))), (p0, .inl (cI, 12, .inl (fun j => iI ((q j : Nat) : Int))))]) hP hD hPn hk
    have hD : va_D (LA s) ([(o0, .inr (0, [.long (pk a0), .long (pk a1), .long (pkn q w), .int (iI ((w : Nat) : Int))])), (u0, .inl (cJ, 1, .inr (.inl (g))))] ++ [(m0, .inr (1, [.int (iI 1), .ref t0, .ref k0, .ref p0, .int (iI ((w : Nat) : Int))])), (t0, .inl (cI, 24, .inl (fun j => iI ((tb a0 a1 j : Nat) : Int)))), (k0, .inl (cI, 12, .inl (fun j => iI ((K j : Nat) : Int)))), (p0, .inl (cI, 12, .inl (fun j => iI ((q j : Nat) : Int))))]) := va_D_same (w := ([(o0, .inr (0, [.long (pk a0), .long (pk a1), .long (pkn q w), .int (iI ((w : Nat) : Int))])), (u0, .inl (cJ, 1, .inr (.inl (g))))] ++ [(m0, .inr (1, [.int th, .ref t0, .ref k0, .ref p0, .int (iI ((w : Nat) : Int))])), (t0, .inl (cI, 24, .inl (fun j => iI ((tb a0 a1 j : Nat) : Int)))), (k0, .inl (cI, 12, .inl (fun j => iI ((K j : Nat) : Int)))), (p0, .inl (cI, 12, .inl (fun j => iI ((q j : Nat) : Int))))])) (Eq.trans (b := [o0, u0, m0, t0, k0, p0]) rfl rfl) hD
    refine va_forget hS.2.2 ?_
    have hS := va_S_nil hS
    refine lv_istore (lv' := [(6, .int (iI 0)), (5, .int (iI 1)), (0, .ref b), (1, .ref o0), (2, .ref m0), (3, .ref u0), (4, .int (iI ((5 * n : Nat) : Int)))]) hx hb dL_law_990 hl (by decide) rfl (fun ls hl => ?_)
    refine lv_aload_n hx hb dL_law_992 rfl (lv_at hl 4 rfl) ?_
    have hP2 : va_P (dC, dI) vwCl [(m0, .inr (1, [.int (iI 1), .ref t0, .ref k0, .ref p0, .int (iI ((w : Nat) : Int))])), (t0, .inl (cI, 24, .inl (fun j => iI ((tb a0 a1 j : Nat) : Int)))), (k0, .inl (cI, 12, .inl (fun j => iI ((K j : Nat) : Int)))), (p0, .inl (cI, 12, .inl (fun j => iI ((q j : Nat) : Int))))] H := va_P_r (w1 := [(o0, .inr (0, [.long (pk a0), .long (pk a1), .long (pkn q w), .int (iI ((w : Nat) : Int))])), (u0, .inl (cJ, 1, .inr (.inl (g))))]) (w2 := [(m0, .inr (1, [.int (iI 1), .ref t0, .ref k0, .ref p0, .int (iI ((w : Nat) : Int))])), (t0, .inl (cI, 24, .inl (fun j => iI ((tb a0 a1 j : Nat) : Int)))), (k0, .inl (cI, 12, .inl (fun j => iI ((K j : Nat) : Int)))), (p0, .inl (cI, 12, .inl (fun j => iI ((q j : Nat) : Int))))]) hP
    have hK2 := hK.sub (tys' := [(cI, .int)]) [1] rfl
    have hf9 : cells + 1 + 0 ≤ room_1.cells ∧ slots + 6 + 0 ≤ room_1.slots := ⟨by show cells + 1 + 0 ≤ 1036; omega, by show slots + 6 + 0 ≤ 8286; omega⟩
    refine rd_call (va_runV (As := []) (rest := []) ⟨hx, hb, hml, hown, hts⟩ (mX1_thrown l dC dI cI m0 t0 k0 p0 a0 a1 K q (iI 1) w hp0.1 hp1.1 hw hq) (cwV 0 hts gL_law_X1_thrown rfl rfl rfl hvX1_thrown ⟨(Nat.le_of_ble_eq_true rfl), (Nat.le_of_ble_eq_true rfl)⟩) (bW_pre (ci := 1) (q0 := 0) hK2 hP2 rfl rfl rfl) rfl rfl hl.1 rfl (lv_room (Nat.le_of_ble_eq_true rfl)) dL_law_993 hf9) ?_
    refine lv_iload hx hb dL_law_996 (lv_at hl 1 rfl) ?_
    refine ib_icmp_eq (tgt := 1003) hx hb dL_law_998 (by decide) ⟨by omega, by omega⟩ ⟨by omega, by omega⟩ (fun c_998 => ?_) (fun c_998 => absurd c_998 (by decide))
    refine lv_iload hx hb dL_law_1003 (lv_at hl 1 rfl) ?_
    refine ib_if_ne (tgt := 1020) hx hb dL_law_1005 (by decide) ⟨by omega, by omega⟩ (fun c_1005 => ?_) (fun c_1005 => absurd c_1005 (by decide))
    refine lv_goto (tgt := 1833) hx hb dL_law_1020 (by decide) ?_
    exact kk a0 a1 q K w (iI 1) (g) H ls ⟨hp0, hp1, hw, hq, hqd, hP, hD, hS⟩ (lv_sub hl [2, 3, 4, 5, 6] rfl)
  by_cases b2 : ((z0 = 0 ∨ z0 = 1) ∧ (0 ≤ z1 ∧ z1 ≤ 11)) ∧ ¬ (1 ≤ z2 ∧ z2 ≤ 12 ∧ z1 + z2 ≤ 12)
  · skip
    refine lv_aload_n hx hb dL_law_943 rfl (lv_at hl 1 rfl) ?_
    refine lv_aload_n hx hb dL_law_944 rfl (lv_at hl 0 rfl) ?_
    refine lv_iload hx hb dL_law_945 (lv_at hl 4 rfl) ?_
    refine ib_const hx hb dL_law_947 ?_
    refine ib_add (z := (((5 * n) + 1 : Nat) : Int)) hx hb dL_law_948 (by omega) ?_
    refine st_i (y := iI ((5 * n + 1 : Nat) : Int)) (congrArg iI (by omega)) ?_
    refine va_sld (b := b) (L := L) (xs := xs) hx hb hX hbl hbA hS (iI_vp (i := 5 * n + 1) (by omega) (by omega)) dL_law_949 ?_
    refine st_i (y := iI z0) ((congrArg xs (iI_cl (by omega))).trans e0) ?_
    refine lv_aload_n hx hb dL_law_950 rfl (lv_at hl 0 rfl) ?_
    refine lv_iload hx hb dL_law_951 (lv_at hl 4 rfl) ?_
    refine ib_const hx hb dL_law_953 ?_
    refine ib_add (z := (((5 * n) + 2 : Nat) : Int)) hx hb dL_law_954 (by omega) ?_
    refine st_i (y := iI ((5 * n + 2 : Nat) : Int)) (congrArg iI (by omega)) ?_
    refine va_sld (b := b) (L := L) (xs := xs) hx hb hX hbl hbA hS (iI_vp (i := 5 * n + 2) (by omega) (by omega)) dL_law_955 ?_
    refine st_i (y := iI z1) ((congrArg xs (iI_cl (by omega))).trans e1) ?_
    refine lv_aload_n hx hb dL_law_956 rfl (lv_at hl 0 rfl) ?_
    refine lv_iload hx hb dL_law_957 (lv_at hl 4 rfl) ?_
    refine ib_const hx hb dL_law_959 ?_
    refine ib_add (z := (((5 * n) + 3 : Nat) : Int)) hx hb dL_law_960 (by omega) ?_
    refine st_i (y := iI ((5 * n + 3 : Nat) : Int)) (congrArg iI (by omega)) ?_
    refine va_sld (b := b) (L := L) (xs := xs) hx hb hX hbl hbA hS (iI_vp (i := 5 * n + 3) (by omega) (by omega)) dL_law_961 ?_
    refine st_i (y := iI z2) ((congrArg xs (iI_cl (by omega))).trans e2) ?_
    refine lv_aload_n hx hb dL_law_962 rfl (lv_at hl 3 rfl) ?_
    have hf9 : cells + 1 ≤ room_1.cells ∧ slots + 6 ≤ room_1.slots := ⟨by show cells + 1 ≤ 1036; omega, by show slots + 6 ≤ 8286; omega⟩
    have hP1 : va_P (dC, dI) vwCl [(o0, .inr (0, [.long (pk a0), .long (pk a1), .long (pkn q w), .int (iI ((w : Nat) : Int))]))] H := va_P_l (w1 := [(o0, .inr (0, [.long (pk a0), .long (pk a1), .long (pkn q w), .int (iI ((w : Nat) : Int))]))]) (w2 := [(u0, .inl (cJ, 1, .inr (.inl (g)))), (m0, .inr (1, [.int th, .ref t0, .ref k0, .ref p0, .int (iI ((w : Nat) : Int))])), (t0, .inl (cI, 24, .inl (fun j => iI ((tb a0 a1 j : Nat) : Int)))), (k0, .inl (cI, 12, .inl (fun j => iI ((K j : Nat) : Int)))), (p0, .inl (cI, 12, .inl (fun j => iI ((q j : Nat) : Int))))]) hP
    have hK1 := hK.sub (tys' := []) [] rfl
    refine rdK_call (vx_runSW (As := [.ref o0, .int (iI z0), .int (iI z1), .int (iI z2), .ref u0]) (rest := []) ⟨hx, hb, hml, hown, hts⟩ (mL_segment_x2 l hfl dC dI o0 a0 a1 q w hp0 hp1 hw hq hqd u0 z0 z1 z2 hz0 hz1 hz2 b2) (vx_cwSW 5 hts gL_law_L_segment rfl rfl rfl hdL_segment ⟨(Nat.le_of_ble_eq_true rfl), (Nat.le_of_ble_eq_true rfl)⟩) (bY_preS hK1 hP1 (hG0.at hS) hN) rfl rfl hl.1 rfl (lv_room (Nat.le_of_ble_eq_true rfl)) dL_law_963 hf9) (fun H hz hk => ?_)
    have hP : va_P (dC, dI) vwCl ([(o0, .inr (0, [.long (pk a0), .long (pk a1), .long (pkn q w), .int (iI ((w : Nat) : Int))])), (u0, .inl (cJ, 1, .inr (.inl (g))))] ++ [(m0, .inr (1, [.int th, .ref t0, .ref k0, .ref p0, .int (iI ((w : Nat) : Int))])), (t0, .inl (cI, 24, .inl (fun j => iI ((tb a0 a1 j : Nat) : Int)))), (k0, .inl (cI, 12, .inl (fun j => iI ((K j : Nat) : Int)))), (p0, .inl (cI, 12, .inl (fun j => iI ((q j : Nat) : Int))))]) H := va_P_new hP hk
    have hS := va_S_new hS hz hk
    refine lv_istore (lv' := [(5, .int (iI 2)), (0, .ref b), (1, .ref o0), (2, .ref m0), (3, .ref u0), (4, .int (iI ((5 * n : Nat) : Int)))]) hx hb dL_law_966 hl (by decide) rfl (fun ls hl => ?_)
    refine lv_aload_n hx hb dL_law_968 rfl (lv_at hl 3 rfl) ?_
    refine lv_aload_n hx hb dL_law_969 rfl (lv_at hl 1 rfl) ?_
    refine lv_iload hx hb dL_law_970 (lv_at hl 5 rfl) ?_
    refine ib_const hx hb dL_law_972 ?_
    refine ib_add (z := (((5 * n) + 1 : Nat) : Int)) hx hb dL_law_973 (by omega) ?_
    refine st_i (y := iI ((5 * n + 1 : Nat) : Int)) (congrArg iI (by omega)) ?_
    refine va_sld (b := b) (L := L) (xs := xs) hx hb hX hbl hbA hS (iI_vp (i := 5 * n + 1) (by omega) (by omega)) dL_law_974 ?_
    refine st_i (y := iI z0) ((congrArg xs (iI_cl (by omega))).trans e0) ?_
    refine lv_aload_n hx hb dL_law_975 rfl (lv_at hl 1 rfl) ?_
    refine lv_iload hx hb dL_law_976 (lv_at hl 5 rfl) ?_
    refine ib_const hx hb dL_law_978 ?_
    refine ib_add (z := (((5 * n) + 2 : Nat) : Int)) hx hb dL_law_979 (by omega) ?_
    refine st_i (y := iI ((5 * n + 2 : Nat) : Int)) (congrArg iI (by omega)) ?_
    refine va_sld (b := b) (L := L) (xs := xs) hx hb hX hbl hbA hS (iI_vp (i := 5 * n + 2) (by omega) (by omega)) dL_law_980 ?_
    refine st_i (y := iI z1) ((congrArg xs (iI_cl (by omega))).trans e1) ?_
    refine lv_aload_n hx hb dL_law_981 rfl (lv_at hl 1 rfl) ?_
    refine lv_iload hx hb dL_law_982 (lv_at hl 5 rfl) ?_
    refine ib_const hx hb dL_law_984 ?_
    refine ib_add (z := (((5 * n) + 3 : Nat) : Int)) hx hb dL_law_985 (by omega) ?_
    refine st_i (y := iI ((5 * n + 3 : Nat) : Int)) (congrArg iI (by omega)) ?_
    refine va_sld (b := b) (L := L) (xs := xs) hx hb hX hbl hbA hS (iI_vp (i := 5 * n + 3) (by omega) (by omega)) dL_law_986 ?_
    refine st_i (y := iI z2) ((congrArg xs (iI_cl (by omega))).trans e2) ?_
    have hP2 : va_P (dC, dI) vwCl [(m0, .inr (1, [.int th, .ref t0, .ref k0, .ref p0, .int (iI ((w : Nat) : Int))])), (t0, .inl (cI, 24, .inl (fun j => iI ((tb a0 a1 j : Nat) : Int)))), (k0, .inl (cI, 12, .inl (fun j => iI ((K j : Nat) : Int)))), (p0, .inl (cI, 12, .inl (fun j => iI ((q j : Nat) : Int))))] H := va_P_r (w1 := [(o0, .inr (0, [.long (pk a0), .long (pk a1), .long (pkn q w), .int (iI ((w : Nat) : Int))])), (u0, .inl (cJ, 1, .inr (.inl (g))))]) (w2 := [(m0, .inr (1, [.int th, .ref t0, .ref k0, .ref p0, .int (iI ((w : Nat) : Int))])), (t0, .inl (cI, 24, .inl (fun j => iI ((tb a0 a1 j : Nat) : Int)))), (k0, .inl (cI, 12, .inl (fun j => iI ((K j : Nat) : Int)))), (p0, .inl (cI, 12, .inl (fun j => iI ((q j : Nat) : Int))))]) hP
    have hK2 := hK.sub (tys' := [(cI, .int)]) [1] rfl
    have hf9 : cells + 1 + 0 ≤ room_1.cells ∧ slots + 6 + 0 ≤ room_1.slots := ⟨by show cells + 1 + 0 ≤ 1036; omega, by show slots + 6 + 0 ≤ 8286; omega⟩
    have hD2 : va_D (LA s) [(m0, .inr (1, [.int th, .ref t0, .ref k0, .ref p0, .int (iI ((w : Nat) : Int))])), (t0, .inl (cI, 24, .inl (fun j => iI ((tb a0 a1 j : Nat) : Int)))), (k0, .inl (cI, 12, .inl (fun j => iI ((K j : Nat) : Int)))), (p0, .inl (cI, 12, .inl (fun j => iI ((q j : Nat) : Int))))] := va_D_r (w1 := [(o0, .inr (0, [.long (pk a0), .long (pk a1), .long (pkn q w), .int (iI ((w : Nat) : Int))])), (u0, .inl (cJ, 1, .inr (.inl (g))))]) (w2 := [(m0, .inr (1, [.int th, .ref t0, .ref k0, .ref p0, .int (iI ((w : Nat) : Int))])), (t0, .inl (cI, 24, .inl (fun j => iI ((tb a0 a1 j : Nat) : Int)))), (k0, .inl (cI, 12, .inl (fun j => iI ((K j : Nat) : Int)))), (p0, .inl (cI, 12, .inl (fun j => iI ((q j : Nat) : Int))))]) hD
    refine wr_call (va_runV (As := [.int (iI z0), .int (iI z1), .int (iI z2)]) (rest := []) ⟨hx, hb, hml, hown, hts⟩ (mX1_segment_x2 l dC dI cI m0 t0 k0 p0 a0 a1 K q th w hp0.1 hp1.1 hw hq z0 z1 z2 hz0 hz1 hz2 b2) (cwV 3 hts gL_law_X1_segment rfl rfl rfl hvX1_segment ⟨(Nat.le_of_ble_eq_true rfl), (Nat.le_of_ble_eq_true rfl)⟩) (bD_pre (ci := 1) (q0 := 0) hK2 hP2 hD2 rfl rfl rfl) rfl rfl hl.1 rfl (lv_room (Nat.le_of_ble_eq_true rfl)) dL_law_987 hf9) hS (fun q9 h => inW_A hD2 h) (fun H locs hPn hz hk hS => ?_)
    have hP : va_P (dC, dI) vwCl ([(o0, .inr (0, [.long (pk a0), .long (pk a1), .long (pkn q w), .int (iI ((w : Nat) : Int))])), (u0, .inl (cJ, 1, .inr (.inl (g))))] ++ [(m0, .inr (1, [.int (iI 2), .ref t0, .ref k0, .ref p0, .int (iI ((w : Nat) : Int))])), (t0, .inl (cI, 24, .inl (fun j => iI ((tb a0 a1 j : Nat) : Int)))), (k0, .inl (cI, 12, .inl (fun j => iI ((K j : Nat) : Int)))), (p0, .inl (cI, 12, .inl (fun j => iI ((q j : Nat) : Int))))]) H := wj_r (w1 := [(o0, .inr (0, [.long (pk a0), .long (pk a1), .long (pkn q w), .int (iI ((w : Nat) : Int))])), (u0, .inl (cJ, 1, .inr (.inl (g))))]) (w2 := [(m0, .inr (1, [.int th, .ref t0, .ref k0, .ref p0, .int (iI ((w : Nat) : Int))])), (t0, .inl (cI, 24, .inl (fun j => iI ((tb a0 a1 j : Nat) : Int)))), (k0, .inl (cI, 12, .inl (fun j => iI ((K j : Nat) : Int)))), (p0, .inl (cI, 12, .inl (fun j => iI ((q j : Nat) : Int))))]) (w2' := [(m0, .inr (1, [.int (iI 2), .ref t0, .ref k0, .ref p0, .int (iI ((w : Nat) : Int))])), (t0, .inl (cI, 24, .inl (fun j => iI ((tb a0 a1 j : Nat) : Int)))), (k0, .inl (cI, 12, .inl (fun j => iI ((K j : Nat) : Int)))), (p0, .inl (cI, 12, .inl (fun j => iI ((q j : Nat) : Int))))]) hP hD hPn hk
    have hD : va_D (LA s) ([(o0, .inr (0, [.long (pk a0), .long (pk a1), .long (pkn q w), .int (iI ((w : Nat) : Int))])), (u0, .inl (cJ, 1, .inr (.inl (g))))] ++ [(m0, .inr (1, [.int (iI 2), .ref t0, .ref k0, .ref p0, .int (iI ((w : Nat) : Int))])), (t0, .inl (cI, 24, .inl (fun j => iI ((tb a0 a1 j : Nat) : Int)))), (k0, .inl (cI, 12, .inl (fun j => iI ((K j : Nat) : Int)))), (p0, .inl (cI, 12, .inl (fun j => iI ((q j : Nat) : Int))))]) := va_D_same (w := ([(o0, .inr (0, [.long (pk a0), .long (pk a1), .long (pkn q w), .int (iI ((w : Nat) : Int))])), (u0, .inl (cJ, 1, .inr (.inl (g))))] ++ [(m0, .inr (1, [.int th, .ref t0, .ref k0, .ref p0, .int (iI ((w : Nat) : Int))])), (t0, .inl (cI, 24, .inl (fun j => iI ((tb a0 a1 j : Nat) : Int)))), (k0, .inl (cI, 12, .inl (fun j => iI ((K j : Nat) : Int)))), (p0, .inl (cI, 12, .inl (fun j => iI ((q j : Nat) : Int))))])) (Eq.trans (b := [o0, u0, m0, t0, k0, p0]) rfl rfl) hD
    refine va_forget hS.2.2 ?_
    have hS := va_S_nil hS
    refine lv_istore (lv' := [(6, .int (iI 0)), (5, .int (iI 2)), (0, .ref b), (1, .ref o0), (2, .ref m0), (3, .ref u0), (4, .int (iI ((5 * n : Nat) : Int)))]) hx hb dL_law_990 hl (by decide) rfl (fun ls hl => ?_)
    refine lv_aload_n hx hb dL_law_992 rfl (lv_at hl 4 rfl) ?_
    have hP2 : va_P (dC, dI) vwCl [(m0, .inr (1, [.int (iI 2), .ref t0, .ref k0, .ref p0, .int (iI ((w : Nat) : Int))])), (t0, .inl (cI, 24, .inl (fun j => iI ((tb a0 a1 j : Nat) : Int)))), (k0, .inl (cI, 12, .inl (fun j => iI ((K j : Nat) : Int)))), (p0, .inl (cI, 12, .inl (fun j => iI ((q j : Nat) : Int))))] H := va_P_r (w1 := [(o0, .inr (0, [.long (pk a0), .long (pk a1), .long (pkn q w), .int (iI ((w : Nat) : Int))])), (u0, .inl (cJ, 1, .inr (.inl (g))))]) (w2 := [(m0, .inr (1, [.int (iI 2), .ref t0, .ref k0, .ref p0, .int (iI ((w : Nat) : Int))])), (t0, .inl (cI, 24, .inl (fun j => iI ((tb a0 a1 j : Nat) : Int)))), (k0, .inl (cI, 12, .inl (fun j => iI ((K j : Nat) : Int)))), (p0, .inl (cI, 12, .inl (fun j => iI ((q j : Nat) : Int))))]) hP
    have hK2 := hK.sub (tys' := [(cI, .int)]) [1] rfl
    have hf9 : cells + 1 + 0 ≤ room_1.cells ∧ slots + 6 + 0 ≤ room_1.slots := ⟨by show cells + 1 + 0 ≤ 1036; omega, by show slots + 6 + 0 ≤ 8286; omega⟩
    refine rd_call (va_runV (As := []) (rest := []) ⟨hx, hb, hml, hown, hts⟩ (mX1_thrown l dC dI cI m0 t0 k0 p0 a0 a1 K q (iI 2) w hp0.1 hp1.1 hw hq) (cwV 0 hts gL_law_X1_thrown rfl rfl rfl hvX1_thrown ⟨(Nat.le_of_ble_eq_true rfl), (Nat.le_of_ble_eq_true rfl)⟩) (bW_pre (ci := 1) (q0 := 0) hK2 hP2 rfl rfl rfl) rfl rfl hl.1 rfl (lv_room (Nat.le_of_ble_eq_true rfl)) dL_law_993 hf9) ?_
    refine lv_iload hx hb dL_law_996 (lv_at hl 1 rfl) ?_
    refine ib_icmp_eq (tgt := 1003) hx hb dL_law_998 (by decide) ⟨by omega, by omega⟩ ⟨by omega, by omega⟩ (fun c_998 => ?_) (fun c_998 => absurd c_998 (by decide))
    refine lv_iload hx hb dL_law_1003 (lv_at hl 1 rfl) ?_
    refine ib_if_ne (tgt := 1020) hx hb dL_law_1005 (by decide) ⟨by omega, by omega⟩ (fun c_1005 => ?_) (fun c_1005 => absurd c_1005 (by decide))
    refine lv_goto (tgt := 1833) hx hb dL_law_1020 (by decide) ?_
    exact kk a0 a1 q K w (iI 2) (g) H ls ⟨hp0, hp1, hw, hq, hqd, hP, hD, hS⟩ (lv_sub hl [2, 3, 4, 5, 6] rfl)
  obtain ⟨r, hn0, rfl⟩ := nat_of (z := z0) (k := 4095) (by omega)
  obtain ⟨i, hn1, rfl⟩ := nat_of (z := z1) (k := 4095) (by omega)
  obtain ⟨k, hn2, rfl⟩ := nat_of (z := z2) (k := 4095) (by omega)
  refine lv_aload_n hx hb dL_law_943 rfl (lv_at hl 1 rfl) ?_
  refine lv_aload_n hx hb dL_law_944 rfl (lv_at hl 0 rfl) ?_
  refine lv_iload hx hb dL_law_945 (lv_at hl 4 rfl) ?_
  refine ib_const hx hb dL_law_947 ?_
  refine ib_add (z := (((5 * n) + 1 : Nat) : Int)) hx hb dL_law_948 (by omega) ?_
  refine st_i (y := iI ((5 * n + 1 : Nat) : Int)) (congrArg iI (by omega)) ?_
  refine va_sld (b := b) (L := L) (xs := xs) hx hb hX hbl hbA hS (iI_vp (i := 5 * n + 1) (by omega) (by omega)) dL_law_949 ?_
  refine st_i (y := iI ((r : Nat) : Int)) ((congrArg xs (iI_cl (by omega))).trans e0) ?_
  refine lv_aload_n hx hb dL_law_950 rfl (lv_at hl 0 rfl) ?_
  refine lv_iload hx hb dL_law_951 (lv_at hl 4 rfl) ?_
  refine ib_const hx hb dL_law_953 ?_
  refine ib_add (z := (((5 * n) + 2 : Nat) : Int)) hx hb dL_law_954 (by omega) ?_
  refine st_i (y := iI ((5 * n + 2 : Nat) : Int)) (congrArg iI (by omega)) ?_
  refine va_sld (b := b) (L := L) (xs := xs) hx hb hX hbl hbA hS (iI_vp (i := 5 * n + 2) (by omega) (by omega)) dL_law_955 ?_
  refine st_i (y := iI ((i : Nat) : Int)) ((congrArg xs (iI_cl (by omega))).trans e1) ?_
  refine lv_aload_n hx hb dL_law_956 rfl (lv_at hl 0 rfl) ?_
  refine lv_iload hx hb dL_law_957 (lv_at hl 4 rfl) ?_
  refine ib_const hx hb dL_law_959 ?_
  refine ib_add (z := (((5 * n) + 3 : Nat) : Int)) hx hb dL_law_960 (by omega) ?_
  refine st_i (y := iI ((5 * n + 3 : Nat) : Int)) (congrArg iI (by omega)) ?_
  refine va_sld (b := b) (L := L) (xs := xs) hx hb hX hbl hbA hS (iI_vp (i := 5 * n + 3) (by omega) (by omega)) dL_law_961 ?_
  refine st_i (y := iI ((k : Nat) : Int)) ((congrArg xs (iI_cl (by omega))).trans e2) ?_
  refine lv_aload_n hx hb dL_law_962 rfl (lv_at hl 3 rfl) ?_
  have hf9 : cells + 0 ≤ room_1.cells ∧ slots + 0 ≤ room_1.slots := ⟨by show cells + 0 ≤ 1036; omega, by show slots + 0 ≤ 8286; omega⟩
  have hP1 : va_P (dC, dI) vwCl [(o0, .inr (0, [.long (pk a0), .long (pk a1), .long (pkn q w), .int (iI ((w : Nat) : Int))])), (u0, .inl (cJ, 1, .inr (.inl (g))))] H := va_P_l (w1 := [(o0, .inr (0, [.long (pk a0), .long (pk a1), .long (pkn q w), .int (iI ((w : Nat) : Int))])), (u0, .inl (cJ, 1, .inr (.inl (g))))]) (w2 := [(m0, .inr (1, [.int th, .ref t0, .ref k0, .ref p0, .int (iI ((w : Nat) : Int))])), (t0, .inl (cI, 24, .inl (fun j => iI ((tb a0 a1 j : Nat) : Int)))), (k0, .inl (cI, 12, .inl (fun j => iI ((K j : Nat) : Int)))), (p0, .inl (cI, 12, .inl (fun j => iI ((q j : Nat) : Int))))]) hP
  have hD1 : va_D (LA s) [(o0, .inr (0, [.long (pk a0), .long (pk a1), .long (pkn q w), .int (iI ((w : Nat) : Int))])), (u0, .inl (cJ, 1, .inr (.inl (g))))] := va_D_l (w1 := [(o0, .inr (0, [.long (pk a0), .long (pk a1), .long (pkn q w), .int (iI ((w : Nat) : Int))])), (u0, .inl (cJ, 1, .inr (.inl (g))))]) (w2 := [(m0, .inr (1, [.int th, .ref t0, .ref k0, .ref p0, .int (iI ((w : Nat) : Int))])), (t0, .inl (cI, 24, .inl (fun j => iI ((tb a0 a1 j : Nat) : Int)))), (k0, .inl (cI, 12, .inl (fun j => iI ((K j : Nat) : Int)))), (p0, .inl (cI, 12, .inl (fun j => iI ((q j : Nat) : Int))))]) hD
  have hK1 := hK.sub (tys' := [(cJ, .long)]) [0] rfl
  refine wr_call (vx_runSW (As := [.ref o0, .int (iI ((r : Nat) : Int)), .int (iI ((i : Nat) : Int)), .int (iI ((k : Nat) : Int)), .ref u0]) (rest := []) ⟨hx, hb, hml, hown, hts⟩ (mL_segment_ok l dC dI cJ o0 u0 a0 a1 q w hp0 hp1 hw hq hqd g r i k (by omega) (by omega) (by omega) (by omega)) (vx_cwSW 5 hts gL_law_L_segment rfl rfl rfl hdL_segment ⟨(Nat.le_of_ble_eq_true rfl), (Nat.le_of_ble_eq_true rfl)⟩) (bD_preS hK1 hP1 hD1) rfl rfl hl.1 rfl (lv_room (Nat.le_of_ble_eq_true rfl)) dL_law_963 hf9) hS (fun q9 h => inW_A hD1 h) (fun H locs hPn hz hk hS => ?_)
  have hP : va_P (dC, dI) vwCl ([(o0, .inr (0, [.long (pk a0), .long (pk a1), .long (pkn q w), .int (iI ((w : Nat) : Int))])), (u0, .inl (cJ, 1, .inr (.inl (fun _ => (iI ((setF (fm (rw_ r a0 a1) (rw_ r a0 a1 0)) i k : Nat) : Int)).toInt64))))] ++ [(m0, .inr (1, [.int th, .ref t0, .ref k0, .ref p0, .int (iI ((w : Nat) : Int))])), (t0, .inl (cI, 24, .inl (fun j => iI ((tb a0 a1 j : Nat) : Int)))), (k0, .inl (cI, 12, .inl (fun j => iI ((K j : Nat) : Int)))), (p0, .inl (cI, 12, .inl (fun j => iI ((q j : Nat) : Int))))]) H := wj_l (w1 := [(o0, .inr (0, [.long (pk a0), .long (pk a1), .long (pkn q w), .int (iI ((w : Nat) : Int))])), (u0, .inl (cJ, 1, .inr (.inl (g))))]) (w2 := [(m0, .inr (1, [.int th, .ref t0, .ref k0, .ref p0, .int (iI ((w : Nat) : Int))])), (t0, .inl (cI, 24, .inl (fun j => iI ((tb a0 a1 j : Nat) : Int)))), (k0, .inl (cI, 12, .inl (fun j => iI ((K j : Nat) : Int)))), (p0, .inl (cI, 12, .inl (fun j => iI ((q j : Nat) : Int))))]) (w1' := [(o0, .inr (0, [.long (pk a0), .long (pk a1), .long (pkn q w), .int (iI ((w : Nat) : Int))])), (u0, .inl (cJ, 1, .inr (.inl (fun _ => (iI ((setF (fm (rw_ r a0 a1) (rw_ r a0 a1 0)) i k : Nat) : Int)).toInt64))))]) hP hD hPn hk
  have hD : va_D (LA s) ([(o0, .inr (0, [.long (pk a0), .long (pk a1), .long (pkn q w), .int (iI ((w : Nat) : Int))])), (u0, .inl (cJ, 1, .inr (.inl (fun _ => (iI ((setF (fm (rw_ r a0 a1) (rw_ r a0 a1 0)) i k : Nat) : Int)).toInt64))))] ++ [(m0, .inr (1, [.int th, .ref t0, .ref k0, .ref p0, .int (iI ((w : Nat) : Int))])), (t0, .inl (cI, 24, .inl (fun j => iI ((tb a0 a1 j : Nat) : Int)))), (k0, .inl (cI, 12, .inl (fun j => iI ((K j : Nat) : Int)))), (p0, .inl (cI, 12, .inl (fun j => iI ((q j : Nat) : Int))))]) := va_D_same (w := ([(o0, .inr (0, [.long (pk a0), .long (pk a1), .long (pkn q w), .int (iI ((w : Nat) : Int))])), (u0, .inl (cJ, 1, .inr (.inl (g))))] ++ [(m0, .inr (1, [.int th, .ref t0, .ref k0, .ref p0, .int (iI ((w : Nat) : Int))])), (t0, .inl (cI, 24, .inl (fun j => iI ((tb a0 a1 j : Nat) : Int)))), (k0, .inl (cI, 12, .inl (fun j => iI ((K j : Nat) : Int)))), (p0, .inl (cI, 12, .inl (fun j => iI ((q j : Nat) : Int))))])) (Eq.trans (b := [o0, u0, m0, t0, k0, p0]) rfl rfl) hD
  refine va_forget hS.2.2 ?_
  have hS := va_S_nil hS
  refine W.widen (k := cells + 1) (n := slots + 6) (by omega) (by omega) ?_
  refine lv_istore (lv' := [(5, .int (iI 0)), (0, .ref b), (1, .ref o0), (2, .ref m0), (3, .ref u0), (4, .int (iI ((5 * n : Nat) : Int)))]) hx hb dL_law_966 hl (by decide) rfl (fun ls hl => ?_)
  refine lv_aload_n hx hb dL_law_968 rfl (lv_at hl 3 rfl) ?_
  refine lv_aload_n hx hb dL_law_969 rfl (lv_at hl 1 rfl) ?_
  refine lv_iload hx hb dL_law_970 (lv_at hl 5 rfl) ?_
  refine ib_const hx hb dL_law_972 ?_
  refine ib_add (z := (((5 * n) + 1 : Nat) : Int)) hx hb dL_law_973 (by omega) ?_
  refine st_i (y := iI ((5 * n + 1 : Nat) : Int)) (congrArg iI (by omega)) ?_
  refine va_sld (b := b) (L := L) (xs := xs) hx hb hX hbl hbA hS (iI_vp (i := 5 * n + 1) (by omega) (by omega)) dL_law_974 ?_
  refine st_i (y := iI ((r : Nat) : Int)) ((congrArg xs (iI_cl (by omega))).trans e0) ?_
  refine lv_aload_n hx hb dL_law_975 rfl (lv_at hl 1 rfl) ?_
  refine lv_iload hx hb dL_law_976 (lv_at hl 5 rfl) ?_
  refine ib_const hx hb dL_law_978 ?_
  refine ib_add (z := (((5 * n) + 2 : Nat) : Int)) hx hb dL_law_979 (by omega) ?_
  refine st_i (y := iI ((5 * n + 2 : Nat) : Int)) (congrArg iI (by omega)) ?_
  refine va_sld (b := b) (L := L) (xs := xs) hx hb hX hbl hbA hS (iI_vp (i := 5 * n + 2) (by omega) (by omega)) dL_law_980 ?_
  refine st_i (y := iI ((i : Nat) : Int)) ((congrArg xs (iI_cl (by omega))).trans e1) ?_
  refine lv_aload_n hx hb dL_law_981 rfl (lv_at hl 1 rfl) ?_
  refine lv_iload hx hb dL_law_982 (lv_at hl 5 rfl) ?_
  refine ib_const hx hb dL_law_984 ?_
  refine ib_add (z := (((5 * n) + 3 : Nat) : Int)) hx hb dL_law_985 (by omega) ?_
  refine st_i (y := iI ((5 * n + 3 : Nat) : Int)) (congrArg iI (by omega)) ?_
  refine va_sld (b := b) (L := L) (xs := xs) hx hb hX hbl hbA hS (iI_vp (i := 5 * n + 3) (by omega) (by omega)) dL_law_986 ?_
  refine st_i (y := iI ((k : Nat) : Int)) ((congrArg xs (iI_cl (by omega))).trans e2) ?_
  have hP2 : va_P (dC, dI) vwCl [(m0, .inr (1, [.int th, .ref t0, .ref k0, .ref p0, .int (iI ((w : Nat) : Int))])), (t0, .inl (cI, 24, .inl (fun j => iI ((tb a0 a1 j : Nat) : Int)))), (k0, .inl (cI, 12, .inl (fun j => iI ((K j : Nat) : Int)))), (p0, .inl (cI, 12, .inl (fun j => iI ((q j : Nat) : Int))))] H := va_P_r (w1 := [(o0, .inr (0, [.long (pk a0), .long (pk a1), .long (pkn q w), .int (iI ((w : Nat) : Int))])), (u0, .inl (cJ, 1, .inr (.inl (fun _ => (iI ((setF (fm (rw_ r a0 a1) (rw_ r a0 a1 0)) i k : Nat) : Int)).toInt64))))]) (w2 := [(m0, .inr (1, [.int th, .ref t0, .ref k0, .ref p0, .int (iI ((w : Nat) : Int))])), (t0, .inl (cI, 24, .inl (fun j => iI ((tb a0 a1 j : Nat) : Int)))), (k0, .inl (cI, 12, .inl (fun j => iI ((K j : Nat) : Int)))), (p0, .inl (cI, 12, .inl (fun j => iI ((q j : Nat) : Int))))]) hP
  have hK2 := hK.sub (tys' := [(cI, .int)]) [1] rfl
  have hf9 : cells + 1 + 0 ≤ room_1.cells ∧ slots + 6 + 0 ≤ room_1.slots := ⟨by show cells + 1 + 0 ≤ 1036; omega, by show slots + 6 + 0 ≤ 8286; omega⟩
  have hD2 : va_D (LA s) [(m0, .inr (1, [.int th, .ref t0, .ref k0, .ref p0, .int (iI ((w : Nat) : Int))])), (t0, .inl (cI, 24, .inl (fun j => iI ((tb a0 a1 j : Nat) : Int)))), (k0, .inl (cI, 12, .inl (fun j => iI ((K j : Nat) : Int)))), (p0, .inl (cI, 12, .inl (fun j => iI ((q j : Nat) : Int))))] := va_D_r (w1 := [(o0, .inr (0, [.long (pk a0), .long (pk a1), .long (pkn q w), .int (iI ((w : Nat) : Int))])), (u0, .inl (cJ, 1, .inr (.inl (fun _ => (iI ((setF (fm (rw_ r a0 a1) (rw_ r a0 a1 0)) i k : Nat) : Int)).toInt64))))]) (w2 := [(m0, .inr (1, [.int th, .ref t0, .ref k0, .ref p0, .int (iI ((w : Nat) : Int))])), (t0, .inl (cI, 24, .inl (fun j => iI ((tb a0 a1 j : Nat) : Int)))), (k0, .inl (cI, 12, .inl (fun j => iI ((K j : Nat) : Int)))), (p0, .inl (cI, 12, .inl (fun j => iI ((q j : Nat) : Int))))]) hD
  refine wr_call (va_runV (As := [.int (iI ((r : Nat) : Int)), .int (iI ((i : Nat) : Int)), .int (iI ((k : Nat) : Int))]) (rest := []) ⟨hx, hb, hml, hown, hts⟩ (mX1_segment_ok l dC dI cI m0 t0 k0 p0 a0 a1 K q th w hp0.1 hp1.1 hw hq r i k (by omega) (by omega) (by omega) (by omega)) (cwV 3 hts gL_law_X1_segment rfl rfl rfl hvX1_segment ⟨(Nat.le_of_ble_eq_true rfl), (Nat.le_of_ble_eq_true rfl)⟩) (bD_pre (ci := 1) (q0 := 0) hK2 hP2 hD2 rfl rfl rfl) rfl rfl hl.1 rfl (lv_room (Nat.le_of_ble_eq_true rfl)) dL_law_987 hf9) hS (fun q9 h => inW_A hD2 h) (fun H locs hPn hz hk hS => ?_)
  have hP : va_P (dC, dI) vwCl ([(o0, .inr (0, [.long (pk a0), .long (pk a1), .long (pkn q w), .int (iI ((w : Nat) : Int))])), (u0, .inl (cJ, 1, .inr (.inl (fun _ => (iI ((setF (fm (rw_ r a0 a1) (rw_ r a0 a1 0)) i k : Nat) : Int)).toInt64))))] ++ [(m0, .inr (1, [.int (iI 0), .ref t0, .ref k0, .ref p0, .int (iI ((w : Nat) : Int))])), (t0, .inl (cI, 24, .inl (fun j => iI ((tb a0 a1 j : Nat) : Int)))), (k0, .inl (cI, 12, .inl (fun j => iI ((K j : Nat) : Int)))), (p0, .inl (cI, 12, .inl (fun j => iI ((q j : Nat) : Int))))]) H := wj_r (w1 := [(o0, .inr (0, [.long (pk a0), .long (pk a1), .long (pkn q w), .int (iI ((w : Nat) : Int))])), (u0, .inl (cJ, 1, .inr (.inl (fun _ => (iI ((setF (fm (rw_ r a0 a1) (rw_ r a0 a1 0)) i k : Nat) : Int)).toInt64))))]) (w2 := [(m0, .inr (1, [.int th, .ref t0, .ref k0, .ref p0, .int (iI ((w : Nat) : Int))])), (t0, .inl (cI, 24, .inl (fun j => iI ((tb a0 a1 j : Nat) : Int)))), (k0, .inl (cI, 12, .inl (fun j => iI ((K j : Nat) : Int)))), (p0, .inl (cI, 12, .inl (fun j => iI ((q j : Nat) : Int))))]) (w2' := [(m0, .inr (1, [.int (iI 0), .ref t0, .ref k0, .ref p0, .int (iI ((w : Nat) : Int))])), (t0, .inl (cI, 24, .inl (fun j => iI ((tb a0 a1 j : Nat) : Int)))), (k0, .inl (cI, 12, .inl (fun j => iI ((K j : Nat) : Int)))), (p0, .inl (cI, 12, .inl (fun j => iI ((q j : Nat) : Int))))]) hP hD hPn hk
  have hD : va_D (LA s) ([(o0, .inr (0, [.long (pk a0), .long (pk a1), .long (pkn q w), .int (iI ((w : Nat) : Int))])), (u0, .inl (cJ, 1, .inr (.inl (fun _ => (iI ((setF (fm (rw_ r a0 a1) (rw_ r a0 a1 0)) i k : Nat) : Int)).toInt64))))] ++ [(m0, .inr (1, [.int (iI 0), .ref t0, .ref k0, .ref p0, .int (iI ((w : Nat) : Int))])), (t0, .inl (cI, 24, .inl (fun j => iI ((tb a0 a1 j : Nat) : Int)))), (k0, .inl (cI, 12, .inl (fun j => iI ((K j : Nat) : Int)))), (p0, .inl (cI, 12, .inl (fun j => iI ((q j : Nat) : Int))))]) := va_D_same (w := ([(o0, .inr (0, [.long (pk a0), .long (pk a1), .long (pkn q w), .int (iI ((w : Nat) : Int))])), (u0, .inl (cJ, 1, .inr (.inl (fun _ => (iI ((setF (fm (rw_ r a0 a1) (rw_ r a0 a1 0)) i k : Nat) : Int)).toInt64))))] ++ [(m0, .inr (1, [.int th, .ref t0, .ref k0, .ref p0, .int (iI ((w : Nat) : Int))])), (t0, .inl (cI, 24, .inl (fun j => iI ((tb a0 a1 j : Nat) : Int)))), (k0, .inl (cI, 12, .inl (fun j => iI ((K j : Nat) : Int)))), (p0, .inl (cI, 12, .inl (fun j => iI ((q j : Nat) : Int))))])) (Eq.trans (b := [o0, u0, m0, t0, k0, p0]) rfl rfl) hD
  refine va_forget hS.2.2 ?_
  have hS := va_S_nil hS
  refine lv_istore (lv' := [(6, .int (iI ((setF (fm (rw_ r a0 a1) (rw_ r a0 a1 0)) i k : Nat) : Int))), (5, .int (iI 0)), (0, .ref b), (1, .ref o0), (2, .ref m0), (3, .ref u0), (4, .int (iI ((5 * n : Nat) : Int)))]) hx hb dL_law_990 hl (by decide) rfl (fun ls hl => ?_)
  refine lv_aload_n hx hb dL_law_992 rfl (lv_at hl 4 rfl) ?_
  have hP2 : va_P (dC, dI) vwCl [(m0, .inr (1, [.int (iI 0), .ref t0, .ref k0, .ref p0, .int (iI ((w : Nat) : Int))])), (t0, .inl (cI, 24, .inl (fun j => iI ((tb a0 a1 j : Nat) : Int)))), (k0, .inl (cI, 12, .inl (fun j => iI ((K j : Nat) : Int)))), (p0, .inl (cI, 12, .inl (fun j => iI ((q j : Nat) : Int))))] H := va_P_r (w1 := [(o0, .inr (0, [.long (pk a0), .long (pk a1), .long (pkn q w), .int (iI ((w : Nat) : Int))])), (u0, .inl (cJ, 1, .inr (.inl (fun _ => (iI ((setF (fm (rw_ r a0 a1) (rw_ r a0 a1 0)) i k : Nat) : Int)).toInt64))))]) (w2 := [(m0, .inr (1, [.int (iI 0), .ref t0, .ref k0, .ref p0, .int (iI ((w : Nat) : Int))])), (t0, .inl (cI, 24, .inl (fun j => iI ((tb a0 a1 j : Nat) : Int)))), (k0, .inl (cI, 12, .inl (fun j => iI ((K j : Nat) : Int)))), (p0, .inl (cI, 12, .inl (fun j => iI ((q j : Nat) : Int))))]) hP
  have hK2 := hK.sub (tys' := [(cI, .int)]) [1] rfl
  have hf9 : cells + 1 + 0 ≤ room_1.cells ∧ slots + 6 + 0 ≤ room_1.slots := ⟨by show cells + 1 + 0 ≤ 1036; omega, by show slots + 6 + 0 ≤ 8286; omega⟩
  refine rd_call (va_runV (As := []) (rest := []) ⟨hx, hb, hml, hown, hts⟩ (mX1_thrown l dC dI cI m0 t0 k0 p0 a0 a1 K q (iI 0) w hp0.1 hp1.1 hw hq) (cwV 0 hts gL_law_X1_thrown rfl rfl rfl hvX1_thrown ⟨(Nat.le_of_ble_eq_true rfl), (Nat.le_of_ble_eq_true rfl)⟩) (bW_pre (ci := 1) (q0 := 0) hK2 hP2 rfl rfl rfl) rfl rfl hl.1 rfl (lv_room (Nat.le_of_ble_eq_true rfl)) dL_law_993 hf9) ?_
  refine lv_iload hx hb dL_law_996 (lv_at hl 1 rfl) ?_
  refine ib_icmp_eq (tgt := 1003) hx hb dL_law_998 (by decide) ⟨by omega, by omega⟩ ⟨by omega, by omega⟩ (fun c_998 => ?_) (fun c_998 => absurd c_998 (by decide))
  refine lv_iload hx hb dL_law_1003 (lv_at hl 1 rfl) ?_
  refine ib_if_ne (tgt := 1020) hx hb dL_law_1005 (by decide) ⟨by omega, by omega⟩ (fun c_1005 => absurd c_1005 (by decide)) (fun c_1005 => ?_)
  refine lv_aload_n hx hb dL_law_1008 rfl (lv_at hl 5 rfl) ?_
  refine ib_const hx hb dL_law_1009 ?_
  refine va_lald hx hb hK hP 1 0 rfl rfl vp0 dL_law_1010 ?_
  refine st_l (y := (iI ((setF (fm (rw_ r a0 a1) (rw_ r a0 a1 0)) i k : Nat) : Int)).toInt64) rfl ?_
  refine lv_iload hx hb dL_law_1011 (lv_at hl 0 rfl) ?_
  refine lv_i2l hx hb dL_law_1013 rfl ?_
  refine W.lcmp hx hb dL_law_1014 ?_
  refine bl_eq (tgt := 1020) hx hb dL_law_1015 (by decide) (fun _ => ?_) (fun h => absurd rfl h)
  refine lv_goto (tgt := 1833) hx hb dL_law_1020 (by decide) ?_
  exact kk a0 a1 q K w (iI 0) (fun _ => (iI ((setF (fm (rw_ r a0 a1) (rw_ r a0 a1 0)) i k : Nat) : Int)).toInt64) H ls ⟨hp0, hp1, hw, hq, hqd, hP, hD, hS⟩ (lv_sub hl [2, 3, 4, 5, 6] rfl)

set_option maxHeartbeats 4000000 in
set_option maxRecDepth 100000 in
theorem law_c12 {p : Program} {l : Launch} {e : Env} {s : State} {m : MethodId} {below : List Frame} {meth : Method} {c : Code} {Q : State → Prop} {dC : Nat → ClassId} {dI : Nat → Nat → Nat} {cI cJ : ClassId} {b L : Nat} {xs : Nat → Int32} (C : LC p l s m meth c (dC, dI) cI cJ b L xs) {o0 u0 m0 t0 k0 p0 : Nat} {a0 a1 q K : Nat → Nat} {w : Nat} {th : Int32} {g : Nat → Int64} {H : Heap} (hI : LI s (dC, dI) cI cJ o0 u0 m0 t0 k0 p0 a0 a1 q K w th g H) {n cells slots : Nat} (hc1 : cells + 1 ≤ 1036) (hc2 : slots + 6 ≤ 8286) (hn : 5 * n + 5 ≤ L) (hL : L ≤ 2560) {ls : Array Slot} (hl : lv_has ls 8 [(0, .ref b), (1, .ref o0), (2, .ref m0), (3, .ref u0), (4, .int (iI ((5 * n : Nat) : Int)))])
    (kk : ∀ (a0 a1 q K : Nat → Nat) (w : Nat) (th : Int32) (g : Nat → Int64) (H : Heap) (ls : Array Slot), LI s (dC, dI) cI cJ o0 u0 m0 t0 k0 p0 a0 a1 q K w th g H → lv_has ls 8 [(0, .ref b), (1, .ref o0), (2, .ref m0), (3, .ref u0), (4, .int (iI ((5 * n : Nat) : Int)))] → W p l e room_1 s m #[Value.ref b] below meth c H [] (cells + 1) (slots + 6) Q (F0 m 1833 ls [])) : W p l e room_1 s m #[Value.ref b] below meth c H [] cells slots Q (F0 m 1023 ls []) := by
  obtain ⟨hx, hb, hml, hown, hts, hK, hG0, hN, hX, hbl, hfl⟩ := C
  obtain ⟨hp0, hp1, hw, hq, hqd, hP, hD, hS⟩ := hI
  have hbA : ¬ LA s b := Nat.not_le.mpr hbl
  obtain ⟨z0, hz0, e0⟩ := ex_i (xs (5 * n + 1))
  have hza0 := hz0.1
  have hzb0 := hz0.2
  by_cases b1 : ¬ (0 ≤ z0 ∧ z0 ≤ 4095)
  · skip
    refine lv_aload_n hx hb dL_law_1023 rfl (lv_at hl 1 rfl) ?_
    refine lv_aload_n hx hb dL_law_1024 rfl (lv_at hl 0 rfl) ?_
    refine lv_iload hx hb dL_law_1025 (lv_at hl 4 rfl) ?_
    refine ib_const hx hb dL_law_1027 ?_
    refine ib_add (z := (((5 * n) + 1 : Nat) : Int)) hx hb dL_law_1028 (by omega) ?_
    refine st_i (y := iI ((5 * n + 1 : Nat) : Int)) (congrArg iI (by omega)) ?_
    refine va_sld (b := b) (L := L) (xs := xs) hx hb hX hbl hbA hS (iI_vp (i := 5 * n + 1) (by omega) (by omega)) dL_law_1029 ?_
    refine st_i (y := iI z0) ((congrArg xs (iI_cl (by omega))).trans e0) ?_
    refine lv_aload_n hx hb dL_law_1030 rfl (lv_at hl 3 rfl) ?_
    have hf9 : cells + 1 ≤ room_1.cells ∧ slots + 6 ≤ room_1.slots := ⟨by show cells + 1 ≤ 1036; omega, by show slots + 6 ≤ 8286; omega⟩
    have hP1 : va_P (dC, dI) vwCl [(o0, .inr (0, [.long (pk a0), .long (pk a1), .long (pkn q w), .int (iI ((w : Nat) : Int))]))] H := va_P_l (w1 := [(o0, .inr (0, [.long (pk a0), .long (pk a1), .long (pkn q w), .int (iI ((w : Nat) : Int))]))]) (w2 := [(u0, .inl (cJ, 1, .inr (.inl (g)))), (m0, .inr (1, [.int th, .ref t0, .ref k0, .ref p0, .int (iI ((w : Nat) : Int))])), (t0, .inl (cI, 24, .inl (fun j => iI ((tb a0 a1 j : Nat) : Int)))), (k0, .inl (cI, 12, .inl (fun j => iI ((K j : Nat) : Int)))), (p0, .inl (cI, 12, .inl (fun j => iI ((q j : Nat) : Int))))]) hP
    have hK1 := hK.sub (tys' := []) [] rfl
    refine rdK_call (vx_runSW (As := [.ref o0, .int (iI z0), .ref u0]) (rest := []) ⟨hx, hb, hml, hown, hts⟩ (mL_classOf_x1 l hfl dC dI o0 a0 a1 q w hp0 hp1 hw hq hqd u0 z0 hz0 b1) (vx_cwSW 3 hts gL_law_L_classOf rfl rfl rfl hdL_classOf ⟨(Nat.le_of_ble_eq_true rfl), (Nat.le_of_ble_eq_true rfl)⟩) (bY_preS hK1 hP1 (hG0.at hS) hN) rfl rfl hl.1 rfl (lv_room (Nat.le_of_ble_eq_true rfl)) dL_law_1031 hf9) (fun H hz hk => ?_)
    have hP : va_P (dC, dI) vwCl ([(o0, .inr (0, [.long (pk a0), .long (pk a1), .long (pkn q w), .int (iI ((w : Nat) : Int))])), (u0, .inl (cJ, 1, .inr (.inl (g))))] ++ [(m0, .inr (1, [.int th, .ref t0, .ref k0, .ref p0, .int (iI ((w : Nat) : Int))])), (t0, .inl (cI, 24, .inl (fun j => iI ((tb a0 a1 j : Nat) : Int)))), (k0, .inl (cI, 12, .inl (fun j => iI ((K j : Nat) : Int)))), (p0, .inl (cI, 12, .inl (fun j => iI ((q j : Nat) : Int))))]) H := va_P_new hP hk
    have hS := va_S_new hS hz hk
    refine lv_istore (lv' := [(5, .int (iI 1)), (0, .ref b), (1, .ref o0), (2, .ref m0), (3, .ref u0), (4, .int (iI ((5 * n : Nat) : Int)))]) hx hb dL_law_1034 hl (by decide) rfl (fun ls hl => ?_)
    refine lv_aload_n hx hb dL_law_1036 rfl (lv_at hl 3 rfl) ?_
    refine lv_aload_n hx hb dL_law_1037 rfl (lv_at hl 1 rfl) ?_
    refine lv_iload hx hb dL_law_1038 (lv_at hl 5 rfl) ?_
    refine ib_const hx hb dL_law_1040 ?_
    refine ib_add (z := (((5 * n) + 1 : Nat) : Int)) hx hb dL_law_1041 (by omega) ?_
    refine st_i (y := iI ((5 * n + 1 : Nat) : Int)) (congrArg iI (by omega)) ?_
    refine va_sld (b := b) (L := L) (xs := xs) hx hb hX hbl hbA hS (iI_vp (i := 5 * n + 1) (by omega) (by omega)) dL_law_1042 ?_
    refine st_i (y := iI z0) ((congrArg xs (iI_cl (by omega))).trans e0) ?_
    have hP2 : va_P (dC, dI) vwCl [(m0, .inr (1, [.int th, .ref t0, .ref k0, .ref p0, .int (iI ((w : Nat) : Int))])), (t0, .inl (cI, 24, .inl (fun j => iI ((tb a0 a1 j : Nat) : Int)))), (k0, .inl (cI, 12, .inl (fun j => iI ((K j : Nat) : Int)))), (p0, .inl (cI, 12, .inl (fun j => iI ((q j : Nat) : Int))))] H := va_P_r (w1 := [(o0, .inr (0, [.long (pk a0), .long (pk a1), .long (pkn q w), .int (iI ((w : Nat) : Int))])), (u0, .inl (cJ, 1, .inr (.inl (g))))]) (w2 := [(m0, .inr (1, [.int th, .ref t0, .ref k0, .ref p0, .int (iI ((w : Nat) : Int))])), (t0, .inl (cI, 24, .inl (fun j => iI ((tb a0 a1 j : Nat) : Int)))), (k0, .inl (cI, 12, .inl (fun j => iI ((K j : Nat) : Int)))), (p0, .inl (cI, 12, .inl (fun j => iI ((q j : Nat) : Int))))]) hP
    have hK2 := hK.sub (tys' := [(cI, .int)]) [1] rfl
    have hf9 : cells + 1 + 0 ≤ room_1.cells ∧ slots + 6 + 0 ≤ room_1.slots := ⟨by show cells + 1 + 0 ≤ 1036; omega, by show slots + 6 + 0 ≤ 8286; omega⟩
    have hD2 : va_D (LA s) [(m0, .inr (1, [.int th, .ref t0, .ref k0, .ref p0, .int (iI ((w : Nat) : Int))])), (t0, .inl (cI, 24, .inl (fun j => iI ((tb a0 a1 j : Nat) : Int)))), (k0, .inl (cI, 12, .inl (fun j => iI ((K j : Nat) : Int)))), (p0, .inl (cI, 12, .inl (fun j => iI ((q j : Nat) : Int))))] := va_D_r (w1 := [(o0, .inr (0, [.long (pk a0), .long (pk a1), .long (pkn q w), .int (iI ((w : Nat) : Int))])), (u0, .inl (cJ, 1, .inr (.inl (g))))]) (w2 := [(m0, .inr (1, [.int th, .ref t0, .ref k0, .ref p0, .int (iI ((w : Nat) : Int))])), (t0, .inl (cI, 24, .inl (fun j => iI ((tb a0 a1 j : Nat) : Int)))), (k0, .inl (cI, 12, .inl (fun j => iI ((K j : Nat) : Int)))), (p0, .inl (cI, 12, .inl (fun j => iI ((q j : Nat) : Int))))]) hD
    refine wr_call (va_runV (As := [.int (iI z0)]) (rest := []) ⟨hx, hb, hml, hown, hts⟩ (mX1_classOf_x1 l dC dI cI m0 t0 k0 p0 a0 a1 K q th w hp0.1 hp1.1 hw hq z0 hz0 b1) (cwV 1 hts gL_law_X1_classOf rfl rfl rfl hvX1_classOf ⟨(Nat.le_of_ble_eq_true rfl), (Nat.le_of_ble_eq_true rfl)⟩) (bD_pre (ci := 1) (q0 := 0) hK2 hP2 hD2 rfl rfl rfl) rfl rfl hl.1 rfl (lv_room (Nat.le_of_ble_eq_true rfl)) dL_law_1043 hf9) hS (fun q9 h => inW_A hD2 h) (fun H locs hPn hz hk hS => ?_)
    have hP : va_P (dC, dI) vwCl ([(o0, .inr (0, [.long (pk a0), .long (pk a1), .long (pkn q w), .int (iI ((w : Nat) : Int))])), (u0, .inl (cJ, 1, .inr (.inl (g))))] ++ [(m0, .inr (1, [.int (iI 1), .ref t0, .ref k0, .ref p0, .int (iI ((w : Nat) : Int))])), (t0, .inl (cI, 24, .inl (fun j => iI ((tb a0 a1 j : Nat) : Int)))), (k0, .inl (cI, 12, .inl (fun j => iI ((K j : Nat) : Int)))), (p0, .inl (cI, 12, .inl (fun j => iI ((q j : Nat) : Int))))]) H := wj_r (w1 := [(o0, .inr (0, [.long (pk a0), .long (pk a1), .long (pkn q w), .int (iI ((w : Nat) : Int))])), (u0, .inl (cJ, 1, .inr (.inl (g))))]) (w2 := [(m0, .inr (1, [.int th, .ref t0, .ref k0, .ref p0, .int (iI ((w : Nat) : Int))])), (t0, .inl (cI, 24, .inl (fun j => iI ((tb a0 a1 j : Nat) : Int)))), (k0, .inl (cI, 12, .inl (fun j => iI ((K j : Nat) : Int)))), (p0, .inl (cI, 12, .inl (fun j => iI ((q j : Nat) : Int))))]) (w2' := [(m0, .inr (1, [.int (iI 1), .ref t0, .ref k0, .ref p0, .int (iI ((w : Nat) : Int))])), (t0, .inl (cI, 24, .inl (fun j => iI ((tb a0 a1 j : Nat) : Int)))), (k0, .inl (cI, 12, .inl (fun j => iI ((K j : Nat) : Int)))), (p0, .inl (cI, 12, .inl (fun j => iI ((q j : Nat) : Int))))]) hP hD hPn hk
    have hD : va_D (LA s) ([(o0, .inr (0, [.long (pk a0), .long (pk a1), .long (pkn q w), .int (iI ((w : Nat) : Int))])), (u0, .inl (cJ, 1, .inr (.inl (g))))] ++ [(m0, .inr (1, [.int (iI 1), .ref t0, .ref k0, .ref p0, .int (iI ((w : Nat) : Int))])), (t0, .inl (cI, 24, .inl (fun j => iI ((tb a0 a1 j : Nat) : Int)))), (k0, .inl (cI, 12, .inl (fun j => iI ((K j : Nat) : Int)))), (p0, .inl (cI, 12, .inl (fun j => iI ((q j : Nat) : Int))))]) := va_D_same (w := ([(o0, .inr (0, [.long (pk a0), .long (pk a1), .long (pkn q w), .int (iI ((w : Nat) : Int))])), (u0, .inl (cJ, 1, .inr (.inl (g))))] ++ [(m0, .inr (1, [.int th, .ref t0, .ref k0, .ref p0, .int (iI ((w : Nat) : Int))])), (t0, .inl (cI, 24, .inl (fun j => iI ((tb a0 a1 j : Nat) : Int)))), (k0, .inl (cI, 12, .inl (fun j => iI ((K j : Nat) : Int)))), (p0, .inl (cI, 12, .inl (fun j => iI ((q j : Nat) : Int))))])) (Eq.trans (b := [o0, u0, m0, t0, k0, p0]) rfl rfl) hD
    refine va_forget hS.2.2 ?_
    have hS := va_S_nil hS
    refine lv_istore (lv' := [(6, .int (iI 0)), (5, .int (iI 1)), (0, .ref b), (1, .ref o0), (2, .ref m0), (3, .ref u0), (4, .int (iI ((5 * n : Nat) : Int)))]) hx hb dL_law_1046 hl (by decide) rfl (fun ls hl => ?_)
    refine lv_aload_n hx hb dL_law_1048 rfl (lv_at hl 4 rfl) ?_
    have hP2 : va_P (dC, dI) vwCl [(m0, .inr (1, [.int (iI 1), .ref t0, .ref k0, .ref p0, .int (iI ((w : Nat) : Int))])), (t0, .inl (cI, 24, .inl (fun j => iI ((tb a0 a1 j : Nat) : Int)))), (k0, .inl (cI, 12, .inl (fun j => iI ((K j : Nat) : Int)))), (p0, .inl (cI, 12, .inl (fun j => iI ((q j : Nat) : Int))))] H := va_P_r (w1 := [(o0, .inr (0, [.long (pk a0), .long (pk a1), .long (pkn q w), .int (iI ((w : Nat) : Int))])), (u0, .inl (cJ, 1, .inr (.inl (g))))]) (w2 := [(m0, .inr (1, [.int (iI 1), .ref t0, .ref k0, .ref p0, .int (iI ((w : Nat) : Int))])), (t0, .inl (cI, 24, .inl (fun j => iI ((tb a0 a1 j : Nat) : Int)))), (k0, .inl (cI, 12, .inl (fun j => iI ((K j : Nat) : Int)))), (p0, .inl (cI, 12, .inl (fun j => iI ((q j : Nat) : Int))))]) hP
    have hK2 := hK.sub (tys' := [(cI, .int)]) [1] rfl
    have hf9 : cells + 1 + 0 ≤ room_1.cells ∧ slots + 6 + 0 ≤ room_1.slots := ⟨by show cells + 1 + 0 ≤ 1036; omega, by show slots + 6 + 0 ≤ 8286; omega⟩
    refine rd_call (va_runV (As := []) (rest := []) ⟨hx, hb, hml, hown, hts⟩ (mX1_thrown l dC dI cI m0 t0 k0 p0 a0 a1 K q (iI 1) w hp0.1 hp1.1 hw hq) (cwV 0 hts gL_law_X1_thrown rfl rfl rfl hvX1_thrown ⟨(Nat.le_of_ble_eq_true rfl), (Nat.le_of_ble_eq_true rfl)⟩) (bW_pre (ci := 1) (q0 := 0) hK2 hP2 rfl rfl rfl) rfl rfl hl.1 rfl (lv_room (Nat.le_of_ble_eq_true rfl)) dL_law_1049 hf9) ?_
    refine lv_iload hx hb dL_law_1052 (lv_at hl 1 rfl) ?_
    refine ib_icmp_eq (tgt := 1059) hx hb dL_law_1054 (by decide) ⟨by omega, by omega⟩ ⟨by omega, by omega⟩ (fun c_1054 => ?_) (fun c_1054 => absurd c_1054 (by decide))
    refine lv_iload hx hb dL_law_1059 (lv_at hl 1 rfl) ?_
    refine ib_if_ne (tgt := 1076) hx hb dL_law_1061 (by decide) ⟨by omega, by omega⟩ (fun c_1061 => ?_) (fun c_1061 => absurd c_1061 (by decide))
    refine lv_goto (tgt := 1833) hx hb dL_law_1076 (by decide) ?_
    exact kk a0 a1 q K w (iI 1) (g) H ls ⟨hp0, hp1, hw, hq, hqd, hP, hD, hS⟩ (lv_sub hl [2, 3, 4, 5, 6] rfl)
  obtain ⟨sv, hn0, rfl⟩ := nat_of (z := z0) (k := 4095) (by omega)
  refine lv_aload_n hx hb dL_law_1023 rfl (lv_at hl 1 rfl) ?_
  refine lv_aload_n hx hb dL_law_1024 rfl (lv_at hl 0 rfl) ?_
  refine lv_iload hx hb dL_law_1025 (lv_at hl 4 rfl) ?_
  refine ib_const hx hb dL_law_1027 ?_
  refine ib_add (z := (((5 * n) + 1 : Nat) : Int)) hx hb dL_law_1028 (by omega) ?_
  refine st_i (y := iI ((5 * n + 1 : Nat) : Int)) (congrArg iI (by omega)) ?_
  refine va_sld (b := b) (L := L) (xs := xs) hx hb hX hbl hbA hS (iI_vp (i := 5 * n + 1) (by omega) (by omega)) dL_law_1029 ?_
  refine st_i (y := iI ((sv : Nat) : Int)) ((congrArg xs (iI_cl (by omega))).trans e0) ?_
  refine lv_aload_n hx hb dL_law_1030 rfl (lv_at hl 3 rfl) ?_
  have hf9 : cells + 0 ≤ room_1.cells ∧ slots + 0 ≤ room_1.slots := ⟨by show cells + 0 ≤ 1036; omega, by show slots + 0 ≤ 8286; omega⟩
  have hP1 : va_P (dC, dI) vwCl [(o0, .inr (0, [.long (pk a0), .long (pk a1), .long (pkn q w), .int (iI ((w : Nat) : Int))])), (u0, .inl (cJ, 1, .inr (.inl (g))))] H := va_P_l (w1 := [(o0, .inr (0, [.long (pk a0), .long (pk a1), .long (pkn q w), .int (iI ((w : Nat) : Int))])), (u0, .inl (cJ, 1, .inr (.inl (g))))]) (w2 := [(m0, .inr (1, [.int th, .ref t0, .ref k0, .ref p0, .int (iI ((w : Nat) : Int))])), (t0, .inl (cI, 24, .inl (fun j => iI ((tb a0 a1 j : Nat) : Int)))), (k0, .inl (cI, 12, .inl (fun j => iI ((K j : Nat) : Int)))), (p0, .inl (cI, 12, .inl (fun j => iI ((q j : Nat) : Int))))]) hP
  have hD1 : va_D (LA s) [(o0, .inr (0, [.long (pk a0), .long (pk a1), .long (pkn q w), .int (iI ((w : Nat) : Int))])), (u0, .inl (cJ, 1, .inr (.inl (g))))] := va_D_l (w1 := [(o0, .inr (0, [.long (pk a0), .long (pk a1), .long (pkn q w), .int (iI ((w : Nat) : Int))])), (u0, .inl (cJ, 1, .inr (.inl (g))))]) (w2 := [(m0, .inr (1, [.int th, .ref t0, .ref k0, .ref p0, .int (iI ((w : Nat) : Int))])), (t0, .inl (cI, 24, .inl (fun j => iI ((tb a0 a1 j : Nat) : Int)))), (k0, .inl (cI, 12, .inl (fun j => iI ((K j : Nat) : Int)))), (p0, .inl (cI, 12, .inl (fun j => iI ((q j : Nat) : Int))))]) hD
  have hK1 := hK.sub (tys' := [(cJ, .long)]) [0] rfl
  refine wr_call (vx_runSW (As := [.ref o0, .int (iI ((sv : Nat) : Int)), .ref u0]) (rest := []) ⟨hx, hb, hml, hown, hts⟩ (mL_classOf_ok l dC dI cJ o0 u0 a0 a1 q w hp0 hp1 hw hq hqd g sv (by omega)) (vx_cwSW 3 hts gL_law_L_classOf rfl rfl rfl hdL_classOf ⟨(Nat.le_of_ble_eq_true rfl), (Nat.le_of_ble_eq_true rfl)⟩) (bD_preS hK1 hP1 hD1) rfl rfl hl.1 rfl (lv_room (Nat.le_of_ble_eq_true rfl)) dL_law_1031 hf9) hS (fun q9 h => inW_A hD1 h) (fun H locs hPn hz hk hS => ?_)
  have hP : va_P (dC, dI) vwCl ([(o0, .inr (0, [.long (pk a0), .long (pk a1), .long (pkn q w), .int (iI ((w : Nat) : Int))])), (u0, .inl (cJ, 1, .inr (.inl (fun _ => (iI ((lsN sv 12 : Nat) : Int)).toInt64))))] ++ [(m0, .inr (1, [.int th, .ref t0, .ref k0, .ref p0, .int (iI ((w : Nat) : Int))])), (t0, .inl (cI, 24, .inl (fun j => iI ((tb a0 a1 j : Nat) : Int)))), (k0, .inl (cI, 12, .inl (fun j => iI ((K j : Nat) : Int)))), (p0, .inl (cI, 12, .inl (fun j => iI ((q j : Nat) : Int))))]) H := wj_l (w1 := [(o0, .inr (0, [.long (pk a0), .long (pk a1), .long (pkn q w), .int (iI ((w : Nat) : Int))])), (u0, .inl (cJ, 1, .inr (.inl (g))))]) (w2 := [(m0, .inr (1, [.int th, .ref t0, .ref k0, .ref p0, .int (iI ((w : Nat) : Int))])), (t0, .inl (cI, 24, .inl (fun j => iI ((tb a0 a1 j : Nat) : Int)))), (k0, .inl (cI, 12, .inl (fun j => iI ((K j : Nat) : Int)))), (p0, .inl (cI, 12, .inl (fun j => iI ((q j : Nat) : Int))))]) (w1' := [(o0, .inr (0, [.long (pk a0), .long (pk a1), .long (pkn q w), .int (iI ((w : Nat) : Int))])), (u0, .inl (cJ, 1, .inr (.inl (fun _ => (iI ((lsN sv 12 : Nat) : Int)).toInt64))))]) hP hD hPn hk
  have hD : va_D (LA s) ([(o0, .inr (0, [.long (pk a0), .long (pk a1), .long (pkn q w), .int (iI ((w : Nat) : Int))])), (u0, .inl (cJ, 1, .inr (.inl (fun _ => (iI ((lsN sv 12 : Nat) : Int)).toInt64))))] ++ [(m0, .inr (1, [.int th, .ref t0, .ref k0, .ref p0, .int (iI ((w : Nat) : Int))])), (t0, .inl (cI, 24, .inl (fun j => iI ((tb a0 a1 j : Nat) : Int)))), (k0, .inl (cI, 12, .inl (fun j => iI ((K j : Nat) : Int)))), (p0, .inl (cI, 12, .inl (fun j => iI ((q j : Nat) : Int))))]) := va_D_same (w := ([(o0, .inr (0, [.long (pk a0), .long (pk a1), .long (pkn q w), .int (iI ((w : Nat) : Int))])), (u0, .inl (cJ, 1, .inr (.inl (g))))] ++ [(m0, .inr (1, [.int th, .ref t0, .ref k0, .ref p0, .int (iI ((w : Nat) : Int))])), (t0, .inl (cI, 24, .inl (fun j => iI ((tb a0 a1 j : Nat) : Int)))), (k0, .inl (cI, 12, .inl (fun j => iI ((K j : Nat) : Int)))), (p0, .inl (cI, 12, .inl (fun j => iI ((q j : Nat) : Int))))])) (Eq.trans (b := [o0, u0, m0, t0, k0, p0]) rfl rfl) hD
  refine va_forget hS.2.2 ?_
  have hS := va_S_nil hS
  refine W.widen (k := cells + 1) (n := slots + 6) (by omega) (by omega) ?_
  refine lv_istore (lv' := [(5, .int (iI 0)), (0, .ref b), (1, .ref o0), (2, .ref m0), (3, .ref u0), (4, .int (iI ((5 * n : Nat) : Int)))]) hx hb dL_law_1034 hl (by decide) rfl (fun ls hl => ?_)
  refine lv_aload_n hx hb dL_law_1036 rfl (lv_at hl 3 rfl) ?_
  refine lv_aload_n hx hb dL_law_1037 rfl (lv_at hl 1 rfl) ?_
  refine lv_iload hx hb dL_law_1038 (lv_at hl 5 rfl) ?_
  refine ib_const hx hb dL_law_1040 ?_
  refine ib_add (z := (((5 * n) + 1 : Nat) : Int)) hx hb dL_law_1041 (by omega) ?_
  refine st_i (y := iI ((5 * n + 1 : Nat) : Int)) (congrArg iI (by omega)) ?_
  refine va_sld (b := b) (L := L) (xs := xs) hx hb hX hbl hbA hS (iI_vp (i := 5 * n + 1) (by omega) (by omega)) dL_law_1042 ?_
  refine st_i (y := iI ((sv : Nat) : Int)) ((congrArg xs (iI_cl (by omega))).trans e0) ?_
  have hP2 : va_P (dC, dI) vwCl [(m0, .inr (1, [.int th, .ref t0, .ref k0, .ref p0, .int (iI ((w : Nat) : Int))])), (t0, .inl (cI, 24, .inl (fun j => iI ((tb a0 a1 j : Nat) : Int)))), (k0, .inl (cI, 12, .inl (fun j => iI ((K j : Nat) : Int)))), (p0, .inl (cI, 12, .inl (fun j => iI ((q j : Nat) : Int))))] H := va_P_r (w1 := [(o0, .inr (0, [.long (pk a0), .long (pk a1), .long (pkn q w), .int (iI ((w : Nat) : Int))])), (u0, .inl (cJ, 1, .inr (.inl (fun _ => (iI ((lsN sv 12 : Nat) : Int)).toInt64))))]) (w2 := [(m0, .inr (1, [.int th, .ref t0, .ref k0, .ref p0, .int (iI ((w : Nat) : Int))])), (t0, .inl (cI, 24, .inl (fun j => iI ((tb a0 a1 j : Nat) : Int)))), (k0, .inl (cI, 12, .inl (fun j => iI ((K j : Nat) : Int)))), (p0, .inl (cI, 12, .inl (fun j => iI ((q j : Nat) : Int))))]) hP
  have hK2 := hK.sub (tys' := [(cI, .int)]) [1] rfl
  have hf9 : cells + 1 + 0 ≤ room_1.cells ∧ slots + 6 + 0 ≤ room_1.slots := ⟨by show cells + 1 + 0 ≤ 1036; omega, by show slots + 6 + 0 ≤ 8286; omega⟩
  have hD2 : va_D (LA s) [(m0, .inr (1, [.int th, .ref t0, .ref k0, .ref p0, .int (iI ((w : Nat) : Int))])), (t0, .inl (cI, 24, .inl (fun j => iI ((tb a0 a1 j : Nat) : Int)))), (k0, .inl (cI, 12, .inl (fun j => iI ((K j : Nat) : Int)))), (p0, .inl (cI, 12, .inl (fun j => iI ((q j : Nat) : Int))))] := va_D_r (w1 := [(o0, .inr (0, [.long (pk a0), .long (pk a1), .long (pkn q w), .int (iI ((w : Nat) : Int))])), (u0, .inl (cJ, 1, .inr (.inl (fun _ => (iI ((lsN sv 12 : Nat) : Int)).toInt64))))]) (w2 := [(m0, .inr (1, [.int th, .ref t0, .ref k0, .ref p0, .int (iI ((w : Nat) : Int))])), (t0, .inl (cI, 24, .inl (fun j => iI ((tb a0 a1 j : Nat) : Int)))), (k0, .inl (cI, 12, .inl (fun j => iI ((K j : Nat) : Int)))), (p0, .inl (cI, 12, .inl (fun j => iI ((q j : Nat) : Int))))]) hD
  refine wr_call (va_runV (As := [.int (iI ((sv : Nat) : Int))]) (rest := []) ⟨hx, hb, hml, hown, hts⟩ (mX1_classOf_ok l dC dI cI m0 t0 k0 p0 a0 a1 K q th w hp0.1 hp1.1 hw hq sv (by omega)) (cwV 1 hts gL_law_X1_classOf rfl rfl rfl hvX1_classOf ⟨(Nat.le_of_ble_eq_true rfl), (Nat.le_of_ble_eq_true rfl)⟩) (bD_pre (ci := 1) (q0 := 0) hK2 hP2 hD2 rfl rfl rfl) rfl rfl hl.1 rfl (lv_room (Nat.le_of_ble_eq_true rfl)) dL_law_1043 hf9) hS (fun q9 h => inW_A hD2 h) (fun H locs hPn hz hk hS => ?_)
  have hP : va_P (dC, dI) vwCl ([(o0, .inr (0, [.long (pk a0), .long (pk a1), .long (pkn q w), .int (iI ((w : Nat) : Int))])), (u0, .inl (cJ, 1, .inr (.inl (fun _ => (iI ((lsN sv 12 : Nat) : Int)).toInt64))))] ++ [(m0, .inr (1, [.int (iI 0), .ref t0, .ref k0, .ref p0, .int (iI ((w : Nat) : Int))])), (t0, .inl (cI, 24, .inl (fun j => iI ((tb a0 a1 j : Nat) : Int)))), (k0, .inl (cI, 12, .inl (fun j => iI ((K j : Nat) : Int)))), (p0, .inl (cI, 12, .inl (fun j => iI ((q j : Nat) : Int))))]) H := wj_r (w1 := [(o0, .inr (0, [.long (pk a0), .long (pk a1), .long (pkn q w), .int (iI ((w : Nat) : Int))])), (u0, .inl (cJ, 1, .inr (.inl (fun _ => (iI ((lsN sv 12 : Nat) : Int)).toInt64))))]) (w2 := [(m0, .inr (1, [.int th, .ref t0, .ref k0, .ref p0, .int (iI ((w : Nat) : Int))])), (t0, .inl (cI, 24, .inl (fun j => iI ((tb a0 a1 j : Nat) : Int)))), (k0, .inl (cI, 12, .inl (fun j => iI ((K j : Nat) : Int)))), (p0, .inl (cI, 12, .inl (fun j => iI ((q j : Nat) : Int))))]) (w2' := [(m0, .inr (1, [.int (iI 0), .ref t0, .ref k0, .ref p0, .int (iI ((w : Nat) : Int))])), (t0, .inl (cI, 24, .inl (fun j => iI ((tb a0 a1 j : Nat) : Int)))), (k0, .inl (cI, 12, .inl (fun j => iI ((K j : Nat) : Int)))), (p0, .inl (cI, 12, .inl (fun j => iI ((q j : Nat) : Int))))]) hP hD hPn hk
  have hD : va_D (LA s) ([(o0, .inr (0, [.long (pk a0), .long (pk a1), .long (pkn q w), .int (iI ((w : Nat) : Int))])), (u0, .inl (cJ, 1, .inr (.inl (fun _ => (iI ((lsN sv 12 : Nat) : Int)).toInt64))))] ++ [(m0, .inr (1, [.int (iI 0), .ref t0, .ref k0, .ref p0, .int (iI ((w : Nat) : Int))])), (t0, .inl (cI, 24, .inl (fun j => iI ((tb a0 a1 j : Nat) : Int)))), (k0, .inl (cI, 12, .inl (fun j => iI ((K j : Nat) : Int)))), (p0, .inl (cI, 12, .inl (fun j => iI ((q j : Nat) : Int))))]) := va_D_same (w := ([(o0, .inr (0, [.long (pk a0), .long (pk a1), .long (pkn q w), .int (iI ((w : Nat) : Int))])), (u0, .inl (cJ, 1, .inr (.inl (fun _ => (iI ((lsN sv 12 : Nat) : Int)).toInt64))))] ++ [(m0, .inr (1, [.int th, .ref t0, .ref k0, .ref p0, .int (iI ((w : Nat) : Int))])), (t0, .inl (cI, 24, .inl (fun j => iI ((tb a0 a1 j : Nat) : Int)))), (k0, .inl (cI, 12, .inl (fun j => iI ((K j : Nat) : Int)))), (p0, .inl (cI, 12, .inl (fun j => iI ((q j : Nat) : Int))))])) (Eq.trans (b := [o0, u0, m0, t0, k0, p0]) rfl rfl) hD
  refine va_forget hS.2.2 ?_
  have hS := va_S_nil hS
  refine lv_istore (lv' := [(6, .int (iI ((lsN sv 12 : Nat) : Int))), (5, .int (iI 0)), (0, .ref b), (1, .ref o0), (2, .ref m0), (3, .ref u0), (4, .int (iI ((5 * n : Nat) : Int)))]) hx hb dL_law_1046 hl (by decide) rfl (fun ls hl => ?_)
  refine lv_aload_n hx hb dL_law_1048 rfl (lv_at hl 4 rfl) ?_
  have hP2 : va_P (dC, dI) vwCl [(m0, .inr (1, [.int (iI 0), .ref t0, .ref k0, .ref p0, .int (iI ((w : Nat) : Int))])), (t0, .inl (cI, 24, .inl (fun j => iI ((tb a0 a1 j : Nat) : Int)))), (k0, .inl (cI, 12, .inl (fun j => iI ((K j : Nat) : Int)))), (p0, .inl (cI, 12, .inl (fun j => iI ((q j : Nat) : Int))))] H := va_P_r (w1 := [(o0, .inr (0, [.long (pk a0), .long (pk a1), .long (pkn q w), .int (iI ((w : Nat) : Int))])), (u0, .inl (cJ, 1, .inr (.inl (fun _ => (iI ((lsN sv 12 : Nat) : Int)).toInt64))))]) (w2 := [(m0, .inr (1, [.int (iI 0), .ref t0, .ref k0, .ref p0, .int (iI ((w : Nat) : Int))])), (t0, .inl (cI, 24, .inl (fun j => iI ((tb a0 a1 j : Nat) : Int)))), (k0, .inl (cI, 12, .inl (fun j => iI ((K j : Nat) : Int)))), (p0, .inl (cI, 12, .inl (fun j => iI ((q j : Nat) : Int))))]) hP
  have hK2 := hK.sub (tys' := [(cI, .int)]) [1] rfl
  have hf9 : cells + 1 + 0 ≤ room_1.cells ∧ slots + 6 + 0 ≤ room_1.slots := ⟨by show cells + 1 + 0 ≤ 1036; omega, by show slots + 6 + 0 ≤ 8286; omega⟩
  refine rd_call (va_runV (As := []) (rest := []) ⟨hx, hb, hml, hown, hts⟩ (mX1_thrown l dC dI cI m0 t0 k0 p0 a0 a1 K q (iI 0) w hp0.1 hp1.1 hw hq) (cwV 0 hts gL_law_X1_thrown rfl rfl rfl hvX1_thrown ⟨(Nat.le_of_ble_eq_true rfl), (Nat.le_of_ble_eq_true rfl)⟩) (bW_pre (ci := 1) (q0 := 0) hK2 hP2 rfl rfl rfl) rfl rfl hl.1 rfl (lv_room (Nat.le_of_ble_eq_true rfl)) dL_law_1049 hf9) ?_
  refine lv_iload hx hb dL_law_1052 (lv_at hl 1 rfl) ?_
  refine ib_icmp_eq (tgt := 1059) hx hb dL_law_1054 (by decide) ⟨by omega, by omega⟩ ⟨by omega, by omega⟩ (fun c_1054 => ?_) (fun c_1054 => absurd c_1054 (by decide))
  refine lv_iload hx hb dL_law_1059 (lv_at hl 1 rfl) ?_
  refine ib_if_ne (tgt := 1076) hx hb dL_law_1061 (by decide) ⟨by omega, by omega⟩ (fun c_1061 => absurd c_1061 (by decide)) (fun c_1061 => ?_)
  refine lv_aload_n hx hb dL_law_1064 rfl (lv_at hl 5 rfl) ?_
  refine ib_const hx hb dL_law_1065 ?_
  refine va_lald hx hb hK hP 1 0 rfl rfl vp0 dL_law_1066 ?_
  refine st_l (y := (iI ((lsN sv 12 : Nat) : Int)).toInt64) rfl ?_
  refine lv_iload hx hb dL_law_1067 (lv_at hl 0 rfl) ?_
  refine lv_i2l hx hb dL_law_1069 rfl ?_
  refine W.lcmp hx hb dL_law_1070 ?_
  refine bl_eq (tgt := 1076) hx hb dL_law_1071 (by decide) (fun _ => ?_) (fun h => absurd rfl h)
  refine lv_goto (tgt := 1833) hx hb dL_law_1076 (by decide) ?_
  exact kk a0 a1 q K w (iI 0) (fun _ => (iI ((lsN sv 12 : Nat) : Int)).toInt64) H ls ⟨hp0, hp1, hw, hq, hqd, hP, hD, hS⟩ (lv_sub hl [2, 3, 4, 5, 6] rfl)

set_option maxHeartbeats 4000000 in
set_option maxRecDepth 100000 in
theorem law_c13 {p : Program} {l : Launch} {e : Env} {s : State} {m : MethodId} {below : List Frame} {meth : Method} {c : Code} {Q : State → Prop} {dC : Nat → ClassId} {dI : Nat → Nat → Nat} {cI cJ : ClassId} {b L : Nat} {xs : Nat → Int32} (C : LC p l s m meth c (dC, dI) cI cJ b L xs) {o0 u0 m0 t0 k0 p0 : Nat} {a0 a1 q K : Nat → Nat} {w : Nat} {th : Int32} {g : Nat → Int64} {H : Heap} (hI : LI s (dC, dI) cI cJ o0 u0 m0 t0 k0 p0 a0 a1 q K w th g H) {n cells slots : Nat} (hc1 : cells + 1 ≤ 1036) (hc2 : slots + 6 ≤ 8286) (hn : 5 * n + 5 ≤ L) (hL : L ≤ 2560) {ls : Array Slot} (hl : lv_has ls 8 [(0, .ref b), (1, .ref o0), (2, .ref m0), (3, .ref u0), (4, .int (iI ((5 * n : Nat) : Int)))])
    (kk : ∀ (a0 a1 q K : Nat → Nat) (w : Nat) (th : Int32) (g : Nat → Int64) (H : Heap) (ls : Array Slot), LI s (dC, dI) cI cJ o0 u0 m0 t0 k0 p0 a0 a1 q K w th g H → lv_has ls 8 [(0, .ref b), (1, .ref o0), (2, .ref m0), (3, .ref u0), (4, .int (iI ((5 * n : Nat) : Int)))] → W p l e room_1 s m #[Value.ref b] below meth c H [] (cells + 1) (slots + 6) Q (F0 m 1833 ls [])) : W p l e room_1 s m #[Value.ref b] below meth c H [] cells slots Q (F0 m 1079 ls []) := by
  obtain ⟨hx, hb, hml, hown, hts, hK, hG0, hN, hX, hbl, hfl⟩ := C
  obtain ⟨hp0, hp1, hw, hq, hqd, hP, hD, hS⟩ := hI
  have hbA : ¬ LA s b := Nat.not_le.mpr hbl
  obtain ⟨z0, hz0, e0⟩ := ex_i (xs (5 * n + 1))
  obtain ⟨z1, hz1, e1⟩ := ex_i (xs (5 * n + 2))
  have hza0 := hz0.1
  have hzb0 := hz0.2
  have hza1 := hz1.1
  have hzb1 := hz1.2
  by_cases b1 : ¬ ((0 ≤ z0 ∧ z0 ≤ 4095) ∧ (1 ≤ z1 ∧ z1 ≤ 6))
  · skip
    refine lv_aload_n hx hb dL_law_1079 rfl (lv_at hl 1 rfl) ?_
    refine lv_aload_n hx hb dL_law_1080 rfl (lv_at hl 0 rfl) ?_
    refine lv_iload hx hb dL_law_1081 (lv_at hl 4 rfl) ?_
    refine ib_const hx hb dL_law_1083 ?_
    refine ib_add (z := (((5 * n) + 1 : Nat) : Int)) hx hb dL_law_1084 (by omega) ?_
    refine st_i (y := iI ((5 * n + 1 : Nat) : Int)) (congrArg iI (by omega)) ?_
    refine va_sld (b := b) (L := L) (xs := xs) hx hb hX hbl hbA hS (iI_vp (i := 5 * n + 1) (by omega) (by omega)) dL_law_1085 ?_
    refine st_i (y := iI z0) ((congrArg xs (iI_cl (by omega))).trans e0) ?_
    refine lv_aload_n hx hb dL_law_1086 rfl (lv_at hl 0 rfl) ?_
    refine lv_iload hx hb dL_law_1087 (lv_at hl 4 rfl) ?_
    refine ib_const hx hb dL_law_1089 ?_
    refine ib_add (z := (((5 * n) + 2 : Nat) : Int)) hx hb dL_law_1090 (by omega) ?_
    refine st_i (y := iI ((5 * n + 2 : Nat) : Int)) (congrArg iI (by omega)) ?_
    refine va_sld (b := b) (L := L) (xs := xs) hx hb hX hbl hbA hS (iI_vp (i := 5 * n + 2) (by omega) (by omega)) dL_law_1091 ?_
    refine st_i (y := iI z1) ((congrArg xs (iI_cl (by omega))).trans e1) ?_
    refine lv_aload_n hx hb dL_law_1092 rfl (lv_at hl 3 rfl) ?_
    have hf9 : cells + 1 ≤ room_1.cells ∧ slots + 6 ≤ room_1.slots := ⟨by show cells + 1 ≤ 1036; omega, by show slots + 6 ≤ 8286; omega⟩
    have hP1 : va_P (dC, dI) vwCl [(o0, .inr (0, [.long (pk a0), .long (pk a1), .long (pkn q w), .int (iI ((w : Nat) : Int))]))] H := va_P_l (w1 := [(o0, .inr (0, [.long (pk a0), .long (pk a1), .long (pkn q w), .int (iI ((w : Nat) : Int))]))]) (w2 := [(u0, .inl (cJ, 1, .inr (.inl (g)))), (m0, .inr (1, [.int th, .ref t0, .ref k0, .ref p0, .int (iI ((w : Nat) : Int))])), (t0, .inl (cI, 24, .inl (fun j => iI ((tb a0 a1 j : Nat) : Int)))), (k0, .inl (cI, 12, .inl (fun j => iI ((K j : Nat) : Int)))), (p0, .inl (cI, 12, .inl (fun j => iI ((q j : Nat) : Int))))]) hP
    have hK1 := hK.sub (tys' := []) [] rfl
    refine rdK_call (vx_runSW (As := [.ref o0, .int (iI z0), .int (iI z1), .ref u0]) (rest := []) ⟨hx, hb, hml, hown, hts⟩ (mL_pairs_x1 l hfl dC dI o0 a0 a1 q w hp0 hp1 hw hq hqd u0 z0 z1 hz0 hz1 b1) (vx_cwSW 4 hts gL_law_L_pairs rfl rfl rfl hdL_pairs ⟨(Nat.le_of_ble_eq_true rfl), (Nat.le_of_ble_eq_true rfl)⟩) (bY_preS hK1 hP1 (hG0.at hS) hN) rfl rfl hl.1 rfl (lv_room (Nat.le_of_ble_eq_true rfl)) dL_law_1093 hf9) (fun H hz hk => ?_)
    have hP : va_P (dC, dI) vwCl ([(o0, .inr (0, [.long (pk a0), .long (pk a1), .long (pkn q w), .int (iI ((w : Nat) : Int))])), (u0, .inl (cJ, 1, .inr (.inl (g))))] ++ [(m0, .inr (1, [.int th, .ref t0, .ref k0, .ref p0, .int (iI ((w : Nat) : Int))])), (t0, .inl (cI, 24, .inl (fun j => iI ((tb a0 a1 j : Nat) : Int)))), (k0, .inl (cI, 12, .inl (fun j => iI ((K j : Nat) : Int)))), (p0, .inl (cI, 12, .inl (fun j => iI ((q j : Nat) : Int))))]) H := va_P_new hP hk
    have hS := va_S_new hS hz hk
    refine lv_istore (lv' := [(5, .int (iI 1)), (0, .ref b), (1, .ref o0), (2, .ref m0), (3, .ref u0), (4, .int (iI ((5 * n : Nat) : Int)))]) hx hb dL_law_1096 hl (by decide) rfl (fun ls hl => ?_)
    refine lv_aload_n hx hb dL_law_1098 rfl (lv_at hl 3 rfl) ?_
    refine lv_aload_n hx hb dL_law_1099 rfl (lv_at hl 1 rfl) ?_
    refine lv_iload hx hb dL_law_1100 (lv_at hl 5 rfl) ?_
    refine ib_const hx hb dL_law_1102 ?_
    refine ib_add (z := (((5 * n) + 1 : Nat) : Int)) hx hb dL_law_1103 (by omega) ?_
    refine st_i (y := iI ((5 * n + 1 : Nat) : Int)) (congrArg iI (by omega)) ?_
    refine va_sld (b := b) (L := L) (xs := xs) hx hb hX hbl hbA hS (iI_vp (i := 5 * n + 1) (by omega) (by omega)) dL_law_1104 ?_
    refine st_i (y := iI z0) ((congrArg xs (iI_cl (by omega))).trans e0) ?_
    refine lv_aload_n hx hb dL_law_1105 rfl (lv_at hl 1 rfl) ?_
    refine lv_iload hx hb dL_law_1106 (lv_at hl 5 rfl) ?_
    refine ib_const hx hb dL_law_1108 ?_
    refine ib_add (z := (((5 * n) + 2 : Nat) : Int)) hx hb dL_law_1109 (by omega) ?_
    refine st_i (y := iI ((5 * n + 2 : Nat) : Int)) (congrArg iI (by omega)) ?_
    refine va_sld (b := b) (L := L) (xs := xs) hx hb hX hbl hbA hS (iI_vp (i := 5 * n + 2) (by omega) (by omega)) dL_law_1110 ?_
    refine st_i (y := iI z1) ((congrArg xs (iI_cl (by omega))).trans e1) ?_
    have hP2 : va_P (dC, dI) vwCl [(m0, .inr (1, [.int th, .ref t0, .ref k0, .ref p0, .int (iI ((w : Nat) : Int))])), (t0, .inl (cI, 24, .inl (fun j => iI ((tb a0 a1 j : Nat) : Int)))), (k0, .inl (cI, 12, .inl (fun j => iI ((K j : Nat) : Int)))), (p0, .inl (cI, 12, .inl (fun j => iI ((q j : Nat) : Int))))] H := va_P_r (w1 := [(o0, .inr (0, [.long (pk a0), .long (pk a1), .long (pkn q w), .int (iI ((w : Nat) : Int))])), (u0, .inl (cJ, 1, .inr (.inl (g))))]) (w2 := [(m0, .inr (1, [.int th, .ref t0, .ref k0, .ref p0, .int (iI ((w : Nat) : Int))])), (t0, .inl (cI, 24, .inl (fun j => iI ((tb a0 a1 j : Nat) : Int)))), (k0, .inl (cI, 12, .inl (fun j => iI ((K j : Nat) : Int)))), (p0, .inl (cI, 12, .inl (fun j => iI ((q j : Nat) : Int))))]) hP
    have hK2 := hK.sub (tys' := [(cI, .int)]) [1] rfl
    have hf9 : cells + 1 + 0 ≤ room_1.cells ∧ slots + 6 + 0 ≤ room_1.slots := ⟨by show cells + 1 + 0 ≤ 1036; omega, by show slots + 6 + 0 ≤ 8286; omega⟩
    have hD2 : va_D (LA s) [(m0, .inr (1, [.int th, .ref t0, .ref k0, .ref p0, .int (iI ((w : Nat) : Int))])), (t0, .inl (cI, 24, .inl (fun j => iI ((tb a0 a1 j : Nat) : Int)))), (k0, .inl (cI, 12, .inl (fun j => iI ((K j : Nat) : Int)))), (p0, .inl (cI, 12, .inl (fun j => iI ((q j : Nat) : Int))))] := va_D_r (w1 := [(o0, .inr (0, [.long (pk a0), .long (pk a1), .long (pkn q w), .int (iI ((w : Nat) : Int))])), (u0, .inl (cJ, 1, .inr (.inl (g))))]) (w2 := [(m0, .inr (1, [.int th, .ref t0, .ref k0, .ref p0, .int (iI ((w : Nat) : Int))])), (t0, .inl (cI, 24, .inl (fun j => iI ((tb a0 a1 j : Nat) : Int)))), (k0, .inl (cI, 12, .inl (fun j => iI ((K j : Nat) : Int)))), (p0, .inl (cI, 12, .inl (fun j => iI ((q j : Nat) : Int))))]) hD
    refine wr_call (va_runV (As := [.int (iI z0), .int (iI z1)]) (rest := []) ⟨hx, hb, hml, hown, hts⟩ (mX1_pairs_x1 l dC dI cI m0 t0 k0 p0 a0 a1 K q th w hp0.1 hp1.1 hw hq z0 z1 hz0 hz1 b1) (cwV 2 hts gL_law_X1_pairs rfl rfl rfl hvX1_pairs ⟨(Nat.le_of_ble_eq_true rfl), (Nat.le_of_ble_eq_true rfl)⟩) (bD_pre (ci := 1) (q0 := 0) hK2 hP2 hD2 rfl rfl rfl) rfl rfl hl.1 rfl (lv_room (Nat.le_of_ble_eq_true rfl)) dL_law_1111 hf9) hS (fun q9 h => inW_A hD2 h) (fun H locs hPn hz hk hS => ?_)
    have hP : va_P (dC, dI) vwCl ([(o0, .inr (0, [.long (pk a0), .long (pk a1), .long (pkn q w), .int (iI ((w : Nat) : Int))])), (u0, .inl (cJ, 1, .inr (.inl (g))))] ++ [(m0, .inr (1, [.int (iI 1), .ref t0, .ref k0, .ref p0, .int (iI ((w : Nat) : Int))])), (t0, .inl (cI, 24, .inl (fun j => iI ((tb a0 a1 j : Nat) : Int)))), (k0, .inl (cI, 12, .inl (fun j => iI ((K j : Nat) : Int)))), (p0, .inl (cI, 12, .inl (fun j => iI ((q j : Nat) : Int))))]) H := wj_r (w1 := [(o0, .inr (0, [.long (pk a0), .long (pk a1), .long (pkn q w), .int (iI ((w : Nat) : Int))])), (u0, .inl (cJ, 1, .inr (.inl (g))))]) (w2 := [(m0, .inr (1, [.int th, .ref t0, .ref k0, .ref p0, .int (iI ((w : Nat) : Int))])), (t0, .inl (cI, 24, .inl (fun j => iI ((tb a0 a1 j : Nat) : Int)))), (k0, .inl (cI, 12, .inl (fun j => iI ((K j : Nat) : Int)))), (p0, .inl (cI, 12, .inl (fun j => iI ((q j : Nat) : Int))))]) (w2' := [(m0, .inr (1, [.int (iI 1), .ref t0, .ref k0, .ref p0, .int (iI ((w : Nat) : Int))])), (t0, .inl (cI, 24, .inl (fun j => iI ((tb a0 a1 j : Nat) : Int)))), (k0, .inl (cI, 12, .inl (fun j => iI ((K j : Nat) : Int)))), (p0, .inl (cI, 12, .inl (fun j => iI ((q j : Nat) : Int))))]) hP hD hPn hk
    have hD : va_D (LA s) ([(o0, .inr (0, [.long (pk a0), .long (pk a1), .long (pkn q w), .int (iI ((w : Nat) : Int))])), (u0, .inl (cJ, 1, .inr (.inl (g))))] ++ [(m0, .inr (1, [.int (iI 1), .ref t0, .ref k0, .ref p0, .int (iI ((w : Nat) : Int))])), (t0, .inl (cI, 24, .inl (fun j => iI ((tb a0 a1 j : Nat) : Int)))), (k0, .inl (cI, 12, .inl (fun j => iI ((K j : Nat) : Int)))), (p0, .inl (cI, 12, .inl (fun j => iI ((q j : Nat) : Int))))]) := va_D_same (w := ([(o0, .inr (0, [.long (pk a0), .long (pk a1), .long (pkn q w), .int (iI ((w : Nat) : Int))])), (u0, .inl (cJ, 1, .inr (.inl (g))))] ++ [(m0, .inr (1, [.int th, .ref t0, .ref k0, .ref p0, .int (iI ((w : Nat) : Int))])), (t0, .inl (cI, 24, .inl (fun j => iI ((tb a0 a1 j : Nat) : Int)))), (k0, .inl (cI, 12, .inl (fun j => iI ((K j : Nat) : Int)))), (p0, .inl (cI, 12, .inl (fun j => iI ((q j : Nat) : Int))))])) (Eq.trans (b := [o0, u0, m0, t0, k0, p0]) rfl rfl) hD
    refine va_forget hS.2.2 ?_
    have hS := va_S_nil hS
    refine lv_istore (lv' := [(6, .int (iI 0)), (5, .int (iI 1)), (0, .ref b), (1, .ref o0), (2, .ref m0), (3, .ref u0), (4, .int (iI ((5 * n : Nat) : Int)))]) hx hb dL_law_1114 hl (by decide) rfl (fun ls hl => ?_)
    refine lv_aload_n hx hb dL_law_1116 rfl (lv_at hl 4 rfl) ?_
    have hP2 : va_P (dC, dI) vwCl [(m0, .inr (1, [.int (iI 1), .ref t0, .ref k0, .ref p0, .int (iI ((w : Nat) : Int))])), (t0, .inl (cI, 24, .inl (fun j => iI ((tb a0 a1 j : Nat) : Int)))), (k0, .inl (cI, 12, .inl (fun j => iI ((K j : Nat) : Int)))), (p0, .inl (cI, 12, .inl (fun j => iI ((q j : Nat) : Int))))] H := va_P_r (w1 := [(o0, .inr (0, [.long (pk a0), .long (pk a1), .long (pkn q w), .int (iI ((w : Nat) : Int))])), (u0, .inl (cJ, 1, .inr (.inl (g))))]) (w2 := [(m0, .inr (1, [.int (iI 1), .ref t0, .ref k0, .ref p0, .int (iI ((w : Nat) : Int))])), (t0, .inl (cI, 24, .inl (fun j => iI ((tb a0 a1 j : Nat) : Int)))), (k0, .inl (cI, 12, .inl (fun j => iI ((K j : Nat) : Int)))), (p0, .inl (cI, 12, .inl (fun j => iI ((q j : Nat) : Int))))]) hP
    have hK2 := hK.sub (tys' := [(cI, .int)]) [1] rfl
    have hf9 : cells + 1 + 0 ≤ room_1.cells ∧ slots + 6 + 0 ≤ room_1.slots := ⟨by show cells + 1 + 0 ≤ 1036; omega, by show slots + 6 + 0 ≤ 8286; omega⟩
    refine rd_call (va_runV (As := []) (rest := []) ⟨hx, hb, hml, hown, hts⟩ (mX1_thrown l dC dI cI m0 t0 k0 p0 a0 a1 K q (iI 1) w hp0.1 hp1.1 hw hq) (cwV 0 hts gL_law_X1_thrown rfl rfl rfl hvX1_thrown ⟨(Nat.le_of_ble_eq_true rfl), (Nat.le_of_ble_eq_true rfl)⟩) (bW_pre (ci := 1) (q0 := 0) hK2 hP2 rfl rfl rfl) rfl rfl hl.1 rfl (lv_room (Nat.le_of_ble_eq_true rfl)) dL_law_1117 hf9) ?_
    refine lv_iload hx hb dL_law_1120 (lv_at hl 1 rfl) ?_
    refine ib_icmp_eq (tgt := 1127) hx hb dL_law_1122 (by decide) ⟨by omega, by omega⟩ ⟨by omega, by omega⟩ (fun c_1122 => ?_) (fun c_1122 => absurd c_1122 (by decide))
    refine lv_iload hx hb dL_law_1127 (lv_at hl 1 rfl) ?_
    refine ib_if_ne (tgt := 1144) hx hb dL_law_1129 (by decide) ⟨by omega, by omega⟩ (fun c_1129 => ?_) (fun c_1129 => absurd c_1129 (by decide))
    refine lv_goto (tgt := 1833) hx hb dL_law_1144 (by decide) ?_
    exact kk a0 a1 q K w (iI 1) (g) H ls ⟨hp0, hp1, hw, hq, hqd, hP, hD, hS⟩ (lv_sub hl [2, 3, 4, 5, 6] rfl)
  obtain ⟨sv, hn0, rfl⟩ := nat_of (z := z0) (k := 4095) (by omega)
  obtain ⟨i, hn1, rfl⟩ := nat_of (z := z1) (k := 4095) (by omega)
  refine lv_aload_n hx hb dL_law_1079 rfl (lv_at hl 1 rfl) ?_
  refine lv_aload_n hx hb dL_law_1080 rfl (lv_at hl 0 rfl) ?_
  refine lv_iload hx hb dL_law_1081 (lv_at hl 4 rfl) ?_
  refine ib_const hx hb dL_law_1083 ?_
  refine ib_add (z := (((5 * n) + 1 : Nat) : Int)) hx hb dL_law_1084 (by omega) ?_
  refine st_i (y := iI ((5 * n + 1 : Nat) : Int)) (congrArg iI (by omega)) ?_
  refine va_sld (b := b) (L := L) (xs := xs) hx hb hX hbl hbA hS (iI_vp (i := 5 * n + 1) (by omega) (by omega)) dL_law_1085 ?_
  refine st_i (y := iI ((sv : Nat) : Int)) ((congrArg xs (iI_cl (by omega))).trans e0) ?_
  refine lv_aload_n hx hb dL_law_1086 rfl (lv_at hl 0 rfl) ?_
  refine lv_iload hx hb dL_law_1087 (lv_at hl 4 rfl) ?_
  refine ib_const hx hb dL_law_1089 ?_
  refine ib_add (z := (((5 * n) + 2 : Nat) : Int)) hx hb dL_law_1090 (by omega) ?_
  refine st_i (y := iI ((5 * n + 2 : Nat) : Int)) (congrArg iI (by omega)) ?_
  refine va_sld (b := b) (L := L) (xs := xs) hx hb hX hbl hbA hS (iI_vp (i := 5 * n + 2) (by omega) (by omega)) dL_law_1091 ?_
  refine st_i (y := iI ((i : Nat) : Int)) ((congrArg xs (iI_cl (by omega))).trans e1) ?_
  refine lv_aload_n hx hb dL_law_1092 rfl (lv_at hl 3 rfl) ?_
  have hf9 : cells + 0 ≤ room_1.cells ∧ slots + 0 ≤ room_1.slots := ⟨by show cells + 0 ≤ 1036; omega, by show slots + 0 ≤ 8286; omega⟩
  have hP1 : va_P (dC, dI) vwCl [(o0, .inr (0, [.long (pk a0), .long (pk a1), .long (pkn q w), .int (iI ((w : Nat) : Int))])), (u0, .inl (cJ, 1, .inr (.inl (g))))] H := va_P_l (w1 := [(o0, .inr (0, [.long (pk a0), .long (pk a1), .long (pkn q w), .int (iI ((w : Nat) : Int))])), (u0, .inl (cJ, 1, .inr (.inl (g))))]) (w2 := [(m0, .inr (1, [.int th, .ref t0, .ref k0, .ref p0, .int (iI ((w : Nat) : Int))])), (t0, .inl (cI, 24, .inl (fun j => iI ((tb a0 a1 j : Nat) : Int)))), (k0, .inl (cI, 12, .inl (fun j => iI ((K j : Nat) : Int)))), (p0, .inl (cI, 12, .inl (fun j => iI ((q j : Nat) : Int))))]) hP
  have hD1 : va_D (LA s) [(o0, .inr (0, [.long (pk a0), .long (pk a1), .long (pkn q w), .int (iI ((w : Nat) : Int))])), (u0, .inl (cJ, 1, .inr (.inl (g))))] := va_D_l (w1 := [(o0, .inr (0, [.long (pk a0), .long (pk a1), .long (pkn q w), .int (iI ((w : Nat) : Int))])), (u0, .inl (cJ, 1, .inr (.inl (g))))]) (w2 := [(m0, .inr (1, [.int th, .ref t0, .ref k0, .ref p0, .int (iI ((w : Nat) : Int))])), (t0, .inl (cI, 24, .inl (fun j => iI ((tb a0 a1 j : Nat) : Int)))), (k0, .inl (cI, 12, .inl (fun j => iI ((K j : Nat) : Int)))), (p0, .inl (cI, 12, .inl (fun j => iI ((q j : Nat) : Int))))]) hD
  have hK1 := hK.sub (tys' := [(cJ, .long)]) [0] rfl
  refine wr_call (vx_runSW (As := [.ref o0, .int (iI ((sv : Nat) : Int)), .int (iI ((i : Nat) : Int)), .ref u0]) (rest := []) ⟨hx, hb, hml, hown, hts⟩ (mL_pairs_ok l dC dI cJ o0 u0 a0 a1 q w hp0 hp1 hw hq hqd g sv i (by omega) (by omega) (by omega)) (vx_cwSW 4 hts gL_law_L_pairs rfl rfl rfl hdL_pairs ⟨(Nat.le_of_ble_eq_true rfl), (Nat.le_of_ble_eq_true rfl)⟩) (bD_preS hK1 hP1 hD1) rfl rfl hl.1 rfl (lv_room (Nat.le_of_ble_eq_true rfl)) dL_law_1093 hf9) hS (fun q9 h => inW_A hD1 h) (fun H locs hPn hz hk hS => ?_)
  have hP : va_P (dC, dI) vwCl ([(o0, .inr (0, [.long (pk a0), .long (pk a1), .long (pkn q w), .int (iI ((w : Nat) : Int))])), (u0, .inl (cJ, 1, .inr (.inl (fun _ => (iI ((prO sv i 12 : Nat) : Int)).toInt64))))] ++ [(m0, .inr (1, [.int th, .ref t0, .ref k0, .ref p0, .int (iI ((w : Nat) : Int))])), (t0, .inl (cI, 24, .inl (fun j => iI ((tb a0 a1 j : Nat) : Int)))), (k0, .inl (cI, 12, .inl (fun j => iI ((K j : Nat) : Int)))), (p0, .inl (cI, 12, .inl (fun j => iI ((q j : Nat) : Int))))]) H := wj_l (w1 := [(o0, .inr (0, [.long (pk a0), .long (pk a1), .long (pkn q w), .int (iI ((w : Nat) : Int))])), (u0, .inl (cJ, 1, .inr (.inl (g))))]) (w2 := [(m0, .inr (1, [.int th, .ref t0, .ref k0, .ref p0, .int (iI ((w : Nat) : Int))])), (t0, .inl (cI, 24, .inl (fun j => iI ((tb a0 a1 j : Nat) : Int)))), (k0, .inl (cI, 12, .inl (fun j => iI ((K j : Nat) : Int)))), (p0, .inl (cI, 12, .inl (fun j => iI ((q j : Nat) : Int))))]) (w1' := [(o0, .inr (0, [.long (pk a0), .long (pk a1), .long (pkn q w), .int (iI ((w : Nat) : Int))])), (u0, .inl (cJ, 1, .inr (.inl (fun _ => (iI ((prO sv i 12 : Nat) : Int)).toInt64))))]) hP hD hPn hk
  have hD : va_D (LA s) ([(o0, .inr (0, [.long (pk a0), .long (pk a1), .long (pkn q w), .int (iI ((w : Nat) : Int))])), (u0, .inl (cJ, 1, .inr (.inl (fun _ => (iI ((prO sv i 12 : Nat) : Int)).toInt64))))] ++ [(m0, .inr (1, [.int th, .ref t0, .ref k0, .ref p0, .int (iI ((w : Nat) : Int))])), (t0, .inl (cI, 24, .inl (fun j => iI ((tb a0 a1 j : Nat) : Int)))), (k0, .inl (cI, 12, .inl (fun j => iI ((K j : Nat) : Int)))), (p0, .inl (cI, 12, .inl (fun j => iI ((q j : Nat) : Int))))]) := va_D_same (w := ([(o0, .inr (0, [.long (pk a0), .long (pk a1), .long (pkn q w), .int (iI ((w : Nat) : Int))])), (u0, .inl (cJ, 1, .inr (.inl (g))))] ++ [(m0, .inr (1, [.int th, .ref t0, .ref k0, .ref p0, .int (iI ((w : Nat) : Int))])), (t0, .inl (cI, 24, .inl (fun j => iI ((tb a0 a1 j : Nat) : Int)))), (k0, .inl (cI, 12, .inl (fun j => iI ((K j : Nat) : Int)))), (p0, .inl (cI, 12, .inl (fun j => iI ((q j : Nat) : Int))))])) (Eq.trans (b := [o0, u0, m0, t0, k0, p0]) rfl rfl) hD
  refine va_forget hS.2.2 ?_
  have hS := va_S_nil hS
  refine W.widen (k := cells + 1) (n := slots + 6) (by omega) (by omega) ?_
  refine lv_istore (lv' := [(5, .int (iI 0)), (0, .ref b), (1, .ref o0), (2, .ref m0), (3, .ref u0), (4, .int (iI ((5 * n : Nat) : Int)))]) hx hb dL_law_1096 hl (by decide) rfl (fun ls hl => ?_)
  refine lv_aload_n hx hb dL_law_1098 rfl (lv_at hl 3 rfl) ?_
  refine lv_aload_n hx hb dL_law_1099 rfl (lv_at hl 1 rfl) ?_
  refine lv_iload hx hb dL_law_1100 (lv_at hl 5 rfl) ?_
  refine ib_const hx hb dL_law_1102 ?_
  refine ib_add (z := (((5 * n) + 1 : Nat) : Int)) hx hb dL_law_1103 (by omega) ?_
  refine st_i (y := iI ((5 * n + 1 : Nat) : Int)) (congrArg iI (by omega)) ?_
  refine va_sld (b := b) (L := L) (xs := xs) hx hb hX hbl hbA hS (iI_vp (i := 5 * n + 1) (by omega) (by omega)) dL_law_1104 ?_
  refine st_i (y := iI ((sv : Nat) : Int)) ((congrArg xs (iI_cl (by omega))).trans e0) ?_
  refine lv_aload_n hx hb dL_law_1105 rfl (lv_at hl 1 rfl) ?_
  refine lv_iload hx hb dL_law_1106 (lv_at hl 5 rfl) ?_
  refine ib_const hx hb dL_law_1108 ?_
  refine ib_add (z := (((5 * n) + 2 : Nat) : Int)) hx hb dL_law_1109 (by omega) ?_
  refine st_i (y := iI ((5 * n + 2 : Nat) : Int)) (congrArg iI (by omega)) ?_
  refine va_sld (b := b) (L := L) (xs := xs) hx hb hX hbl hbA hS (iI_vp (i := 5 * n + 2) (by omega) (by omega)) dL_law_1110 ?_
  refine st_i (y := iI ((i : Nat) : Int)) ((congrArg xs (iI_cl (by omega))).trans e1) ?_
  have hP2 : va_P (dC, dI) vwCl [(m0, .inr (1, [.int th, .ref t0, .ref k0, .ref p0, .int (iI ((w : Nat) : Int))])), (t0, .inl (cI, 24, .inl (fun j => iI ((tb a0 a1 j : Nat) : Int)))), (k0, .inl (cI, 12, .inl (fun j => iI ((K j : Nat) : Int)))), (p0, .inl (cI, 12, .inl (fun j => iI ((q j : Nat) : Int))))] H := va_P_r (w1 := [(o0, .inr (0, [.long (pk a0), .long (pk a1), .long (pkn q w), .int (iI ((w : Nat) : Int))])), (u0, .inl (cJ, 1, .inr (.inl (fun _ => (iI ((prO sv i 12 : Nat) : Int)).toInt64))))]) (w2 := [(m0, .inr (1, [.int th, .ref t0, .ref k0, .ref p0, .int (iI ((w : Nat) : Int))])), (t0, .inl (cI, 24, .inl (fun j => iI ((tb a0 a1 j : Nat) : Int)))), (k0, .inl (cI, 12, .inl (fun j => iI ((K j : Nat) : Int)))), (p0, .inl (cI, 12, .inl (fun j => iI ((q j : Nat) : Int))))]) hP
  have hK2 := hK.sub (tys' := [(cI, .int)]) [1] rfl
  have hf9 : cells + 1 + 0 ≤ room_1.cells ∧ slots + 6 + 0 ≤ room_1.slots := ⟨by show cells + 1 + 0 ≤ 1036; omega, by show slots + 6 + 0 ≤ 8286; omega⟩
  have hD2 : va_D (LA s) [(m0, .inr (1, [.int th, .ref t0, .ref k0, .ref p0, .int (iI ((w : Nat) : Int))])), (t0, .inl (cI, 24, .inl (fun j => iI ((tb a0 a1 j : Nat) : Int)))), (k0, .inl (cI, 12, .inl (fun j => iI ((K j : Nat) : Int)))), (p0, .inl (cI, 12, .inl (fun j => iI ((q j : Nat) : Int))))] := va_D_r (w1 := [(o0, .inr (0, [.long (pk a0), .long (pk a1), .long (pkn q w), .int (iI ((w : Nat) : Int))])), (u0, .inl (cJ, 1, .inr (.inl (fun _ => (iI ((prO sv i 12 : Nat) : Int)).toInt64))))]) (w2 := [(m0, .inr (1, [.int th, .ref t0, .ref k0, .ref p0, .int (iI ((w : Nat) : Int))])), (t0, .inl (cI, 24, .inl (fun j => iI ((tb a0 a1 j : Nat) : Int)))), (k0, .inl (cI, 12, .inl (fun j => iI ((K j : Nat) : Int)))), (p0, .inl (cI, 12, .inl (fun j => iI ((q j : Nat) : Int))))]) hD
  refine wr_call (va_runV (As := [.int (iI ((sv : Nat) : Int)), .int (iI ((i : Nat) : Int))]) (rest := []) ⟨hx, hb, hml, hown, hts⟩ (mX1_pairs_ok l dC dI cI m0 t0 k0 p0 a0 a1 K q th w hp0.1 hp1.1 hw hq sv i (by omega) (by omega) (by omega)) (cwV 2 hts gL_law_X1_pairs rfl rfl rfl hvX1_pairs ⟨(Nat.le_of_ble_eq_true rfl), (Nat.le_of_ble_eq_true rfl)⟩) (bD_pre (ci := 1) (q0 := 0) hK2 hP2 hD2 rfl rfl rfl) rfl rfl hl.1 rfl (lv_room (Nat.le_of_ble_eq_true rfl)) dL_law_1111 hf9) hS (fun q9 h => inW_A hD2 h) (fun H locs hPn hz hk hS => ?_)
  have hP : va_P (dC, dI) vwCl ([(o0, .inr (0, [.long (pk a0), .long (pk a1), .long (pkn q w), .int (iI ((w : Nat) : Int))])), (u0, .inl (cJ, 1, .inr (.inl (fun _ => (iI ((prO sv i 12 : Nat) : Int)).toInt64))))] ++ [(m0, .inr (1, [.int (iI 0), .ref t0, .ref k0, .ref p0, .int (iI ((w : Nat) : Int))])), (t0, .inl (cI, 24, .inl (fun j => iI ((tb a0 a1 j : Nat) : Int)))), (k0, .inl (cI, 12, .inl (fun j => iI ((K j : Nat) : Int)))), (p0, .inl (cI, 12, .inl (fun j => iI ((q j : Nat) : Int))))]) H := wj_r (w1 := [(o0, .inr (0, [.long (pk a0), .long (pk a1), .long (pkn q w), .int (iI ((w : Nat) : Int))])), (u0, .inl (cJ, 1, .inr (.inl (fun _ => (iI ((prO sv i 12 : Nat) : Int)).toInt64))))]) (w2 := [(m0, .inr (1, [.int th, .ref t0, .ref k0, .ref p0, .int (iI ((w : Nat) : Int))])), (t0, .inl (cI, 24, .inl (fun j => iI ((tb a0 a1 j : Nat) : Int)))), (k0, .inl (cI, 12, .inl (fun j => iI ((K j : Nat) : Int)))), (p0, .inl (cI, 12, .inl (fun j => iI ((q j : Nat) : Int))))]) (w2' := [(m0, .inr (1, [.int (iI 0), .ref t0, .ref k0, .ref p0, .int (iI ((w : Nat) : Int))])), (t0, .inl (cI, 24, .inl (fun j => iI ((tb a0 a1 j : Nat) : Int)))), (k0, .inl (cI, 12, .inl (fun j => iI ((K j : Nat) : Int)))), (p0, .inl (cI, 12, .inl (fun j => iI ((q j : Nat) : Int))))]) hP hD hPn hk
  have hD : va_D (LA s) ([(o0, .inr (0, [.long (pk a0), .long (pk a1), .long (pkn q w), .int (iI ((w : Nat) : Int))])), (u0, .inl (cJ, 1, .inr (.inl (fun _ => (iI ((prO sv i 12 : Nat) : Int)).toInt64))))] ++ [(m0, .inr (1, [.int (iI 0), .ref t0, .ref k0, .ref p0, .int (iI ((w : Nat) : Int))])), (t0, .inl (cI, 24, .inl (fun j => iI ((tb a0 a1 j : Nat) : Int)))), (k0, .inl (cI, 12, .inl (fun j => iI ((K j : Nat) : Int)))), (p0, .inl (cI, 12, .inl (fun j => iI ((q j : Nat) : Int))))]) := va_D_same (w := ([(o0, .inr (0, [.long (pk a0), .long (pk a1), .long (pkn q w), .int (iI ((w : Nat) : Int))])), (u0, .inl (cJ, 1, .inr (.inl (fun _ => (iI ((prO sv i 12 : Nat) : Int)).toInt64))))] ++ [(m0, .inr (1, [.int th, .ref t0, .ref k0, .ref p0, .int (iI ((w : Nat) : Int))])), (t0, .inl (cI, 24, .inl (fun j => iI ((tb a0 a1 j : Nat) : Int)))), (k0, .inl (cI, 12, .inl (fun j => iI ((K j : Nat) : Int)))), (p0, .inl (cI, 12, .inl (fun j => iI ((q j : Nat) : Int))))])) (Eq.trans (b := [o0, u0, m0, t0, k0, p0]) rfl rfl) hD
  refine va_forget hS.2.2 ?_
  have hS := va_S_nil hS
  refine lv_istore (lv' := [(6, .int (iI ((prO sv i 12 : Nat) : Int))), (5, .int (iI 0)), (0, .ref b), (1, .ref o0), (2, .ref m0), (3, .ref u0), (4, .int (iI ((5 * n : Nat) : Int)))]) hx hb dL_law_1114 hl (by decide) rfl (fun ls hl => ?_)
  refine lv_aload_n hx hb dL_law_1116 rfl (lv_at hl 4 rfl) ?_
  have hP2 : va_P (dC, dI) vwCl [(m0, .inr (1, [.int (iI 0), .ref t0, .ref k0, .ref p0, .int (iI ((w : Nat) : Int))])), (t0, .inl (cI, 24, .inl (fun j => iI ((tb a0 a1 j : Nat) : Int)))), (k0, .inl (cI, 12, .inl (fun j => iI ((K j : Nat) : Int)))), (p0, .inl (cI, 12, .inl (fun j => iI ((q j : Nat) : Int))))] H := va_P_r (w1 := [(o0, .inr (0, [.long (pk a0), .long (pk a1), .long (pkn q w), .int (iI ((w : Nat) : Int))])), (u0, .inl (cJ, 1, .inr (.inl (fun _ => (iI ((prO sv i 12 : Nat) : Int)).toInt64))))]) (w2 := [(m0, .inr (1, [.int (iI 0), .ref t0, .ref k0, .ref p0, .int (iI ((w : Nat) : Int))])), (t0, .inl (cI, 24, .inl (fun j => iI ((tb a0 a1 j : Nat) : Int)))), (k0, .inl (cI, 12, .inl (fun j => iI ((K j : Nat) : Int)))), (p0, .inl (cI, 12, .inl (fun j => iI ((q j : Nat) : Int))))]) hP
  have hK2 := hK.sub (tys' := [(cI, .int)]) [1] rfl
  have hf9 : cells + 1 + 0 ≤ room_1.cells ∧ slots + 6 + 0 ≤ room_1.slots := ⟨by show cells + 1 + 0 ≤ 1036; omega, by show slots + 6 + 0 ≤ 8286; omega⟩
  refine rd_call (va_runV (As := []) (rest := []) ⟨hx, hb, hml, hown, hts⟩ (mX1_thrown l dC dI cI m0 t0 k0 p0 a0 a1 K q (iI 0) w hp0.1 hp1.1 hw hq) (cwV 0 hts gL_law_X1_thrown rfl rfl rfl hvX1_thrown ⟨(Nat.le_of_ble_eq_true rfl), (Nat.le_of_ble_eq_true rfl)⟩) (bW_pre (ci := 1) (q0 := 0) hK2 hP2 rfl rfl rfl) rfl rfl hl.1 rfl (lv_room (Nat.le_of_ble_eq_true rfl)) dL_law_1117 hf9) ?_
  refine lv_iload hx hb dL_law_1120 (lv_at hl 1 rfl) ?_
  refine ib_icmp_eq (tgt := 1127) hx hb dL_law_1122 (by decide) ⟨by omega, by omega⟩ ⟨by omega, by omega⟩ (fun c_1122 => ?_) (fun c_1122 => absurd c_1122 (by decide))
  refine lv_iload hx hb dL_law_1127 (lv_at hl 1 rfl) ?_
  refine ib_if_ne (tgt := 1144) hx hb dL_law_1129 (by decide) ⟨by omega, by omega⟩ (fun c_1129 => absurd c_1129 (by decide)) (fun c_1129 => ?_)
  refine lv_aload_n hx hb dL_law_1132 rfl (lv_at hl 5 rfl) ?_
  refine ib_const hx hb dL_law_1133 ?_
  refine va_lald hx hb hK hP 1 0 rfl rfl vp0 dL_law_1134 ?_
  refine st_l (y := (iI ((prO sv i 12 : Nat) : Int)).toInt64) rfl ?_
  refine lv_iload hx hb dL_law_1135 (lv_at hl 0 rfl) ?_
  refine lv_i2l hx hb dL_law_1137 rfl ?_
  refine W.lcmp hx hb dL_law_1138 ?_
  refine bl_eq (tgt := 1144) hx hb dL_law_1139 (by decide) (fun _ => ?_) (fun h => absurd rfl h)
  refine lv_goto (tgt := 1833) hx hb dL_law_1144 (by decide) ?_
  exact kk a0 a1 q K w (iI 0) (fun _ => (iI ((prO sv i 12 : Nat) : Int)).toInt64) H ls ⟨hp0, hp1, hw, hq, hqd, hP, hD, hS⟩ (lv_sub hl [2, 3, 4, 5, 6] rfl)

set_option maxHeartbeats 4000000 in
set_option maxRecDepth 100000 in
theorem law_c14 {p : Program} {l : Launch} {e : Env} {s : State} {m : MethodId} {below : List Frame} {meth : Method} {c : Code} {Q : State → Prop} {dC : Nat → ClassId} {dI : Nat → Nat → Nat} {cI cJ : ClassId} {b L : Nat} {xs : Nat → Int32} (C : LC p l s m meth c (dC, dI) cI cJ b L xs) {o0 u0 m0 t0 k0 p0 : Nat} {a0 a1 q K : Nat → Nat} {w : Nat} {th : Int32} {g : Nat → Int64} {H : Heap} (hI : LI s (dC, dI) cI cJ o0 u0 m0 t0 k0 p0 a0 a1 q K w th g H) {n cells slots : Nat} (hc1 : cells + 1 ≤ 1036) (hc2 : slots + 6 ≤ 8286) (hn : 5 * n + 5 ≤ L) (hL : L ≤ 2560) {ls : Array Slot} (hl : lv_has ls 8 [(0, .ref b), (1, .ref o0), (2, .ref m0), (3, .ref u0), (4, .int (iI ((5 * n : Nat) : Int)))])
    (kk : ∀ (a0 a1 q K : Nat → Nat) (w : Nat) (th : Int32) (g : Nat → Int64) (H : Heap) (ls : Array Slot), LI s (dC, dI) cI cJ o0 u0 m0 t0 k0 p0 a0 a1 q K w th g H → lv_has ls 8 [(0, .ref b), (1, .ref o0), (2, .ref m0), (3, .ref u0), (4, .int (iI ((5 * n : Nat) : Int)))] → W p l e room_1 s m #[Value.ref b] below meth c H [] (cells + 1) (slots + 6) Q (F0 m 1833 ls [])) : W p l e room_1 s m #[Value.ref b] below meth c H [] cells slots Q (F0 m 1147 ls []) := by
  obtain ⟨hx, hb, hml, hown, hts, hK, hG0, hN, hX, hbl, hfl⟩ := C
  obtain ⟨hp0, hp1, hw, hq, hqd, hP, hD, hS⟩ := hI
  have hbA : ¬ LA s b := Nat.not_le.mpr hbl
  obtain ⟨z0, hz0, e0⟩ := ex_i (xs (5 * n + 1))
  have hza0 := hz0.1
  have hzb0 := hz0.2
  by_cases b1 : ¬ (z0 = 0 ∨ z0 = 1)
  · skip
    refine lv_aload_n hx hb dL_law_1147 rfl (lv_at hl 1 rfl) ?_
    refine lv_aload_n hx hb dL_law_1148 rfl (lv_at hl 0 rfl) ?_
    refine lv_iload hx hb dL_law_1149 (lv_at hl 4 rfl) ?_
    refine ib_const hx hb dL_law_1151 ?_
    refine ib_add (z := (((5 * n) + 1 : Nat) : Int)) hx hb dL_law_1152 (by omega) ?_
    refine st_i (y := iI ((5 * n + 1 : Nat) : Int)) (congrArg iI (by omega)) ?_
    refine va_sld (b := b) (L := L) (xs := xs) hx hb hX hbl hbA hS (iI_vp (i := 5 * n + 1) (by omega) (by omega)) dL_law_1153 ?_
    refine st_i (y := iI z0) ((congrArg xs (iI_cl (by omega))).trans e0) ?_
    refine lv_aload_n hx hb dL_law_1154 rfl (lv_at hl 3 rfl) ?_
    have hf9 : cells + 1 ≤ room_1.cells ∧ slots + 6 ≤ room_1.slots := ⟨by show cells + 1 ≤ 1036; omega, by show slots + 6 ≤ 8286; omega⟩
    have hP1 : va_P (dC, dI) vwCl [(o0, .inr (0, [.long (pk a0), .long (pk a1), .long (pkn q w), .int (iI ((w : Nat) : Int))]))] H := va_P_l (w1 := [(o0, .inr (0, [.long (pk a0), .long (pk a1), .long (pkn q w), .int (iI ((w : Nat) : Int))]))]) (w2 := [(u0, .inl (cJ, 1, .inr (.inl (g)))), (m0, .inr (1, [.int th, .ref t0, .ref k0, .ref p0, .int (iI ((w : Nat) : Int))])), (t0, .inl (cI, 24, .inl (fun j => iI ((tb a0 a1 j : Nat) : Int)))), (k0, .inl (cI, 12, .inl (fun j => iI ((K j : Nat) : Int)))), (p0, .inl (cI, 12, .inl (fun j => iI ((q j : Nat) : Int))))]) hP
    have hK1 := hK.sub (tys' := []) [] rfl
    refine rdK_call (vx_runSW (As := [.ref o0, .int (iI z0), .ref u0]) (rest := []) ⟨hx, hb, hml, hown, hts⟩ (mL_combining_x1 l hfl dC dI o0 a0 a1 q w hp0 hp1 hw hq hqd u0 z0 hz0 b1) (vx_cwSW 3 hts gL_law_L_combining rfl rfl rfl hdL_combining ⟨(Nat.le_of_ble_eq_true rfl), (Nat.le_of_ble_eq_true rfl)⟩) (bY_preS hK1 hP1 (hG0.at hS) hN) rfl rfl hl.1 rfl (lv_room (Nat.le_of_ble_eq_true rfl)) dL_law_1155 hf9) (fun H hz hk => ?_)
    have hP : va_P (dC, dI) vwCl ([(o0, .inr (0, [.long (pk a0), .long (pk a1), .long (pkn q w), .int (iI ((w : Nat) : Int))])), (u0, .inl (cJ, 1, .inr (.inl (g))))] ++ [(m0, .inr (1, [.int th, .ref t0, .ref k0, .ref p0, .int (iI ((w : Nat) : Int))])), (t0, .inl (cI, 24, .inl (fun j => iI ((tb a0 a1 j : Nat) : Int)))), (k0, .inl (cI, 12, .inl (fun j => iI ((K j : Nat) : Int)))), (p0, .inl (cI, 12, .inl (fun j => iI ((q j : Nat) : Int))))]) H := va_P_new hP hk
    have hS := va_S_new hS hz hk
    refine lv_istore (lv' := [(5, .int (iI 1)), (0, .ref b), (1, .ref o0), (2, .ref m0), (3, .ref u0), (4, .int (iI ((5 * n : Nat) : Int)))]) hx hb dL_law_1158 hl (by decide) rfl (fun ls hl => ?_)
    refine lv_aload_n hx hb dL_law_1160 rfl (lv_at hl 3 rfl) ?_
    refine lv_aload_n hx hb dL_law_1161 rfl (lv_at hl 1 rfl) ?_
    refine lv_iload hx hb dL_law_1162 (lv_at hl 5 rfl) ?_
    refine ib_const hx hb dL_law_1164 ?_
    refine ib_add (z := (((5 * n) + 1 : Nat) : Int)) hx hb dL_law_1165 (by omega) ?_
    refine st_i (y := iI ((5 * n + 1 : Nat) : Int)) (congrArg iI (by omega)) ?_
    refine va_sld (b := b) (L := L) (xs := xs) hx hb hX hbl hbA hS (iI_vp (i := 5 * n + 1) (by omega) (by omega)) dL_law_1166 ?_
    refine st_i (y := iI z0) ((congrArg xs (iI_cl (by omega))).trans e0) ?_
    have hP2 : va_P (dC, dI) vwCl [(m0, .inr (1, [.int th, .ref t0, .ref k0, .ref p0, .int (iI ((w : Nat) : Int))])), (t0, .inl (cI, 24, .inl (fun j => iI ((tb a0 a1 j : Nat) : Int)))), (k0, .inl (cI, 12, .inl (fun j => iI ((K j : Nat) : Int)))), (p0, .inl (cI, 12, .inl (fun j => iI ((q j : Nat) : Int))))] H := va_P_r (w1 := [(o0, .inr (0, [.long (pk a0), .long (pk a1), .long (pkn q w), .int (iI ((w : Nat) : Int))])), (u0, .inl (cJ, 1, .inr (.inl (g))))]) (w2 := [(m0, .inr (1, [.int th, .ref t0, .ref k0, .ref p0, .int (iI ((w : Nat) : Int))])), (t0, .inl (cI, 24, .inl (fun j => iI ((tb a0 a1 j : Nat) : Int)))), (k0, .inl (cI, 12, .inl (fun j => iI ((K j : Nat) : Int)))), (p0, .inl (cI, 12, .inl (fun j => iI ((q j : Nat) : Int))))]) hP
    have hK2 := hK.sub (tys' := [(cI, .int)]) [1] rfl
    have hf9 : cells + 1 + 0 ≤ room_1.cells ∧ slots + 6 + 0 ≤ room_1.slots := ⟨by show cells + 1 + 0 ≤ 1036; omega, by show slots + 6 + 0 ≤ 8286; omega⟩
    have hD2 : va_D (LA s) [(m0, .inr (1, [.int th, .ref t0, .ref k0, .ref p0, .int (iI ((w : Nat) : Int))])), (t0, .inl (cI, 24, .inl (fun j => iI ((tb a0 a1 j : Nat) : Int)))), (k0, .inl (cI, 12, .inl (fun j => iI ((K j : Nat) : Int)))), (p0, .inl (cI, 12, .inl (fun j => iI ((q j : Nat) : Int))))] := va_D_r (w1 := [(o0, .inr (0, [.long (pk a0), .long (pk a1), .long (pkn q w), .int (iI ((w : Nat) : Int))])), (u0, .inl (cJ, 1, .inr (.inl (g))))]) (w2 := [(m0, .inr (1, [.int th, .ref t0, .ref k0, .ref p0, .int (iI ((w : Nat) : Int))])), (t0, .inl (cI, 24, .inl (fun j => iI ((tb a0 a1 j : Nat) : Int)))), (k0, .inl (cI, 12, .inl (fun j => iI ((K j : Nat) : Int)))), (p0, .inl (cI, 12, .inl (fun j => iI ((q j : Nat) : Int))))]) hD
    refine wr_call (va_runV (As := [.int (iI z0)]) (rest := []) ⟨hx, hb, hml, hown, hts⟩ (mX1_combining_x1 l dC dI cI m0 t0 k0 p0 a0 a1 K q th w hp0.1 hp1.1 hw hq z0 hz0 b1) (cwV 1 hts gL_law_X1_combining rfl rfl rfl hvX1_combining ⟨(Nat.le_of_ble_eq_true rfl), (Nat.le_of_ble_eq_true rfl)⟩) (bD_pre (ci := 1) (q0 := 0) hK2 hP2 hD2 rfl rfl rfl) rfl rfl hl.1 rfl (lv_room (Nat.le_of_ble_eq_true rfl)) dL_law_1167 hf9) hS (fun q9 h => inW_A hD2 h) (fun H locs hPn hz hk hS => ?_)
    have hP : va_P (dC, dI) vwCl ([(o0, .inr (0, [.long (pk a0), .long (pk a1), .long (pkn q w), .int (iI ((w : Nat) : Int))])), (u0, .inl (cJ, 1, .inr (.inl (g))))] ++ [(m0, .inr (1, [.int (iI 1), .ref t0, .ref k0, .ref p0, .int (iI ((w : Nat) : Int))])), (t0, .inl (cI, 24, .inl (fun j => iI ((tb a0 a1 j : Nat) : Int)))), (k0, .inl (cI, 12, .inl (fun j => iI ((K j : Nat) : Int)))), (p0, .inl (cI, 12, .inl (fun j => iI ((q j : Nat) : Int))))]) H := wj_r (w1 := [(o0, .inr (0, [.long (pk a0), .long (pk a1), .long (pkn q w), .int (iI ((w : Nat) : Int))])), (u0, .inl (cJ, 1, .inr (.inl (g))))]) (w2 := [(m0, .inr (1, [.int th, .ref t0, .ref k0, .ref p0, .int (iI ((w : Nat) : Int))])), (t0, .inl (cI, 24, .inl (fun j => iI ((tb a0 a1 j : Nat) : Int)))), (k0, .inl (cI, 12, .inl (fun j => iI ((K j : Nat) : Int)))), (p0, .inl (cI, 12, .inl (fun j => iI ((q j : Nat) : Int))))]) (w2' := [(m0, .inr (1, [.int (iI 1), .ref t0, .ref k0, .ref p0, .int (iI ((w : Nat) : Int))])), (t0, .inl (cI, 24, .inl (fun j => iI ((tb a0 a1 j : Nat) : Int)))), (k0, .inl (cI, 12, .inl (fun j => iI ((K j : Nat) : Int)))), (p0, .inl (cI, 12, .inl (fun j => iI ((q j : Nat) : Int))))]) hP hD hPn hk
    have hD : va_D (LA s) ([(o0, .inr (0, [.long (pk a0), .long (pk a1), .long (pkn q w), .int (iI ((w : Nat) : Int))])), (u0, .inl (cJ, 1, .inr (.inl (g))))] ++ [(m0, .inr (1, [.int (iI 1), .ref t0, .ref k0, .ref p0, .int (iI ((w : Nat) : Int))])), (t0, .inl (cI, 24, .inl (fun j => iI ((tb a0 a1 j : Nat) : Int)))), (k0, .inl (cI, 12, .inl (fun j => iI ((K j : Nat) : Int)))), (p0, .inl (cI, 12, .inl (fun j => iI ((q j : Nat) : Int))))]) := va_D_same (w := ([(o0, .inr (0, [.long (pk a0), .long (pk a1), .long (pkn q w), .int (iI ((w : Nat) : Int))])), (u0, .inl (cJ, 1, .inr (.inl (g))))] ++ [(m0, .inr (1, [.int th, .ref t0, .ref k0, .ref p0, .int (iI ((w : Nat) : Int))])), (t0, .inl (cI, 24, .inl (fun j => iI ((tb a0 a1 j : Nat) : Int)))), (k0, .inl (cI, 12, .inl (fun j => iI ((K j : Nat) : Int)))), (p0, .inl (cI, 12, .inl (fun j => iI ((q j : Nat) : Int))))])) (Eq.trans (b := [o0, u0, m0, t0, k0, p0]) rfl rfl) hD
    refine va_forget hS.2.2 ?_
    have hS := va_S_nil hS
    refine lv_lstore (lv' := [(6, .long (0 : Int64)), (5, .int (iI 1)), (0, .ref b), (1, .ref o0), (2, .ref m0), (3, .ref u0), (4, .int (iI ((5 * n : Nat) : Int)))]) hx hb dL_law_1170 hl (by decide) rfl (fun ls hl => ?_)
    refine lv_aload_n hx hb dL_law_1172 rfl (lv_at hl 4 rfl) ?_
    have hP2 : va_P (dC, dI) vwCl [(m0, .inr (1, [.int (iI 1), .ref t0, .ref k0, .ref p0, .int (iI ((w : Nat) : Int))])), (t0, .inl (cI, 24, .inl (fun j => iI ((tb a0 a1 j : Nat) : Int)))), (k0, .inl (cI, 12, .inl (fun j => iI ((K j : Nat) : Int)))), (p0, .inl (cI, 12, .inl (fun j => iI ((q j : Nat) : Int))))] H := va_P_r (w1 := [(o0, .inr (0, [.long (pk a0), .long (pk a1), .long (pkn q w), .int (iI ((w : Nat) : Int))])), (u0, .inl (cJ, 1, .inr (.inl (g))))]) (w2 := [(m0, .inr (1, [.int (iI 1), .ref t0, .ref k0, .ref p0, .int (iI ((w : Nat) : Int))])), (t0, .inl (cI, 24, .inl (fun j => iI ((tb a0 a1 j : Nat) : Int)))), (k0, .inl (cI, 12, .inl (fun j => iI ((K j : Nat) : Int)))), (p0, .inl (cI, 12, .inl (fun j => iI ((q j : Nat) : Int))))]) hP
    have hK2 := hK.sub (tys' := [(cI, .int)]) [1] rfl
    have hf9 : cells + 1 + 0 ≤ room_1.cells ∧ slots + 6 + 0 ≤ room_1.slots := ⟨by show cells + 1 + 0 ≤ 1036; omega, by show slots + 6 + 0 ≤ 8286; omega⟩
    refine rd_call (va_runV (As := []) (rest := []) ⟨hx, hb, hml, hown, hts⟩ (mX1_thrown l dC dI cI m0 t0 k0 p0 a0 a1 K q (iI 1) w hp0.1 hp1.1 hw hq) (cwV 0 hts gL_law_X1_thrown rfl rfl rfl hvX1_thrown ⟨(Nat.le_of_ble_eq_true rfl), (Nat.le_of_ble_eq_true rfl)⟩) (bW_pre (ci := 1) (q0 := 0) hK2 hP2 rfl rfl rfl) rfl rfl hl.1 rfl (lv_room (Nat.le_of_ble_eq_true rfl)) dL_law_1173 hf9) ?_
    refine lv_iload hx hb dL_law_1176 (lv_at hl 1 rfl) ?_
    refine ib_icmp_eq (tgt := 1183) hx hb dL_law_1178 (by decide) ⟨by omega, by omega⟩ ⟨by omega, by omega⟩ (fun c_1178 => ?_) (fun c_1178 => absurd c_1178 (by decide))
    refine lv_iload hx hb dL_law_1183 (lv_at hl 1 rfl) ?_
    refine ib_if_ne (tgt := 1199) hx hb dL_law_1185 (by decide) ⟨by omega, by omega⟩ (fun c_1185 => ?_) (fun c_1185 => absurd c_1185 (by decide))
    refine lv_goto (tgt := 1833) hx hb dL_law_1199 (by decide) ?_
    exact kk a0 a1 q K w (iI 1) (g) H ls ⟨hp0, hp1, hw, hq, hqd, hP, hD, hS⟩ (lv_sub hl [2, 3, 4, 5, 6] rfl)
  obtain ⟨r, hn0, rfl⟩ := nat_of (z := z0) (k := 4095) (by omega)
  refine lv_aload_n hx hb dL_law_1147 rfl (lv_at hl 1 rfl) ?_
  refine lv_aload_n hx hb dL_law_1148 rfl (lv_at hl 0 rfl) ?_
  refine lv_iload hx hb dL_law_1149 (lv_at hl 4 rfl) ?_
  refine ib_const hx hb dL_law_1151 ?_
  refine ib_add (z := (((5 * n) + 1 : Nat) : Int)) hx hb dL_law_1152 (by omega) ?_
  refine st_i (y := iI ((5 * n + 1 : Nat) : Int)) (congrArg iI (by omega)) ?_
  refine va_sld (b := b) (L := L) (xs := xs) hx hb hX hbl hbA hS (iI_vp (i := 5 * n + 1) (by omega) (by omega)) dL_law_1153 ?_
  refine st_i (y := iI ((r : Nat) : Int)) ((congrArg xs (iI_cl (by omega))).trans e0) ?_
  refine lv_aload_n hx hb dL_law_1154 rfl (lv_at hl 3 rfl) ?_
  have hf9 : cells + 0 ≤ room_1.cells ∧ slots + 0 ≤ room_1.slots := ⟨by show cells + 0 ≤ 1036; omega, by show slots + 0 ≤ 8286; omega⟩
  have hP1 : va_P (dC, dI) vwCl [(o0, .inr (0, [.long (pk a0), .long (pk a1), .long (pkn q w), .int (iI ((w : Nat) : Int))])), (u0, .inl (cJ, 1, .inr (.inl (g))))] H := va_P_l (w1 := [(o0, .inr (0, [.long (pk a0), .long (pk a1), .long (pkn q w), .int (iI ((w : Nat) : Int))])), (u0, .inl (cJ, 1, .inr (.inl (g))))]) (w2 := [(m0, .inr (1, [.int th, .ref t0, .ref k0, .ref p0, .int (iI ((w : Nat) : Int))])), (t0, .inl (cI, 24, .inl (fun j => iI ((tb a0 a1 j : Nat) : Int)))), (k0, .inl (cI, 12, .inl (fun j => iI ((K j : Nat) : Int)))), (p0, .inl (cI, 12, .inl (fun j => iI ((q j : Nat) : Int))))]) hP
  have hD1 : va_D (LA s) [(o0, .inr (0, [.long (pk a0), .long (pk a1), .long (pkn q w), .int (iI ((w : Nat) : Int))])), (u0, .inl (cJ, 1, .inr (.inl (g))))] := va_D_l (w1 := [(o0, .inr (0, [.long (pk a0), .long (pk a1), .long (pkn q w), .int (iI ((w : Nat) : Int))])), (u0, .inl (cJ, 1, .inr (.inl (g))))]) (w2 := [(m0, .inr (1, [.int th, .ref t0, .ref k0, .ref p0, .int (iI ((w : Nat) : Int))])), (t0, .inl (cI, 24, .inl (fun j => iI ((tb a0 a1 j : Nat) : Int)))), (k0, .inl (cI, 12, .inl (fun j => iI ((K j : Nat) : Int)))), (p0, .inl (cI, 12, .inl (fun j => iI ((q j : Nat) : Int))))]) hD
  have hK1 := hK.sub (tys' := [(cJ, .long)]) [0] rfl
  refine wr_call (vx_runSW (As := [.ref o0, .int (iI ((r : Nat) : Int)), .ref u0]) (rest := []) ⟨hx, hb, hml, hown, hts⟩ (mL_combining_ok l dC dI cJ o0 u0 a0 a1 q w hp0 hp1 hw hq hqd g r (by omega)) (vx_cwSW 3 hts gL_law_L_combining rfl rfl rfl hdL_combining ⟨(Nat.le_of_ble_eq_true rfl), (Nat.le_of_ble_eq_true rfl)⟩) (bD_preS hK1 hP1 hD1) rfl rfl hl.1 rfl (lv_room (Nat.le_of_ble_eq_true rfl)) dL_law_1155 hf9) hS (fun q9 h => inW_A hD1 h) (fun H locs hPn hz hk hS => ?_)
  have hP : va_P (dC, dI) vwCl ([(o0, .inr (0, [.long (pk a0), .long (pk a1), .long (pkn q w), .int (iI ((w : Nat) : Int))])), (u0, .inl (cJ, 1, .inr (.inl (fun _ => cmL (rw_ r a0 a1) 48))))] ++ [(m0, .inr (1, [.int th, .ref t0, .ref k0, .ref p0, .int (iI ((w : Nat) : Int))])), (t0, .inl (cI, 24, .inl (fun j => iI ((tb a0 a1 j : Nat) : Int)))), (k0, .inl (cI, 12, .inl (fun j => iI ((K j : Nat) : Int)))), (p0, .inl (cI, 12, .inl (fun j => iI ((q j : Nat) : Int))))]) H := wj_l (w1 := [(o0, .inr (0, [.long (pk a0), .long (pk a1), .long (pkn q w), .int (iI ((w : Nat) : Int))])), (u0, .inl (cJ, 1, .inr (.inl (g))))]) (w2 := [(m0, .inr (1, [.int th, .ref t0, .ref k0, .ref p0, .int (iI ((w : Nat) : Int))])), (t0, .inl (cI, 24, .inl (fun j => iI ((tb a0 a1 j : Nat) : Int)))), (k0, .inl (cI, 12, .inl (fun j => iI ((K j : Nat) : Int)))), (p0, .inl (cI, 12, .inl (fun j => iI ((q j : Nat) : Int))))]) (w1' := [(o0, .inr (0, [.long (pk a0), .long (pk a1), .long (pkn q w), .int (iI ((w : Nat) : Int))])), (u0, .inl (cJ, 1, .inr (.inl (fun _ => cmL (rw_ r a0 a1) 48))))]) hP hD hPn hk
  have hD : va_D (LA s) ([(o0, .inr (0, [.long (pk a0), .long (pk a1), .long (pkn q w), .int (iI ((w : Nat) : Int))])), (u0, .inl (cJ, 1, .inr (.inl (fun _ => cmL (rw_ r a0 a1) 48))))] ++ [(m0, .inr (1, [.int th, .ref t0, .ref k0, .ref p0, .int (iI ((w : Nat) : Int))])), (t0, .inl (cI, 24, .inl (fun j => iI ((tb a0 a1 j : Nat) : Int)))), (k0, .inl (cI, 12, .inl (fun j => iI ((K j : Nat) : Int)))), (p0, .inl (cI, 12, .inl (fun j => iI ((q j : Nat) : Int))))]) := va_D_same (w := ([(o0, .inr (0, [.long (pk a0), .long (pk a1), .long (pkn q w), .int (iI ((w : Nat) : Int))])), (u0, .inl (cJ, 1, .inr (.inl (g))))] ++ [(m0, .inr (1, [.int th, .ref t0, .ref k0, .ref p0, .int (iI ((w : Nat) : Int))])), (t0, .inl (cI, 24, .inl (fun j => iI ((tb a0 a1 j : Nat) : Int)))), (k0, .inl (cI, 12, .inl (fun j => iI ((K j : Nat) : Int)))), (p0, .inl (cI, 12, .inl (fun j => iI ((q j : Nat) : Int))))])) (Eq.trans (b := [o0, u0, m0, t0, k0, p0]) rfl rfl) hD
  refine va_forget hS.2.2 ?_
  have hS := va_S_nil hS
  refine W.widen (k := cells + 1) (n := slots + 6) (by omega) (by omega) ?_
  refine lv_istore (lv' := [(5, .int (iI 0)), (0, .ref b), (1, .ref o0), (2, .ref m0), (3, .ref u0), (4, .int (iI ((5 * n : Nat) : Int)))]) hx hb dL_law_1158 hl (by decide) rfl (fun ls hl => ?_)
  refine lv_aload_n hx hb dL_law_1160 rfl (lv_at hl 3 rfl) ?_
  refine lv_aload_n hx hb dL_law_1161 rfl (lv_at hl 1 rfl) ?_
  refine lv_iload hx hb dL_law_1162 (lv_at hl 5 rfl) ?_
  refine ib_const hx hb dL_law_1164 ?_
  refine ib_add (z := (((5 * n) + 1 : Nat) : Int)) hx hb dL_law_1165 (by omega) ?_
  refine st_i (y := iI ((5 * n + 1 : Nat) : Int)) (congrArg iI (by omega)) ?_
  refine va_sld (b := b) (L := L) (xs := xs) hx hb hX hbl hbA hS (iI_vp (i := 5 * n + 1) (by omega) (by omega)) dL_law_1166 ?_
  refine st_i (y := iI ((r : Nat) : Int)) ((congrArg xs (iI_cl (by omega))).trans e0) ?_
  have hP2 : va_P (dC, dI) vwCl [(m0, .inr (1, [.int th, .ref t0, .ref k0, .ref p0, .int (iI ((w : Nat) : Int))])), (t0, .inl (cI, 24, .inl (fun j => iI ((tb a0 a1 j : Nat) : Int)))), (k0, .inl (cI, 12, .inl (fun j => iI ((K j : Nat) : Int)))), (p0, .inl (cI, 12, .inl (fun j => iI ((q j : Nat) : Int))))] H := va_P_r (w1 := [(o0, .inr (0, [.long (pk a0), .long (pk a1), .long (pkn q w), .int (iI ((w : Nat) : Int))])), (u0, .inl (cJ, 1, .inr (.inl (fun _ => cmL (rw_ r a0 a1) 48))))]) (w2 := [(m0, .inr (1, [.int th, .ref t0, .ref k0, .ref p0, .int (iI ((w : Nat) : Int))])), (t0, .inl (cI, 24, .inl (fun j => iI ((tb a0 a1 j : Nat) : Int)))), (k0, .inl (cI, 12, .inl (fun j => iI ((K j : Nat) : Int)))), (p0, .inl (cI, 12, .inl (fun j => iI ((q j : Nat) : Int))))]) hP
  have hK2 := hK.sub (tys' := [(cI, .int)]) [1] rfl
  have hf9 : cells + 1 + 0 ≤ room_1.cells ∧ slots + 6 + 0 ≤ room_1.slots := ⟨by show cells + 1 + 0 ≤ 1036; omega, by show slots + 6 + 0 ≤ 8286; omega⟩
  have hD2 : va_D (LA s) [(m0, .inr (1, [.int th, .ref t0, .ref k0, .ref p0, .int (iI ((w : Nat) : Int))])), (t0, .inl (cI, 24, .inl (fun j => iI ((tb a0 a1 j : Nat) : Int)))), (k0, .inl (cI, 12, .inl (fun j => iI ((K j : Nat) : Int)))), (p0, .inl (cI, 12, .inl (fun j => iI ((q j : Nat) : Int))))] := va_D_r (w1 := [(o0, .inr (0, [.long (pk a0), .long (pk a1), .long (pkn q w), .int (iI ((w : Nat) : Int))])), (u0, .inl (cJ, 1, .inr (.inl (fun _ => cmL (rw_ r a0 a1) 48))))]) (w2 := [(m0, .inr (1, [.int th, .ref t0, .ref k0, .ref p0, .int (iI ((w : Nat) : Int))])), (t0, .inl (cI, 24, .inl (fun j => iI ((tb a0 a1 j : Nat) : Int)))), (k0, .inl (cI, 12, .inl (fun j => iI ((K j : Nat) : Int)))), (p0, .inl (cI, 12, .inl (fun j => iI ((q j : Nat) : Int))))]) hD
  refine wr_call (va_runV (As := [.int (iI ((r : Nat) : Int))]) (rest := []) ⟨hx, hb, hml, hown, hts⟩ (mX1_combining_ok l dC dI cI m0 t0 k0 p0 a0 a1 K q th w hp0.1 hp1.1 hw hq r (by omega)) (cwV 1 hts gL_law_X1_combining rfl rfl rfl hvX1_combining ⟨(Nat.le_of_ble_eq_true rfl), (Nat.le_of_ble_eq_true rfl)⟩) (bD_pre (ci := 1) (q0 := 0) hK2 hP2 hD2 rfl rfl rfl) rfl rfl hl.1 rfl (lv_room (Nat.le_of_ble_eq_true rfl)) dL_law_1167 hf9) hS (fun q9 h => inW_A hD2 h) (fun H locs hPn hz hk hS => ?_)
  have hP : va_P (dC, dI) vwCl ([(o0, .inr (0, [.long (pk a0), .long (pk a1), .long (pkn q w), .int (iI ((w : Nat) : Int))])), (u0, .inl (cJ, 1, .inr (.inl (fun _ => cmL (rw_ r a0 a1) 48))))] ++ [(m0, .inr (1, [.int (iI 0), .ref t0, .ref k0, .ref p0, .int (iI ((w : Nat) : Int))])), (t0, .inl (cI, 24, .inl (fun j => iI ((tb a0 a1 j : Nat) : Int)))), (k0, .inl (cI, 12, .inl (fun j => iI ((K j : Nat) : Int)))), (p0, .inl (cI, 12, .inl (fun j => iI ((q j : Nat) : Int))))]) H := wj_r (w1 := [(o0, .inr (0, [.long (pk a0), .long (pk a1), .long (pkn q w), .int (iI ((w : Nat) : Int))])), (u0, .inl (cJ, 1, .inr (.inl (fun _ => cmL (rw_ r a0 a1) 48))))]) (w2 := [(m0, .inr (1, [.int th, .ref t0, .ref k0, .ref p0, .int (iI ((w : Nat) : Int))])), (t0, .inl (cI, 24, .inl (fun j => iI ((tb a0 a1 j : Nat) : Int)))), (k0, .inl (cI, 12, .inl (fun j => iI ((K j : Nat) : Int)))), (p0, .inl (cI, 12, .inl (fun j => iI ((q j : Nat) : Int))))]) (w2' := [(m0, .inr (1, [.int (iI 0), .ref t0, .ref k0, .ref p0, .int (iI ((w : Nat) : Int))])), (t0, .inl (cI, 24, .inl (fun j => iI ((tb a0 a1 j : Nat) : Int)))), (k0, .inl (cI, 12, .inl (fun j => iI ((K j : Nat) : Int)))), (p0, .inl (cI, 12, .inl (fun j => iI ((q j : Nat) : Int))))]) hP hD hPn hk
  have hD : va_D (LA s) ([(o0, .inr (0, [.long (pk a0), .long (pk a1), .long (pkn q w), .int (iI ((w : Nat) : Int))])), (u0, .inl (cJ, 1, .inr (.inl (fun _ => cmL (rw_ r a0 a1) 48))))] ++ [(m0, .inr (1, [.int (iI 0), .ref t0, .ref k0, .ref p0, .int (iI ((w : Nat) : Int))])), (t0, .inl (cI, 24, .inl (fun j => iI ((tb a0 a1 j : Nat) : Int)))), (k0, .inl (cI, 12, .inl (fun j => iI ((K j : Nat) : Int)))), (p0, .inl (cI, 12, .inl (fun j => iI ((q j : Nat) : Int))))]) := va_D_same (w := ([(o0, .inr (0, [.long (pk a0), .long (pk a1), .long (pkn q w), .int (iI ((w : Nat) : Int))])), (u0, .inl (cJ, 1, .inr (.inl (fun _ => cmL (rw_ r a0 a1) 48))))] ++ [(m0, .inr (1, [.int th, .ref t0, .ref k0, .ref p0, .int (iI ((w : Nat) : Int))])), (t0, .inl (cI, 24, .inl (fun j => iI ((tb a0 a1 j : Nat) : Int)))), (k0, .inl (cI, 12, .inl (fun j => iI ((K j : Nat) : Int)))), (p0, .inl (cI, 12, .inl (fun j => iI ((q j : Nat) : Int))))])) (Eq.trans (b := [o0, u0, m0, t0, k0, p0]) rfl rfl) hD
  refine va_forget hS.2.2 ?_
  have hS := va_S_nil hS
  refine lv_lstore (lv' := [(6, .long (cmL (rw_ r a0 a1) 48)), (5, .int (iI 0)), (0, .ref b), (1, .ref o0), (2, .ref m0), (3, .ref u0), (4, .int (iI ((5 * n : Nat) : Int)))]) hx hb dL_law_1170 hl (by decide) rfl (fun ls hl => ?_)
  refine lv_aload_n hx hb dL_law_1172 rfl (lv_at hl 4 rfl) ?_
  have hP2 : va_P (dC, dI) vwCl [(m0, .inr (1, [.int (iI 0), .ref t0, .ref k0, .ref p0, .int (iI ((w : Nat) : Int))])), (t0, .inl (cI, 24, .inl (fun j => iI ((tb a0 a1 j : Nat) : Int)))), (k0, .inl (cI, 12, .inl (fun j => iI ((K j : Nat) : Int)))), (p0, .inl (cI, 12, .inl (fun j => iI ((q j : Nat) : Int))))] H := va_P_r (w1 := [(o0, .inr (0, [.long (pk a0), .long (pk a1), .long (pkn q w), .int (iI ((w : Nat) : Int))])), (u0, .inl (cJ, 1, .inr (.inl (fun _ => cmL (rw_ r a0 a1) 48))))]) (w2 := [(m0, .inr (1, [.int (iI 0), .ref t0, .ref k0, .ref p0, .int (iI ((w : Nat) : Int))])), (t0, .inl (cI, 24, .inl (fun j => iI ((tb a0 a1 j : Nat) : Int)))), (k0, .inl (cI, 12, .inl (fun j => iI ((K j : Nat) : Int)))), (p0, .inl (cI, 12, .inl (fun j => iI ((q j : Nat) : Int))))]) hP
  have hK2 := hK.sub (tys' := [(cI, .int)]) [1] rfl
  have hf9 : cells + 1 + 0 ≤ room_1.cells ∧ slots + 6 + 0 ≤ room_1.slots := ⟨by show cells + 1 + 0 ≤ 1036; omega, by show slots + 6 + 0 ≤ 8286; omega⟩
  refine rd_call (va_runV (As := []) (rest := []) ⟨hx, hb, hml, hown, hts⟩ (mX1_thrown l dC dI cI m0 t0 k0 p0 a0 a1 K q (iI 0) w hp0.1 hp1.1 hw hq) (cwV 0 hts gL_law_X1_thrown rfl rfl rfl hvX1_thrown ⟨(Nat.le_of_ble_eq_true rfl), (Nat.le_of_ble_eq_true rfl)⟩) (bW_pre (ci := 1) (q0 := 0) hK2 hP2 rfl rfl rfl) rfl rfl hl.1 rfl (lv_room (Nat.le_of_ble_eq_true rfl)) dL_law_1173 hf9) ?_
  refine lv_iload hx hb dL_law_1176 (lv_at hl 1 rfl) ?_
  refine ib_icmp_eq (tgt := 1183) hx hb dL_law_1178 (by decide) ⟨by omega, by omega⟩ ⟨by omega, by omega⟩ (fun c_1178 => ?_) (fun c_1178 => absurd c_1178 (by decide))
  refine lv_iload hx hb dL_law_1183 (lv_at hl 1 rfl) ?_
  refine ib_if_ne (tgt := 1199) hx hb dL_law_1185 (by decide) ⟨by omega, by omega⟩ (fun c_1185 => absurd c_1185 (by decide)) (fun c_1185 => ?_)
  refine lv_aload_n hx hb dL_law_1188 rfl (lv_at hl 5 rfl) ?_
  refine ib_const hx hb dL_law_1189 ?_
  refine va_lald hx hb hK hP 1 0 rfl rfl vp0 dL_law_1190 ?_
  refine st_l (y := cmL (rw_ r a0 a1) 48) rfl ?_
  refine lv_lload hx hb dL_law_1191 (lv_at hl 0 rfl) ?_
  refine W.lcmp hx hb dL_law_1193 ?_
  refine bl_eq (tgt := 1199) hx hb dL_law_1194 (by decide) (fun _ => ?_) (fun h => absurd rfl h)
  refine lv_goto (tgt := 1833) hx hb dL_law_1199 (by decide) ?_
  exact kk a0 a1 q K w (iI 0) (fun _ => cmL (rw_ r a0 a1) 48) H ls ⟨hp0, hp1, hw, hq, hqd, hP, hD, hS⟩ (lv_sub hl [2, 3, 4, 5, 6] rfl)

set_option maxHeartbeats 4000000 in
set_option maxRecDepth 100000 in
theorem law_c15 {p : Program} {l : Launch} {e : Env} {s : State} {m : MethodId} {below : List Frame} {meth : Method} {c : Code} {Q : State → Prop} {dC : Nat → ClassId} {dI : Nat → Nat → Nat} {cI cJ : ClassId} {b L : Nat} {xs : Nat → Int32} (C : LC p l s m meth c (dC, dI) cI cJ b L xs) {o0 u0 m0 t0 k0 p0 : Nat} {a0 a1 q K : Nat → Nat} {w : Nat} {th : Int32} {g : Nat → Int64} {H : Heap} (hI : LI s (dC, dI) cI cJ o0 u0 m0 t0 k0 p0 a0 a1 q K w th g H) {n cells slots : Nat} (hc1 : cells + 1 ≤ 1036) (hc2 : slots + 6 ≤ 8286) (hn : 5 * n + 5 ≤ L) (hL : L ≤ 2560) {ls : Array Slot} (hl : lv_has ls 8 [(0, .ref b), (1, .ref o0), (2, .ref m0), (3, .ref u0), (4, .int (iI ((5 * n : Nat) : Int)))])
    (kk : ∀ (a0 a1 q K : Nat → Nat) (w : Nat) (th : Int32) (g : Nat → Int64) (H : Heap) (ls : Array Slot), LI s (dC, dI) cI cJ o0 u0 m0 t0 k0 p0 a0 a1 q K w th g H → lv_has ls 8 [(0, .ref b), (1, .ref o0), (2, .ref m0), (3, .ref u0), (4, .int (iI ((5 * n : Nat) : Int)))] → W p l e room_1 s m #[Value.ref b] below meth c H [] (cells + 1) (slots + 6) Q (F0 m 1833 ls [])) : W p l e room_1 s m #[Value.ref b] below meth c H [] cells slots Q (F0 m 1202 ls []) := by
  obtain ⟨hx, hb, hml, hown, hts, hK, hG0, hN, hX, hbl, hfl⟩ := C
  obtain ⟨hp0, hp1, hw, hq, hqd, hP, hD, hS⟩ := hI
  have hbA : ¬ LA s b := Nat.not_le.mpr hbl
  obtain ⟨z0, hz0, e0⟩ := ex_i (xs (5 * n + 1))
  obtain ⟨z1, hz1, e1⟩ := ex_i (xs (5 * n + 2))
  have hza0 := hz0.1
  have hzb0 := hz0.2
  have hza1 := hz1.1
  have hzb1 := hz1.2
  by_cases b1 : ¬ (z0 = 0 ∨ z0 = 1)
  · skip
    refine lv_aload_n hx hb dL_law_1202 rfl (lv_at hl 1 rfl) ?_
    refine lv_aload_n hx hb dL_law_1203 rfl (lv_at hl 0 rfl) ?_
    refine lv_iload hx hb dL_law_1204 (lv_at hl 4 rfl) ?_
    refine ib_const hx hb dL_law_1206 ?_
    refine ib_add (z := (((5 * n) + 1 : Nat) : Int)) hx hb dL_law_1207 (by omega) ?_
    refine st_i (y := iI ((5 * n + 1 : Nat) : Int)) (congrArg iI (by omega)) ?_
    refine va_sld (b := b) (L := L) (xs := xs) hx hb hX hbl hbA hS (iI_vp (i := 5 * n + 1) (by omega) (by omega)) dL_law_1208 ?_
    refine st_i (y := iI z0) ((congrArg xs (iI_cl (by omega))).trans e0) ?_
    refine lv_aload_n hx hb dL_law_1209 rfl (lv_at hl 0 rfl) ?_
    refine lv_iload hx hb dL_law_1210 (lv_at hl 4 rfl) ?_
    refine ib_const hx hb dL_law_1212 ?_
    refine ib_add (z := (((5 * n) + 2 : Nat) : Int)) hx hb dL_law_1213 (by omega) ?_
    refine st_i (y := iI ((5 * n + 2 : Nat) : Int)) (congrArg iI (by omega)) ?_
    refine va_sld (b := b) (L := L) (xs := xs) hx hb hX hbl hbA hS (iI_vp (i := 5 * n + 2) (by omega) (by omega)) dL_law_1214 ?_
    refine st_i (y := iI z1) ((congrArg xs (iI_cl (by omega))).trans e1) ?_
    refine lv_aload_n hx hb dL_law_1215 rfl (lv_at hl 3 rfl) ?_
    have hf9 : cells + 1 ≤ room_1.cells ∧ slots + 6 ≤ room_1.slots := ⟨by show cells + 1 ≤ 1036; omega, by show slots + 6 ≤ 8286; omega⟩
    have hP1 : va_P (dC, dI) vwCl [(o0, .inr (0, [.long (pk a0), .long (pk a1), .long (pkn q w), .int (iI ((w : Nat) : Int))]))] H := va_P_l (w1 := [(o0, .inr (0, [.long (pk a0), .long (pk a1), .long (pkn q w), .int (iI ((w : Nat) : Int))]))]) (w2 := [(u0, .inl (cJ, 1, .inr (.inl (g)))), (m0, .inr (1, [.int th, .ref t0, .ref k0, .ref p0, .int (iI ((w : Nat) : Int))])), (t0, .inl (cI, 24, .inl (fun j => iI ((tb a0 a1 j : Nat) : Int)))), (k0, .inl (cI, 12, .inl (fun j => iI ((K j : Nat) : Int)))), (p0, .inl (cI, 12, .inl (fun j => iI ((q j : Nat) : Int))))]) hP
    have hK1 := hK.sub (tys' := []) [] rfl
    refine rdK_call (vx_runSW (As := [.ref o0, .int (iI z0), .int (iI z1), .ref u0]) (rest := []) ⟨hx, hb, hml, hown, hts⟩ (mL_isDerived_x1 l hfl dC dI o0 a0 a1 q w hp0 hp1 hw hq hqd u0 z0 z1 hz0 hz1 b1) (vx_cwSW 4 hts gL_law_L_isDerived rfl rfl rfl hdL_isDerived ⟨(Nat.le_of_ble_eq_true rfl), (Nat.le_of_ble_eq_true rfl)⟩) (bY_preS hK1 hP1 (hG0.at hS) hN) rfl rfl hl.1 rfl (lv_room (Nat.le_of_ble_eq_true rfl)) dL_law_1216 hf9) (fun H hz hk => ?_)
    have hP : va_P (dC, dI) vwCl ([(o0, .inr (0, [.long (pk a0), .long (pk a1), .long (pkn q w), .int (iI ((w : Nat) : Int))])), (u0, .inl (cJ, 1, .inr (.inl (g))))] ++ [(m0, .inr (1, [.int th, .ref t0, .ref k0, .ref p0, .int (iI ((w : Nat) : Int))])), (t0, .inl (cI, 24, .inl (fun j => iI ((tb a0 a1 j : Nat) : Int)))), (k0, .inl (cI, 12, .inl (fun j => iI ((K j : Nat) : Int)))), (p0, .inl (cI, 12, .inl (fun j => iI ((q j : Nat) : Int))))]) H := va_P_new hP hk
    have hS := va_S_new hS hz hk
    refine lv_istore (lv' := [(5, .int (iI 1)), (0, .ref b), (1, .ref o0), (2, .ref m0), (3, .ref u0), (4, .int (iI ((5 * n : Nat) : Int)))]) hx hb dL_law_1219 hl (by decide) rfl (fun ls hl => ?_)
    refine lv_aload_n hx hb dL_law_1221 rfl (lv_at hl 3 rfl) ?_
    refine lv_aload_n hx hb dL_law_1222 rfl (lv_at hl 1 rfl) ?_
    refine lv_iload hx hb dL_law_1223 (lv_at hl 5 rfl) ?_
    refine ib_const hx hb dL_law_1225 ?_
    refine ib_add (z := (((5 * n) + 1 : Nat) : Int)) hx hb dL_law_1226 (by omega) ?_
    refine st_i (y := iI ((5 * n + 1 : Nat) : Int)) (congrArg iI (by omega)) ?_
    refine va_sld (b := b) (L := L) (xs := xs) hx hb hX hbl hbA hS (iI_vp (i := 5 * n + 1) (by omega) (by omega)) dL_law_1227 ?_
    refine st_i (y := iI z0) ((congrArg xs (iI_cl (by omega))).trans e0) ?_
    refine lv_aload_n hx hb dL_law_1228 rfl (lv_at hl 1 rfl) ?_
    refine lv_iload hx hb dL_law_1229 (lv_at hl 5 rfl) ?_
    refine ib_const hx hb dL_law_1231 ?_
    refine ib_add (z := (((5 * n) + 2 : Nat) : Int)) hx hb dL_law_1232 (by omega) ?_
    refine st_i (y := iI ((5 * n + 2 : Nat) : Int)) (congrArg iI (by omega)) ?_
    refine va_sld (b := b) (L := L) (xs := xs) hx hb hX hbl hbA hS (iI_vp (i := 5 * n + 2) (by omega) (by omega)) dL_law_1233 ?_
    refine st_i (y := iI z1) ((congrArg xs (iI_cl (by omega))).trans e1) ?_
    have hP2 : va_P (dC, dI) vwCl [(m0, .inr (1, [.int th, .ref t0, .ref k0, .ref p0, .int (iI ((w : Nat) : Int))])), (t0, .inl (cI, 24, .inl (fun j => iI ((tb a0 a1 j : Nat) : Int)))), (k0, .inl (cI, 12, .inl (fun j => iI ((K j : Nat) : Int)))), (p0, .inl (cI, 12, .inl (fun j => iI ((q j : Nat) : Int))))] H := va_P_r (w1 := [(o0, .inr (0, [.long (pk a0), .long (pk a1), .long (pkn q w), .int (iI ((w : Nat) : Int))])), (u0, .inl (cJ, 1, .inr (.inl (g))))]) (w2 := [(m0, .inr (1, [.int th, .ref t0, .ref k0, .ref p0, .int (iI ((w : Nat) : Int))])), (t0, .inl (cI, 24, .inl (fun j => iI ((tb a0 a1 j : Nat) : Int)))), (k0, .inl (cI, 12, .inl (fun j => iI ((K j : Nat) : Int)))), (p0, .inl (cI, 12, .inl (fun j => iI ((q j : Nat) : Int))))]) hP
    have hK2 := hK.sub (tys' := [(cI, .int)]) [1] rfl
    have hf9 : cells + 1 + 0 ≤ room_1.cells ∧ slots + 6 + 0 ≤ room_1.slots := ⟨by show cells + 1 + 0 ≤ 1036; omega, by show slots + 6 + 0 ≤ 8286; omega⟩
    have hD2 : va_D (LA s) [(m0, .inr (1, [.int th, .ref t0, .ref k0, .ref p0, .int (iI ((w : Nat) : Int))])), (t0, .inl (cI, 24, .inl (fun j => iI ((tb a0 a1 j : Nat) : Int)))), (k0, .inl (cI, 12, .inl (fun j => iI ((K j : Nat) : Int)))), (p0, .inl (cI, 12, .inl (fun j => iI ((q j : Nat) : Int))))] := va_D_r (w1 := [(o0, .inr (0, [.long (pk a0), .long (pk a1), .long (pkn q w), .int (iI ((w : Nat) : Int))])), (u0, .inl (cJ, 1, .inr (.inl (g))))]) (w2 := [(m0, .inr (1, [.int th, .ref t0, .ref k0, .ref p0, .int (iI ((w : Nat) : Int))])), (t0, .inl (cI, 24, .inl (fun j => iI ((tb a0 a1 j : Nat) : Int)))), (k0, .inl (cI, 12, .inl (fun j => iI ((K j : Nat) : Int)))), (p0, .inl (cI, 12, .inl (fun j => iI ((q j : Nat) : Int))))]) hD
    refine wr_call (va_runV (As := [.int (iI z0), .int (iI z1)]) (rest := []) ⟨hx, hb, hml, hown, hts⟩ (mX1_isDerived_x1 l dC dI cI m0 t0 k0 p0 a0 a1 K q th w hp0.1 hp1.1 hw hq z0 z1 hz0 hz1 b1) (cwV 2 hts gL_law_X1_isDerived rfl rfl rfl hvX1_isDerived ⟨(Nat.le_of_ble_eq_true rfl), (Nat.le_of_ble_eq_true rfl)⟩) (bD_pre (ci := 1) (q0 := 0) hK2 hP2 hD2 rfl rfl rfl) rfl rfl hl.1 rfl (lv_room (Nat.le_of_ble_eq_true rfl)) dL_law_1234 hf9) hS (fun q9 h => inW_A hD2 h) (fun H locs hPn hz hk hS => ?_)
    have hP : va_P (dC, dI) vwCl ([(o0, .inr (0, [.long (pk a0), .long (pk a1), .long (pkn q w), .int (iI ((w : Nat) : Int))])), (u0, .inl (cJ, 1, .inr (.inl (g))))] ++ [(m0, .inr (1, [.int (iI 1), .ref t0, .ref k0, .ref p0, .int (iI ((w : Nat) : Int))])), (t0, .inl (cI, 24, .inl (fun j => iI ((tb a0 a1 j : Nat) : Int)))), (k0, .inl (cI, 12, .inl (fun j => iI ((K j : Nat) : Int)))), (p0, .inl (cI, 12, .inl (fun j => iI ((q j : Nat) : Int))))]) H := wj_r (w1 := [(o0, .inr (0, [.long (pk a0), .long (pk a1), .long (pkn q w), .int (iI ((w : Nat) : Int))])), (u0, .inl (cJ, 1, .inr (.inl (g))))]) (w2 := [(m0, .inr (1, [.int th, .ref t0, .ref k0, .ref p0, .int (iI ((w : Nat) : Int))])), (t0, .inl (cI, 24, .inl (fun j => iI ((tb a0 a1 j : Nat) : Int)))), (k0, .inl (cI, 12, .inl (fun j => iI ((K j : Nat) : Int)))), (p0, .inl (cI, 12, .inl (fun j => iI ((q j : Nat) : Int))))]) (w2' := [(m0, .inr (1, [.int (iI 1), .ref t0, .ref k0, .ref p0, .int (iI ((w : Nat) : Int))])), (t0, .inl (cI, 24, .inl (fun j => iI ((tb a0 a1 j : Nat) : Int)))), (k0, .inl (cI, 12, .inl (fun j => iI ((K j : Nat) : Int)))), (p0, .inl (cI, 12, .inl (fun j => iI ((q j : Nat) : Int))))]) hP hD hPn hk
    have hD : va_D (LA s) ([(o0, .inr (0, [.long (pk a0), .long (pk a1), .long (pkn q w), .int (iI ((w : Nat) : Int))])), (u0, .inl (cJ, 1, .inr (.inl (g))))] ++ [(m0, .inr (1, [.int (iI 1), .ref t0, .ref k0, .ref p0, .int (iI ((w : Nat) : Int))])), (t0, .inl (cI, 24, .inl (fun j => iI ((tb a0 a1 j : Nat) : Int)))), (k0, .inl (cI, 12, .inl (fun j => iI ((K j : Nat) : Int)))), (p0, .inl (cI, 12, .inl (fun j => iI ((q j : Nat) : Int))))]) := va_D_same (w := ([(o0, .inr (0, [.long (pk a0), .long (pk a1), .long (pkn q w), .int (iI ((w : Nat) : Int))])), (u0, .inl (cJ, 1, .inr (.inl (g))))] ++ [(m0, .inr (1, [.int th, .ref t0, .ref k0, .ref p0, .int (iI ((w : Nat) : Int))])), (t0, .inl (cI, 24, .inl (fun j => iI ((tb a0 a1 j : Nat) : Int)))), (k0, .inl (cI, 12, .inl (fun j => iI ((K j : Nat) : Int)))), (p0, .inl (cI, 12, .inl (fun j => iI ((q j : Nat) : Int))))])) (Eq.trans (b := [o0, u0, m0, t0, k0, p0]) rfl rfl) hD
    refine va_forget hS.2.2 ?_
    have hS := va_S_nil hS
    refine lv_istore (lv' := [(6, .int (iI 0)), (5, .int (iI 1)), (0, .ref b), (1, .ref o0), (2, .ref m0), (3, .ref u0), (4, .int (iI ((5 * n : Nat) : Int)))]) hx hb dL_law_1237 hl (by decide) rfl (fun ls hl => ?_)
    refine lv_aload_n hx hb dL_law_1239 rfl (lv_at hl 4 rfl) ?_
    have hP2 : va_P (dC, dI) vwCl [(m0, .inr (1, [.int (iI 1), .ref t0, .ref k0, .ref p0, .int (iI ((w : Nat) : Int))])), (t0, .inl (cI, 24, .inl (fun j => iI ((tb a0 a1 j : Nat) : Int)))), (k0, .inl (cI, 12, .inl (fun j => iI ((K j : Nat) : Int)))), (p0, .inl (cI, 12, .inl (fun j => iI ((q j : Nat) : Int))))] H := va_P_r (w1 := [(o0, .inr (0, [.long (pk a0), .long (pk a1), .long (pkn q w), .int (iI ((w : Nat) : Int))])), (u0, .inl (cJ, 1, .inr (.inl (g))))]) (w2 := [(m0, .inr (1, [.int (iI 1), .ref t0, .ref k0, .ref p0, .int (iI ((w : Nat) : Int))])), (t0, .inl (cI, 24, .inl (fun j => iI ((tb a0 a1 j : Nat) : Int)))), (k0, .inl (cI, 12, .inl (fun j => iI ((K j : Nat) : Int)))), (p0, .inl (cI, 12, .inl (fun j => iI ((q j : Nat) : Int))))]) hP
    have hK2 := hK.sub (tys' := [(cI, .int)]) [1] rfl
    have hf9 : cells + 1 + 0 ≤ room_1.cells ∧ slots + 6 + 0 ≤ room_1.slots := ⟨by show cells + 1 + 0 ≤ 1036; omega, by show slots + 6 + 0 ≤ 8286; omega⟩
    refine rd_call (va_runV (As := []) (rest := []) ⟨hx, hb, hml, hown, hts⟩ (mX1_thrown l dC dI cI m0 t0 k0 p0 a0 a1 K q (iI 1) w hp0.1 hp1.1 hw hq) (cwV 0 hts gL_law_X1_thrown rfl rfl rfl hvX1_thrown ⟨(Nat.le_of_ble_eq_true rfl), (Nat.le_of_ble_eq_true rfl)⟩) (bW_pre (ci := 1) (q0 := 0) hK2 hP2 rfl rfl rfl) rfl rfl hl.1 rfl (lv_room (Nat.le_of_ble_eq_true rfl)) dL_law_1240 hf9) ?_
    refine lv_iload hx hb dL_law_1243 (lv_at hl 1 rfl) ?_
    refine ib_icmp_eq (tgt := 1250) hx hb dL_law_1245 (by decide) ⟨by omega, by omega⟩ ⟨by omega, by omega⟩ (fun c_1245 => ?_) (fun c_1245 => absurd c_1245 (by decide))
    refine lv_iload hx hb dL_law_1250 (lv_at hl 1 rfl) ?_
    refine ib_if_ne (tgt := 1274) hx hb dL_law_1252 (by decide) ⟨by omega, by omega⟩ (fun c_1252 => ?_) (fun c_1252 => absurd c_1252 (by decide))
    refine lv_goto (tgt := 1833) hx hb dL_law_1274 (by decide) ?_
    exact kk a0 a1 q K w (iI 1) (g) H ls ⟨hp0, hp1, hw, hq, hqd, hP, hD, hS⟩ (lv_sub hl [2, 3, 4, 5, 6] rfl)
  by_cases b2 : (z0 = 0 ∨ z0 = 1) ∧ ¬ (z1 = 1 ∨ z1 = 2 ∨ z1 = 3 ∨ z1 = 4 ∨ z1 = 6 ∨ z1 = 12)
  · skip
    refine lv_aload_n hx hb dL_law_1202 rfl (lv_at hl 1 rfl) ?_
    refine lv_aload_n hx hb dL_law_1203 rfl (lv_at hl 0 rfl) ?_
    refine lv_iload hx hb dL_law_1204 (lv_at hl 4 rfl) ?_
    refine ib_const hx hb dL_law_1206 ?_
    refine ib_add (z := (((5 * n) + 1 : Nat) : Int)) hx hb dL_law_1207 (by omega) ?_
    refine st_i (y := iI ((5 * n + 1 : Nat) : Int)) (congrArg iI (by omega)) ?_
    refine va_sld (b := b) (L := L) (xs := xs) hx hb hX hbl hbA hS (iI_vp (i := 5 * n + 1) (by omega) (by omega)) dL_law_1208 ?_
    refine st_i (y := iI z0) ((congrArg xs (iI_cl (by omega))).trans e0) ?_
    refine lv_aload_n hx hb dL_law_1209 rfl (lv_at hl 0 rfl) ?_
    refine lv_iload hx hb dL_law_1210 (lv_at hl 4 rfl) ?_
    refine ib_const hx hb dL_law_1212 ?_
    refine ib_add (z := (((5 * n) + 2 : Nat) : Int)) hx hb dL_law_1213 (by omega) ?_
    refine st_i (y := iI ((5 * n + 2 : Nat) : Int)) (congrArg iI (by omega)) ?_
    refine va_sld (b := b) (L := L) (xs := xs) hx hb hX hbl hbA hS (iI_vp (i := 5 * n + 2) (by omega) (by omega)) dL_law_1214 ?_
    refine st_i (y := iI z1) ((congrArg xs (iI_cl (by omega))).trans e1) ?_
    refine lv_aload_n hx hb dL_law_1215 rfl (lv_at hl 3 rfl) ?_
    have hf9 : cells + 1 ≤ room_1.cells ∧ slots + 6 ≤ room_1.slots := ⟨by show cells + 1 ≤ 1036; omega, by show slots + 6 ≤ 8286; omega⟩
    have hP1 : va_P (dC, dI) vwCl [(o0, .inr (0, [.long (pk a0), .long (pk a1), .long (pkn q w), .int (iI ((w : Nat) : Int))]))] H := va_P_l (w1 := [(o0, .inr (0, [.long (pk a0), .long (pk a1), .long (pkn q w), .int (iI ((w : Nat) : Int))]))]) (w2 := [(u0, .inl (cJ, 1, .inr (.inl (g)))), (m0, .inr (1, [.int th, .ref t0, .ref k0, .ref p0, .int (iI ((w : Nat) : Int))])), (t0, .inl (cI, 24, .inl (fun j => iI ((tb a0 a1 j : Nat) : Int)))), (k0, .inl (cI, 12, .inl (fun j => iI ((K j : Nat) : Int)))), (p0, .inl (cI, 12, .inl (fun j => iI ((q j : Nat) : Int))))]) hP
    have hK1 := hK.sub (tys' := []) [] rfl
    refine rdK_call (vx_runSW (As := [.ref o0, .int (iI z0), .int (iI z1), .ref u0]) (rest := []) ⟨hx, hb, hml, hown, hts⟩ (mL_isDerived_x2 l hfl dC dI o0 a0 a1 q w hp0 hp1 hw hq hqd u0 z0 z1 hz0 hz1 b2) (vx_cwSW 4 hts gL_law_L_isDerived rfl rfl rfl hdL_isDerived ⟨(Nat.le_of_ble_eq_true rfl), (Nat.le_of_ble_eq_true rfl)⟩) (bY_preS hK1 hP1 (hG0.at hS) hN) rfl rfl hl.1 rfl (lv_room (Nat.le_of_ble_eq_true rfl)) dL_law_1216 hf9) (fun H hz hk => ?_)
    have hP : va_P (dC, dI) vwCl ([(o0, .inr (0, [.long (pk a0), .long (pk a1), .long (pkn q w), .int (iI ((w : Nat) : Int))])), (u0, .inl (cJ, 1, .inr (.inl (g))))] ++ [(m0, .inr (1, [.int th, .ref t0, .ref k0, .ref p0, .int (iI ((w : Nat) : Int))])), (t0, .inl (cI, 24, .inl (fun j => iI ((tb a0 a1 j : Nat) : Int)))), (k0, .inl (cI, 12, .inl (fun j => iI ((K j : Nat) : Int)))), (p0, .inl (cI, 12, .inl (fun j => iI ((q j : Nat) : Int))))]) H := va_P_new hP hk
    have hS := va_S_new hS hz hk
    refine lv_istore (lv' := [(5, .int (iI 2)), (0, .ref b), (1, .ref o0), (2, .ref m0), (3, .ref u0), (4, .int (iI ((5 * n : Nat) : Int)))]) hx hb dL_law_1219 hl (by decide) rfl (fun ls hl => ?_)
    refine lv_aload_n hx hb dL_law_1221 rfl (lv_at hl 3 rfl) ?_
    refine lv_aload_n hx hb dL_law_1222 rfl (lv_at hl 1 rfl) ?_
    refine lv_iload hx hb dL_law_1223 (lv_at hl 5 rfl) ?_
    refine ib_const hx hb dL_law_1225 ?_
    refine ib_add (z := (((5 * n) + 1 : Nat) : Int)) hx hb dL_law_1226 (by omega) ?_
    refine st_i (y := iI ((5 * n + 1 : Nat) : Int)) (congrArg iI (by omega)) ?_
    refine va_sld (b := b) (L := L) (xs := xs) hx hb hX hbl hbA hS (iI_vp (i := 5 * n + 1) (by omega) (by omega)) dL_law_1227 ?_
    refine st_i (y := iI z0) ((congrArg xs (iI_cl (by omega))).trans e0) ?_
    refine lv_aload_n hx hb dL_law_1228 rfl (lv_at hl 1 rfl) ?_
    refine lv_iload hx hb dL_law_1229 (lv_at hl 5 rfl) ?_
    refine ib_const hx hb dL_law_1231 ?_
    refine ib_add (z := (((5 * n) + 2 : Nat) : Int)) hx hb dL_law_1232 (by omega) ?_
    refine st_i (y := iI ((5 * n + 2 : Nat) : Int)) (congrArg iI (by omega)) ?_
    refine va_sld (b := b) (L := L) (xs := xs) hx hb hX hbl hbA hS (iI_vp (i := 5 * n + 2) (by omega) (by omega)) dL_law_1233 ?_
    refine st_i (y := iI z1) ((congrArg xs (iI_cl (by omega))).trans e1) ?_
    have hP2 : va_P (dC, dI) vwCl [(m0, .inr (1, [.int th, .ref t0, .ref k0, .ref p0, .int (iI ((w : Nat) : Int))])), (t0, .inl (cI, 24, .inl (fun j => iI ((tb a0 a1 j : Nat) : Int)))), (k0, .inl (cI, 12, .inl (fun j => iI ((K j : Nat) : Int)))), (p0, .inl (cI, 12, .inl (fun j => iI ((q j : Nat) : Int))))] H := va_P_r (w1 := [(o0, .inr (0, [.long (pk a0), .long (pk a1), .long (pkn q w), .int (iI ((w : Nat) : Int))])), (u0, .inl (cJ, 1, .inr (.inl (g))))]) (w2 := [(m0, .inr (1, [.int th, .ref t0, .ref k0, .ref p0, .int (iI ((w : Nat) : Int))])), (t0, .inl (cI, 24, .inl (fun j => iI ((tb a0 a1 j : Nat) : Int)))), (k0, .inl (cI, 12, .inl (fun j => iI ((K j : Nat) : Int)))), (p0, .inl (cI, 12, .inl (fun j => iI ((q j : Nat) : Int))))]) hP
    have hK2 := hK.sub (tys' := [(cI, .int)]) [1] rfl
    have hf9 : cells + 1 + 0 ≤ room_1.cells ∧ slots + 6 + 0 ≤ room_1.slots := ⟨by show cells + 1 + 0 ≤ 1036; omega, by show slots + 6 + 0 ≤ 8286; omega⟩
    have hD2 : va_D (LA s) [(m0, .inr (1, [.int th, .ref t0, .ref k0, .ref p0, .int (iI ((w : Nat) : Int))])), (t0, .inl (cI, 24, .inl (fun j => iI ((tb a0 a1 j : Nat) : Int)))), (k0, .inl (cI, 12, .inl (fun j => iI ((K j : Nat) : Int)))), (p0, .inl (cI, 12, .inl (fun j => iI ((q j : Nat) : Int))))] := va_D_r (w1 := [(o0, .inr (0, [.long (pk a0), .long (pk a1), .long (pkn q w), .int (iI ((w : Nat) : Int))])), (u0, .inl (cJ, 1, .inr (.inl (g))))]) (w2 := [(m0, .inr (1, [.int th, .ref t0, .ref k0, .ref p0, .int (iI ((w : Nat) : Int))])), (t0, .inl (cI, 24, .inl (fun j => iI ((tb a0 a1 j : Nat) : Int)))), (k0, .inl (cI, 12, .inl (fun j => iI ((K j : Nat) : Int)))), (p0, .inl (cI, 12, .inl (fun j => iI ((q j : Nat) : Int))))]) hD
    refine wr_call (va_runV (As := [.int (iI z0), .int (iI z1)]) (rest := []) ⟨hx, hb, hml, hown, hts⟩ (mX1_isDerived_x2 l dC dI cI m0 t0 k0 p0 a0 a1 K q th w hp0.1 hp1.1 hw hq z0 z1 hz0 hz1 b2) (cwV 2 hts gL_law_X1_isDerived rfl rfl rfl hvX1_isDerived ⟨(Nat.le_of_ble_eq_true rfl), (Nat.le_of_ble_eq_true rfl)⟩) (bD_pre (ci := 1) (q0 := 0) hK2 hP2 hD2 rfl rfl rfl) rfl rfl hl.1 rfl (lv_room (Nat.le_of_ble_eq_true rfl)) dL_law_1234 hf9) hS (fun q9 h => inW_A hD2 h) (fun H locs hPn hz hk hS => ?_)
    have hP : va_P (dC, dI) vwCl ([(o0, .inr (0, [.long (pk a0), .long (pk a1), .long (pkn q w), .int (iI ((w : Nat) : Int))])), (u0, .inl (cJ, 1, .inr (.inl (g))))] ++ [(m0, .inr (1, [.int (iI 2), .ref t0, .ref k0, .ref p0, .int (iI ((w : Nat) : Int))])), (t0, .inl (cI, 24, .inl (fun j => iI ((tb a0 a1 j : Nat) : Int)))), (k0, .inl (cI, 12, .inl (fun j => iI ((K j : Nat) : Int)))), (p0, .inl (cI, 12, .inl (fun j => iI ((q j : Nat) : Int))))]) H := wj_r (w1 := [(o0, .inr (0, [.long (pk a0), .long (pk a1), .long (pkn q w), .int (iI ((w : Nat) : Int))])), (u0, .inl (cJ, 1, .inr (.inl (g))))]) (w2 := [(m0, .inr (1, [.int th, .ref t0, .ref k0, .ref p0, .int (iI ((w : Nat) : Int))])), (t0, .inl (cI, 24, .inl (fun j => iI ((tb a0 a1 j : Nat) : Int)))), (k0, .inl (cI, 12, .inl (fun j => iI ((K j : Nat) : Int)))), (p0, .inl (cI, 12, .inl (fun j => iI ((q j : Nat) : Int))))]) (w2' := [(m0, .inr (1, [.int (iI 2), .ref t0, .ref k0, .ref p0, .int (iI ((w : Nat) : Int))])), (t0, .inl (cI, 24, .inl (fun j => iI ((tb a0 a1 j : Nat) : Int)))), (k0, .inl (cI, 12, .inl (fun j => iI ((K j : Nat) : Int)))), (p0, .inl (cI, 12, .inl (fun j => iI ((q j : Nat) : Int))))]) hP hD hPn hk
    have hD : va_D (LA s) ([(o0, .inr (0, [.long (pk a0), .long (pk a1), .long (pkn q w), .int (iI ((w : Nat) : Int))])), (u0, .inl (cJ, 1, .inr (.inl (g))))] ++ [(m0, .inr (1, [.int (iI 2), .ref t0, .ref k0, .ref p0, .int (iI ((w : Nat) : Int))])), (t0, .inl (cI, 24, .inl (fun j => iI ((tb a0 a1 j : Nat) : Int)))), (k0, .inl (cI, 12, .inl (fun j => iI ((K j : Nat) : Int)))), (p0, .inl (cI, 12, .inl (fun j => iI ((q j : Nat) : Int))))]) := va_D_same (w := ([(o0, .inr (0, [.long (pk a0), .long (pk a1), .long (pkn q w), .int (iI ((w : Nat) : Int))])), (u0, .inl (cJ, 1, .inr (.inl (g))))] ++ [(m0, .inr (1, [.int th, .ref t0, .ref k0, .ref p0, .int (iI ((w : Nat) : Int))])), (t0, .inl (cI, 24, .inl (fun j => iI ((tb a0 a1 j : Nat) : Int)))), (k0, .inl (cI, 12, .inl (fun j => iI ((K j : Nat) : Int)))), (p0, .inl (cI, 12, .inl (fun j => iI ((q j : Nat) : Int))))])) (Eq.trans (b := [o0, u0, m0, t0, k0, p0]) rfl rfl) hD
    refine va_forget hS.2.2 ?_
    have hS := va_S_nil hS
    refine lv_istore (lv' := [(6, .int (iI 0)), (5, .int (iI 2)), (0, .ref b), (1, .ref o0), (2, .ref m0), (3, .ref u0), (4, .int (iI ((5 * n : Nat) : Int)))]) hx hb dL_law_1237 hl (by decide) rfl (fun ls hl => ?_)
    refine lv_aload_n hx hb dL_law_1239 rfl (lv_at hl 4 rfl) ?_
    have hP2 : va_P (dC, dI) vwCl [(m0, .inr (1, [.int (iI 2), .ref t0, .ref k0, .ref p0, .int (iI ((w : Nat) : Int))])), (t0, .inl (cI, 24, .inl (fun j => iI ((tb a0 a1 j : Nat) : Int)))), (k0, .inl (cI, 12, .inl (fun j => iI ((K j : Nat) : Int)))), (p0, .inl (cI, 12, .inl (fun j => iI ((q j : Nat) : Int))))] H := va_P_r (w1 := [(o0, .inr (0, [.long (pk a0), .long (pk a1), .long (pkn q w), .int (iI ((w : Nat) : Int))])), (u0, .inl (cJ, 1, .inr (.inl (g))))]) (w2 := [(m0, .inr (1, [.int (iI 2), .ref t0, .ref k0, .ref p0, .int (iI ((w : Nat) : Int))])), (t0, .inl (cI, 24, .inl (fun j => iI ((tb a0 a1 j : Nat) : Int)))), (k0, .inl (cI, 12, .inl (fun j => iI ((K j : Nat) : Int)))), (p0, .inl (cI, 12, .inl (fun j => iI ((q j : Nat) : Int))))]) hP
    have hK2 := hK.sub (tys' := [(cI, .int)]) [1] rfl
    have hf9 : cells + 1 + 0 ≤ room_1.cells ∧ slots + 6 + 0 ≤ room_1.slots := ⟨by show cells + 1 + 0 ≤ 1036; omega, by show slots + 6 + 0 ≤ 8286; omega⟩
    refine rd_call (va_runV (As := []) (rest := []) ⟨hx, hb, hml, hown, hts⟩ (mX1_thrown l dC dI cI m0 t0 k0 p0 a0 a1 K q (iI 2) w hp0.1 hp1.1 hw hq) (cwV 0 hts gL_law_X1_thrown rfl rfl rfl hvX1_thrown ⟨(Nat.le_of_ble_eq_true rfl), (Nat.le_of_ble_eq_true rfl)⟩) (bW_pre (ci := 1) (q0 := 0) hK2 hP2 rfl rfl rfl) rfl rfl hl.1 rfl (lv_room (Nat.le_of_ble_eq_true rfl)) dL_law_1240 hf9) ?_
    refine lv_iload hx hb dL_law_1243 (lv_at hl 1 rfl) ?_
    refine ib_icmp_eq (tgt := 1250) hx hb dL_law_1245 (by decide) ⟨by omega, by omega⟩ ⟨by omega, by omega⟩ (fun c_1245 => ?_) (fun c_1245 => absurd c_1245 (by decide))
    refine lv_iload hx hb dL_law_1250 (lv_at hl 1 rfl) ?_
    refine ib_if_ne (tgt := 1274) hx hb dL_law_1252 (by decide) ⟨by omega, by omega⟩ (fun c_1252 => ?_) (fun c_1252 => absurd c_1252 (by decide))
    refine lv_goto (tgt := 1833) hx hb dL_law_1274 (by decide) ?_
    exact kk a0 a1 q K w (iI 2) (g) H ls ⟨hp0, hp1, hw, hq, hqd, hP, hD, hS⟩ (lv_sub hl [2, 3, 4, 5, 6] rfl)
  rcases (show z1 = 1 ∨ z1 = 2 ∨ z1 = 3 ∨ z1 = 4 ∨ z1 = 6 ∨ z1 = 12 by omega) with rfl | rfl | rfl | rfl | rfl | rfl
  · skip
    obtain ⟨r, hn0, rfl⟩ := nat_of (z := z0) (k := 4095) (by omega)
    refine lv_aload_n hx hb dL_law_1202 rfl (lv_at hl 1 rfl) ?_
    refine lv_aload_n hx hb dL_law_1203 rfl (lv_at hl 0 rfl) ?_
    refine lv_iload hx hb dL_law_1204 (lv_at hl 4 rfl) ?_
    refine ib_const hx hb dL_law_1206 ?_
    refine ib_add (z := (((5 * n) + 1 : Nat) : Int)) hx hb dL_law_1207 (by omega) ?_
    refine st_i (y := iI ((5 * n + 1 : Nat) : Int)) (congrArg iI (by omega)) ?_
    refine va_sld (b := b) (L := L) (xs := xs) hx hb hX hbl hbA hS (iI_vp (i := 5 * n + 1) (by omega) (by omega)) dL_law_1208 ?_
    refine st_i (y := iI ((r : Nat) : Int)) ((congrArg xs (iI_cl (by omega))).trans e0) ?_
    refine lv_aload_n hx hb dL_law_1209 rfl (lv_at hl 0 rfl) ?_
    refine lv_iload hx hb dL_law_1210 (lv_at hl 4 rfl) ?_
    refine ib_const hx hb dL_law_1212 ?_
    refine ib_add (z := (((5 * n) + 2 : Nat) : Int)) hx hb dL_law_1213 (by omega) ?_
    refine st_i (y := iI ((5 * n + 2 : Nat) : Int)) (congrArg iI (by omega)) ?_
    refine va_sld (b := b) (L := L) (xs := xs) hx hb hX hbl hbA hS (iI_vp (i := 5 * n + 2) (by omega) (by omega)) dL_law_1214 ?_
    refine st_i (y := iI 1) ((congrArg xs (iI_cl (by omega))).trans e1) ?_
    refine lv_aload_n hx hb dL_law_1215 rfl (lv_at hl 3 rfl) ?_
    have hf9 : cells + 0 ≤ room_1.cells ∧ slots + 0 ≤ room_1.slots := ⟨by show cells + 0 ≤ 1036; omega, by show slots + 0 ≤ 8286; omega⟩
    have hP1 : va_P (dC, dI) vwCl [(o0, .inr (0, [.long (pk a0), .long (pk a1), .long (pkn q w), .int (iI ((w : Nat) : Int))])), (u0, .inl (cJ, 1, .inr (.inl (g))))] H := va_P_l (w1 := [(o0, .inr (0, [.long (pk a0), .long (pk a1), .long (pkn q w), .int (iI ((w : Nat) : Int))])), (u0, .inl (cJ, 1, .inr (.inl (g))))]) (w2 := [(m0, .inr (1, [.int th, .ref t0, .ref k0, .ref p0, .int (iI ((w : Nat) : Int))])), (t0, .inl (cI, 24, .inl (fun j => iI ((tb a0 a1 j : Nat) : Int)))), (k0, .inl (cI, 12, .inl (fun j => iI ((K j : Nat) : Int)))), (p0, .inl (cI, 12, .inl (fun j => iI ((q j : Nat) : Int))))]) hP
    have hD1 : va_D (LA s) [(o0, .inr (0, [.long (pk a0), .long (pk a1), .long (pkn q w), .int (iI ((w : Nat) : Int))])), (u0, .inl (cJ, 1, .inr (.inl (g))))] := va_D_l (w1 := [(o0, .inr (0, [.long (pk a0), .long (pk a1), .long (pkn q w), .int (iI ((w : Nat) : Int))])), (u0, .inl (cJ, 1, .inr (.inl (g))))]) (w2 := [(m0, .inr (1, [.int th, .ref t0, .ref k0, .ref p0, .int (iI ((w : Nat) : Int))])), (t0, .inl (cI, 24, .inl (fun j => iI ((tb a0 a1 j : Nat) : Int)))), (k0, .inl (cI, 12, .inl (fun j => iI ((K j : Nat) : Int)))), (p0, .inl (cI, 12, .inl (fun j => iI ((q j : Nat) : Int))))]) hD
    have hK1 := hK.sub (tys' := [(cJ, .long)]) [0] rfl
    refine wr_call (vx_runSW (As := [.ref o0, .int (iI ((r : Nat) : Int)), .int (iI 1), .ref u0]) (rest := []) ⟨hx, hb, hml, hown, hts⟩ (mL_isDerived_ok1 l dC dI cJ o0 u0 a0 a1 q w hp0 hp1 hw hq hqd g r (by omega)) (vx_cwSW 4 hts gL_law_L_isDerived rfl rfl rfl hdL_isDerived ⟨(Nat.le_of_ble_eq_true rfl), (Nat.le_of_ble_eq_true rfl)⟩) (bD_preS hK1 hP1 hD1) rfl rfl hl.1 rfl (lv_room (Nat.le_of_ble_eq_true rfl)) dL_law_1216 hf9) hS (fun q9 h => inW_A hD1 h) (fun H locs hPn hz hk hS => ?_)
    have hP : va_P (dC, dI) vwCl ([(o0, .inr (0, [.long (pk a0), .long (pk a1), .long (pkn q w), .int (iI ((w : Nat) : Int))])), (u0, .inl (cJ, 1, .inr (.inl (fun _ => (if alN (deB (rw_ r a0 a1) 1) 12 = true then (1 : Int64) else 0)))))] ++ [(m0, .inr (1, [.int th, .ref t0, .ref k0, .ref p0, .int (iI ((w : Nat) : Int))])), (t0, .inl (cI, 24, .inl (fun j => iI ((tb a0 a1 j : Nat) : Int)))), (k0, .inl (cI, 12, .inl (fun j => iI ((K j : Nat) : Int)))), (p0, .inl (cI, 12, .inl (fun j => iI ((q j : Nat) : Int))))]) H := wj_l (w1 := [(o0, .inr (0, [.long (pk a0), .long (pk a1), .long (pkn q w), .int (iI ((w : Nat) : Int))])), (u0, .inl (cJ, 1, .inr (.inl (g))))]) (w2 := [(m0, .inr (1, [.int th, .ref t0, .ref k0, .ref p0, .int (iI ((w : Nat) : Int))])), (t0, .inl (cI, 24, .inl (fun j => iI ((tb a0 a1 j : Nat) : Int)))), (k0, .inl (cI, 12, .inl (fun j => iI ((K j : Nat) : Int)))), (p0, .inl (cI, 12, .inl (fun j => iI ((q j : Nat) : Int))))]) (w1' := [(o0, .inr (0, [.long (pk a0), .long (pk a1), .long (pkn q w), .int (iI ((w : Nat) : Int))])), (u0, .inl (cJ, 1, .inr (.inl (fun _ => (if alN (deB (rw_ r a0 a1) 1) 12 = true then (1 : Int64) else 0)))))]) hP hD hPn hk
    have hD : va_D (LA s) ([(o0, .inr (0, [.long (pk a0), .long (pk a1), .long (pkn q w), .int (iI ((w : Nat) : Int))])), (u0, .inl (cJ, 1, .inr (.inl (fun _ => (if alN (deB (rw_ r a0 a1) 1) 12 = true then (1 : Int64) else 0)))))] ++ [(m0, .inr (1, [.int th, .ref t0, .ref k0, .ref p0, .int (iI ((w : Nat) : Int))])), (t0, .inl (cI, 24, .inl (fun j => iI ((tb a0 a1 j : Nat) : Int)))), (k0, .inl (cI, 12, .inl (fun j => iI ((K j : Nat) : Int)))), (p0, .inl (cI, 12, .inl (fun j => iI ((q j : Nat) : Int))))]) := va_D_same (w := ([(o0, .inr (0, [.long (pk a0), .long (pk a1), .long (pkn q w), .int (iI ((w : Nat) : Int))])), (u0, .inl (cJ, 1, .inr (.inl (g))))] ++ [(m0, .inr (1, [.int th, .ref t0, .ref k0, .ref p0, .int (iI ((w : Nat) : Int))])), (t0, .inl (cI, 24, .inl (fun j => iI ((tb a0 a1 j : Nat) : Int)))), (k0, .inl (cI, 12, .inl (fun j => iI ((K j : Nat) : Int)))), (p0, .inl (cI, 12, .inl (fun j => iI ((q j : Nat) : Int))))])) (Eq.trans (b := [o0, u0, m0, t0, k0, p0]) rfl rfl) hD
    refine va_forget hS.2.2 ?_
    have hS := va_S_nil hS
    refine W.widen (k := cells + 1) (n := slots + 6) (by omega) (by omega) ?_
    refine lv_istore (lv' := [(5, .int (iI 0)), (0, .ref b), (1, .ref o0), (2, .ref m0), (3, .ref u0), (4, .int (iI ((5 * n : Nat) : Int)))]) hx hb dL_law_1219 hl (by decide) rfl (fun ls hl => ?_)
    refine lv_aload_n hx hb dL_law_1221 rfl (lv_at hl 3 rfl) ?_
    refine lv_aload_n hx hb dL_law_1222 rfl (lv_at hl 1 rfl) ?_
    refine lv_iload hx hb dL_law_1223 (lv_at hl 5 rfl) ?_
    refine ib_const hx hb dL_law_1225 ?_
    refine ib_add (z := (((5 * n) + 1 : Nat) : Int)) hx hb dL_law_1226 (by omega) ?_
    refine st_i (y := iI ((5 * n + 1 : Nat) : Int)) (congrArg iI (by omega)) ?_
    refine va_sld (b := b) (L := L) (xs := xs) hx hb hX hbl hbA hS (iI_vp (i := 5 * n + 1) (by omega) (by omega)) dL_law_1227 ?_
    refine st_i (y := iI ((r : Nat) : Int)) ((congrArg xs (iI_cl (by omega))).trans e0) ?_
    refine lv_aload_n hx hb dL_law_1228 rfl (lv_at hl 1 rfl) ?_
    refine lv_iload hx hb dL_law_1229 (lv_at hl 5 rfl) ?_
    refine ib_const hx hb dL_law_1231 ?_
    refine ib_add (z := (((5 * n) + 2 : Nat) : Int)) hx hb dL_law_1232 (by omega) ?_
    refine st_i (y := iI ((5 * n + 2 : Nat) : Int)) (congrArg iI (by omega)) ?_
    refine va_sld (b := b) (L := L) (xs := xs) hx hb hX hbl hbA hS (iI_vp (i := 5 * n + 2) (by omega) (by omega)) dL_law_1233 ?_
    refine st_i (y := iI 1) ((congrArg xs (iI_cl (by omega))).trans e1) ?_
    have hP2 : va_P (dC, dI) vwCl [(m0, .inr (1, [.int th, .ref t0, .ref k0, .ref p0, .int (iI ((w : Nat) : Int))])), (t0, .inl (cI, 24, .inl (fun j => iI ((tb a0 a1 j : Nat) : Int)))), (k0, .inl (cI, 12, .inl (fun j => iI ((K j : Nat) : Int)))), (p0, .inl (cI, 12, .inl (fun j => iI ((q j : Nat) : Int))))] H := va_P_r (w1 := [(o0, .inr (0, [.long (pk a0), .long (pk a1), .long (pkn q w), .int (iI ((w : Nat) : Int))])), (u0, .inl (cJ, 1, .inr (.inl (fun _ => (if alN (deB (rw_ r a0 a1) 1) 12 = true then (1 : Int64) else 0)))))]) (w2 := [(m0, .inr (1, [.int th, .ref t0, .ref k0, .ref p0, .int (iI ((w : Nat) : Int))])), (t0, .inl (cI, 24, .inl (fun j => iI ((tb a0 a1 j : Nat) : Int)))), (k0, .inl (cI, 12, .inl (fun j => iI ((K j : Nat) : Int)))), (p0, .inl (cI, 12, .inl (fun j => iI ((q j : Nat) : Int))))]) hP
    have hK2 := hK.sub (tys' := [(cI, .int)]) [1] rfl
    have hf9 : cells + 1 + 0 ≤ room_1.cells ∧ slots + 6 + 0 ≤ room_1.slots := ⟨by show cells + 1 + 0 ≤ 1036; omega, by show slots + 6 + 0 ≤ 8286; omega⟩
    have hD2 : va_D (LA s) [(m0, .inr (1, [.int th, .ref t0, .ref k0, .ref p0, .int (iI ((w : Nat) : Int))])), (t0, .inl (cI, 24, .inl (fun j => iI ((tb a0 a1 j : Nat) : Int)))), (k0, .inl (cI, 12, .inl (fun j => iI ((K j : Nat) : Int)))), (p0, .inl (cI, 12, .inl (fun j => iI ((q j : Nat) : Int))))] := va_D_r (w1 := [(o0, .inr (0, [.long (pk a0), .long (pk a1), .long (pkn q w), .int (iI ((w : Nat) : Int))])), (u0, .inl (cJ, 1, .inr (.inl (fun _ => (if alN (deB (rw_ r a0 a1) 1) 12 = true then (1 : Int64) else 0)))))]) (w2 := [(m0, .inr (1, [.int th, .ref t0, .ref k0, .ref p0, .int (iI ((w : Nat) : Int))])), (t0, .inl (cI, 24, .inl (fun j => iI ((tb a0 a1 j : Nat) : Int)))), (k0, .inl (cI, 12, .inl (fun j => iI ((K j : Nat) : Int)))), (p0, .inl (cI, 12, .inl (fun j => iI ((q j : Nat) : Int))))]) hD
    refine wr_call (va_runV (As := [.int (iI ((r : Nat) : Int)), .int (iI 1)]) (rest := []) ⟨hx, hb, hml, hown, hts⟩ (mX1_isDerived_ok1 l dC dI cI m0 t0 k0 p0 a0 a1 K q th w hp0.1 hp1.1 hw hq r (by omega)) (cwV 2 hts gL_law_X1_isDerived rfl rfl rfl hvX1_isDerived ⟨(Nat.le_of_ble_eq_true rfl), (Nat.le_of_ble_eq_true rfl)⟩) (bD_pre (ci := 1) (q0 := 0) hK2 hP2 hD2 rfl rfl rfl) rfl rfl hl.1 rfl (lv_room (Nat.le_of_ble_eq_true rfl)) dL_law_1234 hf9) hS (fun q9 h => inW_A hD2 h) (fun H locs hPn hz hk hS => ?_)
    have hP : va_P (dC, dI) vwCl ([(o0, .inr (0, [.long (pk a0), .long (pk a1), .long (pkn q w), .int (iI ((w : Nat) : Int))])), (u0, .inl (cJ, 1, .inr (.inl (fun _ => (if alN (deB (rw_ r a0 a1) 1) 12 = true then (1 : Int64) else 0)))))] ++ [(m0, .inr (1, [.int (iI 0), .ref t0, .ref k0, .ref p0, .int (iI ((w : Nat) : Int))])), (t0, .inl (cI, 24, .inl (fun j => iI ((tb a0 a1 j : Nat) : Int)))), (k0, .inl (cI, 12, .inl (fun j => iI ((K j : Nat) : Int)))), (p0, .inl (cI, 12, .inl (fun j => iI ((q j : Nat) : Int))))]) H := wj_r (w1 := [(o0, .inr (0, [.long (pk a0), .long (pk a1), .long (pkn q w), .int (iI ((w : Nat) : Int))])), (u0, .inl (cJ, 1, .inr (.inl (fun _ => (if alN (deB (rw_ r a0 a1) 1) 12 = true then (1 : Int64) else 0)))))]) (w2 := [(m0, .inr (1, [.int th, .ref t0, .ref k0, .ref p0, .int (iI ((w : Nat) : Int))])), (t0, .inl (cI, 24, .inl (fun j => iI ((tb a0 a1 j : Nat) : Int)))), (k0, .inl (cI, 12, .inl (fun j => iI ((K j : Nat) : Int)))), (p0, .inl (cI, 12, .inl (fun j => iI ((q j : Nat) : Int))))]) (w2' := [(m0, .inr (1, [.int (iI 0), .ref t0, .ref k0, .ref p0, .int (iI ((w : Nat) : Int))])), (t0, .inl (cI, 24, .inl (fun j => iI ((tb a0 a1 j : Nat) : Int)))), (k0, .inl (cI, 12, .inl (fun j => iI ((K j : Nat) : Int)))), (p0, .inl (cI, 12, .inl (fun j => iI ((q j : Nat) : Int))))]) hP hD hPn hk
    have hD : va_D (LA s) ([(o0, .inr (0, [.long (pk a0), .long (pk a1), .long (pkn q w), .int (iI ((w : Nat) : Int))])), (u0, .inl (cJ, 1, .inr (.inl (fun _ => (if alN (deB (rw_ r a0 a1) 1) 12 = true then (1 : Int64) else 0)))))] ++ [(m0, .inr (1, [.int (iI 0), .ref t0, .ref k0, .ref p0, .int (iI ((w : Nat) : Int))])), (t0, .inl (cI, 24, .inl (fun j => iI ((tb a0 a1 j : Nat) : Int)))), (k0, .inl (cI, 12, .inl (fun j => iI ((K j : Nat) : Int)))), (p0, .inl (cI, 12, .inl (fun j => iI ((q j : Nat) : Int))))]) := va_D_same (w := ([(o0, .inr (0, [.long (pk a0), .long (pk a1), .long (pkn q w), .int (iI ((w : Nat) : Int))])), (u0, .inl (cJ, 1, .inr (.inl (fun _ => (if alN (deB (rw_ r a0 a1) 1) 12 = true then (1 : Int64) else 0)))))] ++ [(m0, .inr (1, [.int th, .ref t0, .ref k0, .ref p0, .int (iI ((w : Nat) : Int))])), (t0, .inl (cI, 24, .inl (fun j => iI ((tb a0 a1 j : Nat) : Int)))), (k0, .inl (cI, 12, .inl (fun j => iI ((K j : Nat) : Int)))), (p0, .inl (cI, 12, .inl (fun j => iI ((q j : Nat) : Int))))])) (Eq.trans (b := [o0, u0, m0, t0, k0, p0]) rfl rfl) hD
    refine va_forget hS.2.2 ?_
    have hS := va_S_nil hS
    refine lv_istore (lv' := [(6, .int (iI (bI (alN (deB (rw_ r a0 a1) 1) 12 = true)))), (5, .int (iI 0)), (0, .ref b), (1, .ref o0), (2, .ref m0), (3, .ref u0), (4, .int (iI ((5 * n : Nat) : Int)))]) hx hb dL_law_1237 hl (by decide) rfl (fun ls hl => ?_)
    refine lv_aload_n hx hb dL_law_1239 rfl (lv_at hl 4 rfl) ?_
    have hP2 : va_P (dC, dI) vwCl [(m0, .inr (1, [.int (iI 0), .ref t0, .ref k0, .ref p0, .int (iI ((w : Nat) : Int))])), (t0, .inl (cI, 24, .inl (fun j => iI ((tb a0 a1 j : Nat) : Int)))), (k0, .inl (cI, 12, .inl (fun j => iI ((K j : Nat) : Int)))), (p0, .inl (cI, 12, .inl (fun j => iI ((q j : Nat) : Int))))] H := va_P_r (w1 := [(o0, .inr (0, [.long (pk a0), .long (pk a1), .long (pkn q w), .int (iI ((w : Nat) : Int))])), (u0, .inl (cJ, 1, .inr (.inl (fun _ => (if alN (deB (rw_ r a0 a1) 1) 12 = true then (1 : Int64) else 0)))))]) (w2 := [(m0, .inr (1, [.int (iI 0), .ref t0, .ref k0, .ref p0, .int (iI ((w : Nat) : Int))])), (t0, .inl (cI, 24, .inl (fun j => iI ((tb a0 a1 j : Nat) : Int)))), (k0, .inl (cI, 12, .inl (fun j => iI ((K j : Nat) : Int)))), (p0, .inl (cI, 12, .inl (fun j => iI ((q j : Nat) : Int))))]) hP
    have hK2 := hK.sub (tys' := [(cI, .int)]) [1] rfl
    have hf9 : cells + 1 + 0 ≤ room_1.cells ∧ slots + 6 + 0 ≤ room_1.slots := ⟨by show cells + 1 + 0 ≤ 1036; omega, by show slots + 6 + 0 ≤ 8286; omega⟩
    refine rd_call (va_runV (As := []) (rest := []) ⟨hx, hb, hml, hown, hts⟩ (mX1_thrown l dC dI cI m0 t0 k0 p0 a0 a1 K q (iI 0) w hp0.1 hp1.1 hw hq) (cwV 0 hts gL_law_X1_thrown rfl rfl rfl hvX1_thrown ⟨(Nat.le_of_ble_eq_true rfl), (Nat.le_of_ble_eq_true rfl)⟩) (bW_pre (ci := 1) (q0 := 0) hK2 hP2 rfl rfl rfl) rfl rfl hl.1 rfl (lv_room (Nat.le_of_ble_eq_true rfl)) dL_law_1240 hf9) ?_
    refine lv_iload hx hb dL_law_1243 (lv_at hl 1 rfl) ?_
    refine ib_icmp_eq (tgt := 1250) hx hb dL_law_1245 (by decide) ⟨by omega, by omega⟩ ⟨by omega, by omega⟩ (fun c_1245 => ?_) (fun c_1245 => absurd c_1245 (by decide))
    refine lv_iload hx hb dL_law_1250 (lv_at hl 1 rfl) ?_
    refine ib_if_ne (tgt := 1274) hx hb dL_law_1252 (by decide) ⟨by omega, by omega⟩ (fun c_1252 => absurd c_1252 (by decide)) (fun c_1252 => ?_)
    refine lv_aload_n hx hb dL_law_1255 rfl (lv_at hl 5 rfl) ?_
    refine ib_const hx hb dL_law_1256 ?_
    refine va_lald hx hb hK hP 1 0 rfl rfl vp0 dL_law_1257 ?_
    refine st_l (y := (if alN (deB (rw_ r a0 a1) 1) 12 = true then (1 : Int64) else 0)) rfl ?_
    refine lv_iload hx hb dL_law_1258 (lv_at hl 0 rfl) ?_
    refine bb_eq (tgt := 1267) hx hb dL_law_1260 (by decide) (fun c_1260 => ?_) (fun c_1260 => ?_)
    · skip
      refine lv_lconst (v := 0) hx hb dL_law_1267 (by decide) ?_
      refine W.lcmp hx hb dL_law_1268 ?_
      refine bl_eq (tgt := 1274) hx hb dL_law_1269 (by decide) (fun _ => ?_) (fun h => absurd (if_neg c_1260) h)
      refine lv_goto (tgt := 1833) hx hb dL_law_1274 (by decide) ?_
      exact kk a0 a1 q K w (iI 0) (fun _ => (if alN (deB (rw_ r a0 a1) 1) 12 = true then (1 : Int64) else 0)) H ls ⟨hp0, hp1, hw, hq, hqd, hP, hD, hS⟩ (lv_sub hl [2, 3, 4, 5, 6] rfl)
    · skip
      refine lv_lconst (v := 1) hx hb dL_law_1263 (by decide) ?_
      refine lv_goto (tgt := 1268) hx hb dL_law_1264 (by decide) ?_
      refine W.lcmp hx hb dL_law_1268 ?_
      refine bl_eq (tgt := 1274) hx hb dL_law_1269 (by decide) (fun _ => ?_) (fun h => absurd (if_pos c_1260) h)
      refine lv_goto (tgt := 1833) hx hb dL_law_1274 (by decide) ?_
      exact kk a0 a1 q K w (iI 0) (fun _ => (if alN (deB (rw_ r a0 a1) 1) 12 = true then (1 : Int64) else 0)) H ls ⟨hp0, hp1, hw, hq, hqd, hP, hD, hS⟩ (lv_sub hl [2, 3, 4, 5, 6] rfl)
  · skip
    obtain ⟨r, hn0, rfl⟩ := nat_of (z := z0) (k := 4095) (by omega)
    refine lv_aload_n hx hb dL_law_1202 rfl (lv_at hl 1 rfl) ?_
    refine lv_aload_n hx hb dL_law_1203 rfl (lv_at hl 0 rfl) ?_
    refine lv_iload hx hb dL_law_1204 (lv_at hl 4 rfl) ?_
    refine ib_const hx hb dL_law_1206 ?_
    refine ib_add (z := (((5 * n) + 1 : Nat) : Int)) hx hb dL_law_1207 (by omega) ?_
    refine st_i (y := iI ((5 * n + 1 : Nat) : Int)) (congrArg iI (by omega)) ?_
    refine va_sld (b := b) (L := L) (xs := xs) hx hb hX hbl hbA hS (iI_vp (i := 5 * n + 1) (by omega) (by omega)) dL_law_1208 ?_
    refine st_i (y := iI ((r : Nat) : Int)) ((congrArg xs (iI_cl (by omega))).trans e0) ?_
    refine lv_aload_n hx hb dL_law_1209 rfl (lv_at hl 0 rfl) ?_
    refine lv_iload hx hb dL_law_1210 (lv_at hl 4 rfl) ?_
    refine ib_const hx hb dL_law_1212 ?_
    refine ib_add (z := (((5 * n) + 2 : Nat) : Int)) hx hb dL_law_1213 (by omega) ?_
    refine st_i (y := iI ((5 * n + 2 : Nat) : Int)) (congrArg iI (by omega)) ?_
    refine va_sld (b := b) (L := L) (xs := xs) hx hb hX hbl hbA hS (iI_vp (i := 5 * n + 2) (by omega) (by omega)) dL_law_1214 ?_
    refine st_i (y := iI 2) ((congrArg xs (iI_cl (by omega))).trans e1) ?_
    refine lv_aload_n hx hb dL_law_1215 rfl (lv_at hl 3 rfl) ?_
    have hf9 : cells + 0 ≤ room_1.cells ∧ slots + 0 ≤ room_1.slots := ⟨by show cells + 0 ≤ 1036; omega, by show slots + 0 ≤ 8286; omega⟩
    have hP1 : va_P (dC, dI) vwCl [(o0, .inr (0, [.long (pk a0), .long (pk a1), .long (pkn q w), .int (iI ((w : Nat) : Int))])), (u0, .inl (cJ, 1, .inr (.inl (g))))] H := va_P_l (w1 := [(o0, .inr (0, [.long (pk a0), .long (pk a1), .long (pkn q w), .int (iI ((w : Nat) : Int))])), (u0, .inl (cJ, 1, .inr (.inl (g))))]) (w2 := [(m0, .inr (1, [.int th, .ref t0, .ref k0, .ref p0, .int (iI ((w : Nat) : Int))])), (t0, .inl (cI, 24, .inl (fun j => iI ((tb a0 a1 j : Nat) : Int)))), (k0, .inl (cI, 12, .inl (fun j => iI ((K j : Nat) : Int)))), (p0, .inl (cI, 12, .inl (fun j => iI ((q j : Nat) : Int))))]) hP
    have hD1 : va_D (LA s) [(o0, .inr (0, [.long (pk a0), .long (pk a1), .long (pkn q w), .int (iI ((w : Nat) : Int))])), (u0, .inl (cJ, 1, .inr (.inl (g))))] := va_D_l (w1 := [(o0, .inr (0, [.long (pk a0), .long (pk a1), .long (pkn q w), .int (iI ((w : Nat) : Int))])), (u0, .inl (cJ, 1, .inr (.inl (g))))]) (w2 := [(m0, .inr (1, [.int th, .ref t0, .ref k0, .ref p0, .int (iI ((w : Nat) : Int))])), (t0, .inl (cI, 24, .inl (fun j => iI ((tb a0 a1 j : Nat) : Int)))), (k0, .inl (cI, 12, .inl (fun j => iI ((K j : Nat) : Int)))), (p0, .inl (cI, 12, .inl (fun j => iI ((q j : Nat) : Int))))]) hD
    have hK1 := hK.sub (tys' := [(cJ, .long)]) [0] rfl
    refine wr_call (vx_runSW (As := [.ref o0, .int (iI ((r : Nat) : Int)), .int (iI 2), .ref u0]) (rest := []) ⟨hx, hb, hml, hown, hts⟩ (mL_isDerived_ok2 l dC dI cJ o0 u0 a0 a1 q w hp0 hp1 hw hq hqd g r (by omega)) (vx_cwSW 4 hts gL_law_L_isDerived rfl rfl rfl hdL_isDerived ⟨(Nat.le_of_ble_eq_true rfl), (Nat.le_of_ble_eq_true rfl)⟩) (bD_preS hK1 hP1 hD1) rfl rfl hl.1 rfl (lv_room (Nat.le_of_ble_eq_true rfl)) dL_law_1216 hf9) hS (fun q9 h => inW_A hD1 h) (fun H locs hPn hz hk hS => ?_)
    have hP : va_P (dC, dI) vwCl ([(o0, .inr (0, [.long (pk a0), .long (pk a1), .long (pkn q w), .int (iI ((w : Nat) : Int))])), (u0, .inl (cJ, 1, .inr (.inl (fun _ => (if alN (deB (rw_ r a0 a1) 2) 6 = true then (1 : Int64) else 0)))))] ++ [(m0, .inr (1, [.int th, .ref t0, .ref k0, .ref p0, .int (iI ((w : Nat) : Int))])), (t0, .inl (cI, 24, .inl (fun j => iI ((tb a0 a1 j : Nat) : Int)))), (k0, .inl (cI, 12, .inl (fun j => iI ((K j : Nat) : Int)))), (p0, .inl (cI, 12, .inl (fun j => iI ((q j : Nat) : Int))))]) H := wj_l (w1 := [(o0, .inr (0, [.long (pk a0), .long (pk a1), .long (pkn q w), .int (iI ((w : Nat) : Int))])), (u0, .inl (cJ, 1, .inr (.inl (g))))]) (w2 := [(m0, .inr (1, [.int th, .ref t0, .ref k0, .ref p0, .int (iI ((w : Nat) : Int))])), (t0, .inl (cI, 24, .inl (fun j => iI ((tb a0 a1 j : Nat) : Int)))), (k0, .inl (cI, 12, .inl (fun j => iI ((K j : Nat) : Int)))), (p0, .inl (cI, 12, .inl (fun j => iI ((q j : Nat) : Int))))]) (w1' := [(o0, .inr (0, [.long (pk a0), .long (pk a1), .long (pkn q w), .int (iI ((w : Nat) : Int))])), (u0, .inl (cJ, 1, .inr (.inl (fun _ => (if alN (deB (rw_ r a0 a1) 2) 6 = true then (1 : Int64) else 0)))))]) hP hD hPn hk
    have hD : va_D (LA s) ([(o0, .inr (0, [.long (pk a0), .long (pk a1), .long (pkn q w), .int (iI ((w : Nat) : Int))])), (u0, .inl (cJ, 1, .inr (.inl (fun _ => (if alN (deB (rw_ r a0 a1) 2) 6 = true then (1 : Int64) else 0)))))] ++ [(m0, .inr (1, [.int th, .ref t0, .ref k0, .ref p0, .int (iI ((w : Nat) : Int))])), (t0, .inl (cI, 24, .inl (fun j => iI ((tb a0 a1 j : Nat) : Int)))), (k0, .inl (cI, 12, .inl (fun j => iI ((K j : Nat) : Int)))), (p0, .inl (cI, 12, .inl (fun j => iI ((q j : Nat) : Int))))]) := va_D_same (w := ([(o0, .inr (0, [.long (pk a0), .long (pk a1), .long (pkn q w), .int (iI ((w : Nat) : Int))])), (u0, .inl (cJ, 1, .inr (.inl (g))))] ++ [(m0, .inr (1, [.int th, .ref t0, .ref k0, .ref p0, .int (iI ((w : Nat) : Int))])), (t0, .inl (cI, 24, .inl (fun j => iI ((tb a0 a1 j : Nat) : Int)))), (k0, .inl (cI, 12, .inl (fun j => iI ((K j : Nat) : Int)))), (p0, .inl (cI, 12, .inl (fun j => iI ((q j : Nat) : Int))))])) (Eq.trans (b := [o0, u0, m0, t0, k0, p0]) rfl rfl) hD
    refine va_forget hS.2.2 ?_
    have hS := va_S_nil hS
    refine W.widen (k := cells + 1) (n := slots + 6) (by omega) (by omega) ?_
    refine lv_istore (lv' := [(5, .int (iI 0)), (0, .ref b), (1, .ref o0), (2, .ref m0), (3, .ref u0), (4, .int (iI ((5 * n : Nat) : Int)))]) hx hb dL_law_1219 hl (by decide) rfl (fun ls hl => ?_)
    refine lv_aload_n hx hb dL_law_1221 rfl (lv_at hl 3 rfl) ?_
    refine lv_aload_n hx hb dL_law_1222 rfl (lv_at hl 1 rfl) ?_
    refine lv_iload hx hb dL_law_1223 (lv_at hl 5 rfl) ?_
    refine ib_const hx hb dL_law_1225 ?_
    refine ib_add (z := (((5 * n) + 1 : Nat) : Int)) hx hb dL_law_1226 (by omega) ?_
    refine st_i (y := iI ((5 * n + 1 : Nat) : Int)) (congrArg iI (by omega)) ?_
    refine va_sld (b := b) (L := L) (xs := xs) hx hb hX hbl hbA hS (iI_vp (i := 5 * n + 1) (by omega) (by omega)) dL_law_1227 ?_
    refine st_i (y := iI ((r : Nat) : Int)) ((congrArg xs (iI_cl (by omega))).trans e0) ?_
    refine lv_aload_n hx hb dL_law_1228 rfl (lv_at hl 1 rfl) ?_
    refine lv_iload hx hb dL_law_1229 (lv_at hl 5 rfl) ?_
    refine ib_const hx hb dL_law_1231 ?_
    refine ib_add (z := (((5 * n) + 2 : Nat) : Int)) hx hb dL_law_1232 (by omega) ?_
    refine st_i (y := iI ((5 * n + 2 : Nat) : Int)) (congrArg iI (by omega)) ?_
    refine va_sld (b := b) (L := L) (xs := xs) hx hb hX hbl hbA hS (iI_vp (i := 5 * n + 2) (by omega) (by omega)) dL_law_1233 ?_
    refine st_i (y := iI 2) ((congrArg xs (iI_cl (by omega))).trans e1) ?_
    have hP2 : va_P (dC, dI) vwCl [(m0, .inr (1, [.int th, .ref t0, .ref k0, .ref p0, .int (iI ((w : Nat) : Int))])), (t0, .inl (cI, 24, .inl (fun j => iI ((tb a0 a1 j : Nat) : Int)))), (k0, .inl (cI, 12, .inl (fun j => iI ((K j : Nat) : Int)))), (p0, .inl (cI, 12, .inl (fun j => iI ((q j : Nat) : Int))))] H := va_P_r (w1 := [(o0, .inr (0, [.long (pk a0), .long (pk a1), .long (pkn q w), .int (iI ((w : Nat) : Int))])), (u0, .inl (cJ, 1, .inr (.inl (fun _ => (if alN (deB (rw_ r a0 a1) 2) 6 = true then (1 : Int64) else 0)))))]) (w2 := [(m0, .inr (1, [.int th, .ref t0, .ref k0, .ref p0, .int (iI ((w : Nat) : Int))])), (t0, .inl (cI, 24, .inl (fun j => iI ((tb a0 a1 j : Nat) : Int)))), (k0, .inl (cI, 12, .inl (fun j => iI ((K j : Nat) : Int)))), (p0, .inl (cI, 12, .inl (fun j => iI ((q j : Nat) : Int))))]) hP
    have hK2 := hK.sub (tys' := [(cI, .int)]) [1] rfl
    have hf9 : cells + 1 + 0 ≤ room_1.cells ∧ slots + 6 + 0 ≤ room_1.slots := ⟨by show cells + 1 + 0 ≤ 1036; omega, by show slots + 6 + 0 ≤ 8286; omega⟩
    have hD2 : va_D (LA s) [(m0, .inr (1, [.int th, .ref t0, .ref k0, .ref p0, .int (iI ((w : Nat) : Int))])), (t0, .inl (cI, 24, .inl (fun j => iI ((tb a0 a1 j : Nat) : Int)))), (k0, .inl (cI, 12, .inl (fun j => iI ((K j : Nat) : Int)))), (p0, .inl (cI, 12, .inl (fun j => iI ((q j : Nat) : Int))))] := va_D_r (w1 := [(o0, .inr (0, [.long (pk a0), .long (pk a1), .long (pkn q w), .int (iI ((w : Nat) : Int))])), (u0, .inl (cJ, 1, .inr (.inl (fun _ => (if alN (deB (rw_ r a0 a1) 2) 6 = true then (1 : Int64) else 0)))))]) (w2 := [(m0, .inr (1, [.int th, .ref t0, .ref k0, .ref p0, .int (iI ((w : Nat) : Int))])), (t0, .inl (cI, 24, .inl (fun j => iI ((tb a0 a1 j : Nat) : Int)))), (k0, .inl (cI, 12, .inl (fun j => iI ((K j : Nat) : Int)))), (p0, .inl (cI, 12, .inl (fun j => iI ((q j : Nat) : Int))))]) hD
    refine wr_call (va_runV (As := [.int (iI ((r : Nat) : Int)), .int (iI 2)]) (rest := []) ⟨hx, hb, hml, hown, hts⟩ (mX1_isDerived_ok2 l dC dI cI m0 t0 k0 p0 a0 a1 K q th w hp0.1 hp1.1 hw hq r (by omega)) (cwV 2 hts gL_law_X1_isDerived rfl rfl rfl hvX1_isDerived ⟨(Nat.le_of_ble_eq_true rfl), (Nat.le_of_ble_eq_true rfl)⟩) (bD_pre (ci := 1) (q0 := 0) hK2 hP2 hD2 rfl rfl rfl) rfl rfl hl.1 rfl (lv_room (Nat.le_of_ble_eq_true rfl)) dL_law_1234 hf9) hS (fun q9 h => inW_A hD2 h) (fun H locs hPn hz hk hS => ?_)
    have hP : va_P (dC, dI) vwCl ([(o0, .inr (0, [.long (pk a0), .long (pk a1), .long (pkn q w), .int (iI ((w : Nat) : Int))])), (u0, .inl (cJ, 1, .inr (.inl (fun _ => (if alN (deB (rw_ r a0 a1) 2) 6 = true then (1 : Int64) else 0)))))] ++ [(m0, .inr (1, [.int (iI 0), .ref t0, .ref k0, .ref p0, .int (iI ((w : Nat) : Int))])), (t0, .inl (cI, 24, .inl (fun j => iI ((tb a0 a1 j : Nat) : Int)))), (k0, .inl (cI, 12, .inl (fun j => iI ((K j : Nat) : Int)))), (p0, .inl (cI, 12, .inl (fun j => iI ((q j : Nat) : Int))))]) H := wj_r (w1 := [(o0, .inr (0, [.long (pk a0), .long (pk a1), .long (pkn q w), .int (iI ((w : Nat) : Int))])), (u0, .inl (cJ, 1, .inr (.inl (fun _ => (if alN (deB (rw_ r a0 a1) 2) 6 = true then (1 : Int64) else 0)))))]) (w2 := [(m0, .inr (1, [.int th, .ref t0, .ref k0, .ref p0, .int (iI ((w : Nat) : Int))])), (t0, .inl (cI, 24, .inl (fun j => iI ((tb a0 a1 j : Nat) : Int)))), (k0, .inl (cI, 12, .inl (fun j => iI ((K j : Nat) : Int)))), (p0, .inl (cI, 12, .inl (fun j => iI ((q j : Nat) : Int))))]) (w2' := [(m0, .inr (1, [.int (iI 0), .ref t0, .ref k0, .ref p0, .int (iI ((w : Nat) : Int))])), (t0, .inl (cI, 24, .inl (fun j => iI ((tb a0 a1 j : Nat) : Int)))), (k0, .inl (cI, 12, .inl (fun j => iI ((K j : Nat) : Int)))), (p0, .inl (cI, 12, .inl (fun j => iI ((q j : Nat) : Int))))]) hP hD hPn hk
    have hD : va_D (LA s) ([(o0, .inr (0, [.long (pk a0), .long (pk a1), .long (pkn q w), .int (iI ((w : Nat) : Int))])), (u0, .inl (cJ, 1, .inr (.inl (fun _ => (if alN (deB (rw_ r a0 a1) 2) 6 = true then (1 : Int64) else 0)))))] ++ [(m0, .inr (1, [.int (iI 0), .ref t0, .ref k0, .ref p0, .int (iI ((w : Nat) : Int))])), (t0, .inl (cI, 24, .inl (fun j => iI ((tb a0 a1 j : Nat) : Int)))), (k0, .inl (cI, 12, .inl (fun j => iI ((K j : Nat) : Int)))), (p0, .inl (cI, 12, .inl (fun j => iI ((q j : Nat) : Int))))]) := va_D_same (w := ([(o0, .inr (0, [.long (pk a0), .long (pk a1), .long (pkn q w), .int (iI ((w : Nat) : Int))])), (u0, .inl (cJ, 1, .inr (.inl (fun _ => (if alN (deB (rw_ r a0 a1) 2) 6 = true then (1 : Int64) else 0)))))] ++ [(m0, .inr (1, [.int th, .ref t0, .ref k0, .ref p0, .int (iI ((w : Nat) : Int))])), (t0, .inl (cI, 24, .inl (fun j => iI ((tb a0 a1 j : Nat) : Int)))), (k0, .inl (cI, 12, .inl (fun j => iI ((K j : Nat) : Int)))), (p0, .inl (cI, 12, .inl (fun j => iI ((q j : Nat) : Int))))])) (Eq.trans (b := [o0, u0, m0, t0, k0, p0]) rfl rfl) hD
    refine va_forget hS.2.2 ?_
    have hS := va_S_nil hS
    refine lv_istore (lv' := [(6, .int (iI (bI (alN (deB (rw_ r a0 a1) 2) 6 = true)))), (5, .int (iI 0)), (0, .ref b), (1, .ref o0), (2, .ref m0), (3, .ref u0), (4, .int (iI ((5 * n : Nat) : Int)))]) hx hb dL_law_1237 hl (by decide) rfl (fun ls hl => ?_)
    refine lv_aload_n hx hb dL_law_1239 rfl (lv_at hl 4 rfl) ?_
    have hP2 : va_P (dC, dI) vwCl [(m0, .inr (1, [.int (iI 0), .ref t0, .ref k0, .ref p0, .int (iI ((w : Nat) : Int))])), (t0, .inl (cI, 24, .inl (fun j => iI ((tb a0 a1 j : Nat) : Int)))), (k0, .inl (cI, 12, .inl (fun j => iI ((K j : Nat) : Int)))), (p0, .inl (cI, 12, .inl (fun j => iI ((q j : Nat) : Int))))] H := va_P_r (w1 := [(o0, .inr (0, [.long (pk a0), .long (pk a1), .long (pkn q w), .int (iI ((w : Nat) : Int))])), (u0, .inl (cJ, 1, .inr (.inl (fun _ => (if alN (deB (rw_ r a0 a1) 2) 6 = true then (1 : Int64) else 0)))))]) (w2 := [(m0, .inr (1, [.int (iI 0), .ref t0, .ref k0, .ref p0, .int (iI ((w : Nat) : Int))])), (t0, .inl (cI, 24, .inl (fun j => iI ((tb a0 a1 j : Nat) : Int)))), (k0, .inl (cI, 12, .inl (fun j => iI ((K j : Nat) : Int)))), (p0, .inl (cI, 12, .inl (fun j => iI ((q j : Nat) : Int))))]) hP
    have hK2 := hK.sub (tys' := [(cI, .int)]) [1] rfl
    have hf9 : cells + 1 + 0 ≤ room_1.cells ∧ slots + 6 + 0 ≤ room_1.slots := ⟨by show cells + 1 + 0 ≤ 1036; omega, by show slots + 6 + 0 ≤ 8286; omega⟩
    refine rd_call (va_runV (As := []) (rest := []) ⟨hx, hb, hml, hown, hts⟩ (mX1_thrown l dC dI cI m0 t0 k0 p0 a0 a1 K q (iI 0) w hp0.1 hp1.1 hw hq) (cwV 0 hts gL_law_X1_thrown rfl rfl rfl hvX1_thrown ⟨(Nat.le_of_ble_eq_true rfl), (Nat.le_of_ble_eq_true rfl)⟩) (bW_pre (ci := 1) (q0 := 0) hK2 hP2 rfl rfl rfl) rfl rfl hl.1 rfl (lv_room (Nat.le_of_ble_eq_true rfl)) dL_law_1240 hf9) ?_
    refine lv_iload hx hb dL_law_1243 (lv_at hl 1 rfl) ?_
    refine ib_icmp_eq (tgt := 1250) hx hb dL_law_1245 (by decide) ⟨by omega, by omega⟩ ⟨by omega, by omega⟩ (fun c_1245 => ?_) (fun c_1245 => absurd c_1245 (by decide))
    refine lv_iload hx hb dL_law_1250 (lv_at hl 1 rfl) ?_
    refine ib_if_ne (tgt := 1274) hx hb dL_law_1252 (by decide) ⟨by omega, by omega⟩ (fun c_1252 => absurd c_1252 (by decide)) (fun c_1252 => ?_)
    refine lv_aload_n hx hb dL_law_1255 rfl (lv_at hl 5 rfl) ?_
    refine ib_const hx hb dL_law_1256 ?_
    refine va_lald hx hb hK hP 1 0 rfl rfl vp0 dL_law_1257 ?_
    refine st_l (y := (if alN (deB (rw_ r a0 a1) 2) 6 = true then (1 : Int64) else 0)) rfl ?_
    refine lv_iload hx hb dL_law_1258 (lv_at hl 0 rfl) ?_
    refine bb_eq (tgt := 1267) hx hb dL_law_1260 (by decide) (fun c_1260 => ?_) (fun c_1260 => ?_)
    · skip
      refine lv_lconst (v := 0) hx hb dL_law_1267 (by decide) ?_
      refine W.lcmp hx hb dL_law_1268 ?_
      refine bl_eq (tgt := 1274) hx hb dL_law_1269 (by decide) (fun _ => ?_) (fun h => absurd (if_neg c_1260) h)
      refine lv_goto (tgt := 1833) hx hb dL_law_1274 (by decide) ?_
      exact kk a0 a1 q K w (iI 0) (fun _ => (if alN (deB (rw_ r a0 a1) 2) 6 = true then (1 : Int64) else 0)) H ls ⟨hp0, hp1, hw, hq, hqd, hP, hD, hS⟩ (lv_sub hl [2, 3, 4, 5, 6] rfl)
    · skip
      refine lv_lconst (v := 1) hx hb dL_law_1263 (by decide) ?_
      refine lv_goto (tgt := 1268) hx hb dL_law_1264 (by decide) ?_
      refine W.lcmp hx hb dL_law_1268 ?_
      refine bl_eq (tgt := 1274) hx hb dL_law_1269 (by decide) (fun _ => ?_) (fun h => absurd (if_pos c_1260) h)
      refine lv_goto (tgt := 1833) hx hb dL_law_1274 (by decide) ?_
      exact kk a0 a1 q K w (iI 0) (fun _ => (if alN (deB (rw_ r a0 a1) 2) 6 = true then (1 : Int64) else 0)) H ls ⟨hp0, hp1, hw, hq, hqd, hP, hD, hS⟩ (lv_sub hl [2, 3, 4, 5, 6] rfl)
  · skip
    obtain ⟨r, hn0, rfl⟩ := nat_of (z := z0) (k := 4095) (by omega)
    refine lv_aload_n hx hb dL_law_1202 rfl (lv_at hl 1 rfl) ?_
    refine lv_aload_n hx hb dL_law_1203 rfl (lv_at hl 0 rfl) ?_
    refine lv_iload hx hb dL_law_1204 (lv_at hl 4 rfl) ?_
    refine ib_const hx hb dL_law_1206 ?_
    refine ib_add (z := (((5 * n) + 1 : Nat) : Int)) hx hb dL_law_1207 (by omega) ?_
    refine st_i (y := iI ((5 * n + 1 : Nat) : Int)) (congrArg iI (by omega)) ?_
    refine va_sld (b := b) (L := L) (xs := xs) hx hb hX hbl hbA hS (iI_vp (i := 5 * n + 1) (by omega) (by omega)) dL_law_1208 ?_
    refine st_i (y := iI ((r : Nat) : Int)) ((congrArg xs (iI_cl (by omega))).trans e0) ?_
    refine lv_aload_n hx hb dL_law_1209 rfl (lv_at hl 0 rfl) ?_
    refine lv_iload hx hb dL_law_1210 (lv_at hl 4 rfl) ?_
    refine ib_const hx hb dL_law_1212 ?_
    refine ib_add (z := (((5 * n) + 2 : Nat) : Int)) hx hb dL_law_1213 (by omega) ?_
    refine st_i (y := iI ((5 * n + 2 : Nat) : Int)) (congrArg iI (by omega)) ?_
    refine va_sld (b := b) (L := L) (xs := xs) hx hb hX hbl hbA hS (iI_vp (i := 5 * n + 2) (by omega) (by omega)) dL_law_1214 ?_
    refine st_i (y := iI 3) ((congrArg xs (iI_cl (by omega))).trans e1) ?_
    refine lv_aload_n hx hb dL_law_1215 rfl (lv_at hl 3 rfl) ?_
    have hf9 : cells + 0 ≤ room_1.cells ∧ slots + 0 ≤ room_1.slots := ⟨by show cells + 0 ≤ 1036; omega, by show slots + 0 ≤ 8286; omega⟩
    have hP1 : va_P (dC, dI) vwCl [(o0, .inr (0, [.long (pk a0), .long (pk a1), .long (pkn q w), .int (iI ((w : Nat) : Int))])), (u0, .inl (cJ, 1, .inr (.inl (g))))] H := va_P_l (w1 := [(o0, .inr (0, [.long (pk a0), .long (pk a1), .long (pkn q w), .int (iI ((w : Nat) : Int))])), (u0, .inl (cJ, 1, .inr (.inl (g))))]) (w2 := [(m0, .inr (1, [.int th, .ref t0, .ref k0, .ref p0, .int (iI ((w : Nat) : Int))])), (t0, .inl (cI, 24, .inl (fun j => iI ((tb a0 a1 j : Nat) : Int)))), (k0, .inl (cI, 12, .inl (fun j => iI ((K j : Nat) : Int)))), (p0, .inl (cI, 12, .inl (fun j => iI ((q j : Nat) : Int))))]) hP
    have hD1 : va_D (LA s) [(o0, .inr (0, [.long (pk a0), .long (pk a1), .long (pkn q w), .int (iI ((w : Nat) : Int))])), (u0, .inl (cJ, 1, .inr (.inl (g))))] := va_D_l (w1 := [(o0, .inr (0, [.long (pk a0), .long (pk a1), .long (pkn q w), .int (iI ((w : Nat) : Int))])), (u0, .inl (cJ, 1, .inr (.inl (g))))]) (w2 := [(m0, .inr (1, [.int th, .ref t0, .ref k0, .ref p0, .int (iI ((w : Nat) : Int))])), (t0, .inl (cI, 24, .inl (fun j => iI ((tb a0 a1 j : Nat) : Int)))), (k0, .inl (cI, 12, .inl (fun j => iI ((K j : Nat) : Int)))), (p0, .inl (cI, 12, .inl (fun j => iI ((q j : Nat) : Int))))]) hD
    have hK1 := hK.sub (tys' := [(cJ, .long)]) [0] rfl
    refine wr_call (vx_runSW (As := [.ref o0, .int (iI ((r : Nat) : Int)), .int (iI 3), .ref u0]) (rest := []) ⟨hx, hb, hml, hown, hts⟩ (mL_isDerived_ok3 l dC dI cJ o0 u0 a0 a1 q w hp0 hp1 hw hq hqd g r (by omega)) (vx_cwSW 4 hts gL_law_L_isDerived rfl rfl rfl hdL_isDerived ⟨(Nat.le_of_ble_eq_true rfl), (Nat.le_of_ble_eq_true rfl)⟩) (bD_preS hK1 hP1 hD1) rfl rfl hl.1 rfl (lv_room (Nat.le_of_ble_eq_true rfl)) dL_law_1216 hf9) hS (fun q9 h => inW_A hD1 h) (fun H locs hPn hz hk hS => ?_)
    have hP : va_P (dC, dI) vwCl ([(o0, .inr (0, [.long (pk a0), .long (pk a1), .long (pkn q w), .int (iI ((w : Nat) : Int))])), (u0, .inl (cJ, 1, .inr (.inl (fun _ => (if alN (deB (rw_ r a0 a1) 3) 4 = true then (1 : Int64) else 0)))))] ++ [(m0, .inr (1, [.int th, .ref t0, .ref k0, .ref p0, .int (iI ((w : Nat) : Int))])), (t0, .inl (cI, 24, .inl (fun j => iI ((tb a0 a1 j : Nat) : Int)))), (k0, .inl (cI, 12, .inl (fun j => iI ((K j : Nat) : Int)))), (p0, .inl (cI, 12, .inl (fun j => iI ((q j : Nat) : Int))))]) H := wj_l (w1 := [(o0, .inr (0, [.long (pk a0), .long (pk a1), .long (pkn q w), .int (iI ((w : Nat) : Int))])), (u0, .inl (cJ, 1, .inr (.inl (g))))]) (w2 := [(m0, .inr (1, [.int th, .ref t0, .ref k0, .ref p0, .int (iI ((w : Nat) : Int))])), (t0, .inl (cI, 24, .inl (fun j => iI ((tb a0 a1 j : Nat) : Int)))), (k0, .inl (cI, 12, .inl (fun j => iI ((K j : Nat) : Int)))), (p0, .inl (cI, 12, .inl (fun j => iI ((q j : Nat) : Int))))]) (w1' := [(o0, .inr (0, [.long (pk a0), .long (pk a1), .long (pkn q w), .int (iI ((w : Nat) : Int))])), (u0, .inl (cJ, 1, .inr (.inl (fun _ => (if alN (deB (rw_ r a0 a1) 3) 4 = true then (1 : Int64) else 0)))))]) hP hD hPn hk
    have hD : va_D (LA s) ([(o0, .inr (0, [.long (pk a0), .long (pk a1), .long (pkn q w), .int (iI ((w : Nat) : Int))])), (u0, .inl (cJ, 1, .inr (.inl (fun _ => (if alN (deB (rw_ r a0 a1) 3) 4 = true then (1 : Int64) else 0)))))] ++ [(m0, .inr (1, [.int th, .ref t0, .ref k0, .ref p0, .int (iI ((w : Nat) : Int))])), (t0, .inl (cI, 24, .inl (fun j => iI ((tb a0 a1 j : Nat) : Int)))), (k0, .inl (cI, 12, .inl (fun j => iI ((K j : Nat) : Int)))), (p0, .inl (cI, 12, .inl (fun j => iI ((q j : Nat) : Int))))]) := va_D_same (w := ([(o0, .inr (0, [.long (pk a0), .long (pk a1), .long (pkn q w), .int (iI ((w : Nat) : Int))])), (u0, .inl (cJ, 1, .inr (.inl (g))))] ++ [(m0, .inr (1, [.int th, .ref t0, .ref k0, .ref p0, .int (iI ((w : Nat) : Int))])), (t0, .inl (cI, 24, .inl (fun j => iI ((tb a0 a1 j : Nat) : Int)))), (k0, .inl (cI, 12, .inl (fun j => iI ((K j : Nat) : Int)))), (p0, .inl (cI, 12, .inl (fun j => iI ((q j : Nat) : Int))))])) (Eq.trans (b := [o0, u0, m0, t0, k0, p0]) rfl rfl) hD
    refine va_forget hS.2.2 ?_
    have hS := va_S_nil hS
    refine W.widen (k := cells + 1) (n := slots + 6) (by omega) (by omega) ?_
    refine lv_istore (lv' := [(5, .int (iI 0)), (0, .ref b), (1, .ref o0), (2, .ref m0), (3, .ref u0), (4, .int (iI ((5 * n : Nat) : Int)))]) hx hb dL_law_1219 hl (by decide) rfl (fun ls hl => ?_)
    refine lv_aload_n hx hb dL_law_1221 rfl (lv_at hl 3 rfl) ?_
    refine lv_aload_n hx hb dL_law_1222 rfl (lv_at hl 1 rfl) ?_
    refine lv_iload hx hb dL_law_1223 (lv_at hl 5 rfl) ?_
    refine ib_const hx hb dL_law_1225 ?_
    refine ib_add (z := (((5 * n) + 1 : Nat) : Int)) hx hb dL_law_1226 (by omega) ?_
    refine st_i (y := iI ((5 * n + 1 : Nat) : Int)) (congrArg iI (by omega)) ?_
    refine va_sld (b := b) (L := L) (xs := xs) hx hb hX hbl hbA hS (iI_vp (i := 5 * n + 1) (by omega) (by omega)) dL_law_1227 ?_
    refine st_i (y := iI ((r : Nat) : Int)) ((congrArg xs (iI_cl (by omega))).trans e0) ?_
    refine lv_aload_n hx hb dL_law_1228 rfl (lv_at hl 1 rfl) ?_
    refine lv_iload hx hb dL_law_1229 (lv_at hl 5 rfl) ?_
    refine ib_const hx hb dL_law_1231 ?_
    refine ib_add (z := (((5 * n) + 2 : Nat) : Int)) hx hb dL_law_1232 (by omega) ?_
    refine st_i (y := iI ((5 * n + 2 : Nat) : Int)) (congrArg iI (by omega)) ?_
    refine va_sld (b := b) (L := L) (xs := xs) hx hb hX hbl hbA hS (iI_vp (i := 5 * n + 2) (by omega) (by omega)) dL_law_1233 ?_
    refine st_i (y := iI 3) ((congrArg xs (iI_cl (by omega))).trans e1) ?_
    have hP2 : va_P (dC, dI) vwCl [(m0, .inr (1, [.int th, .ref t0, .ref k0, .ref p0, .int (iI ((w : Nat) : Int))])), (t0, .inl (cI, 24, .inl (fun j => iI ((tb a0 a1 j : Nat) : Int)))), (k0, .inl (cI, 12, .inl (fun j => iI ((K j : Nat) : Int)))), (p0, .inl (cI, 12, .inl (fun j => iI ((q j : Nat) : Int))))] H := va_P_r (w1 := [(o0, .inr (0, [.long (pk a0), .long (pk a1), .long (pkn q w), .int (iI ((w : Nat) : Int))])), (u0, .inl (cJ, 1, .inr (.inl (fun _ => (if alN (deB (rw_ r a0 a1) 3) 4 = true then (1 : Int64) else 0)))))]) (w2 := [(m0, .inr (1, [.int th, .ref t0, .ref k0, .ref p0, .int (iI ((w : Nat) : Int))])), (t0, .inl (cI, 24, .inl (fun j => iI ((tb a0 a1 j : Nat) : Int)))), (k0, .inl (cI, 12, .inl (fun j => iI ((K j : Nat) : Int)))), (p0, .inl (cI, 12, .inl (fun j => iI ((q j : Nat) : Int))))]) hP
    have hK2 := hK.sub (tys' := [(cI, .int)]) [1] rfl
    have hf9 : cells + 1 + 0 ≤ room_1.cells ∧ slots + 6 + 0 ≤ room_1.slots := ⟨by show cells + 1 + 0 ≤ 1036; omega, by show slots + 6 + 0 ≤ 8286; omega⟩
    have hD2 : va_D (LA s) [(m0, .inr (1, [.int th, .ref t0, .ref k0, .ref p0, .int (iI ((w : Nat) : Int))])), (t0, .inl (cI, 24, .inl (fun j => iI ((tb a0 a1 j : Nat) : Int)))), (k0, .inl (cI, 12, .inl (fun j => iI ((K j : Nat) : Int)))), (p0, .inl (cI, 12, .inl (fun j => iI ((q j : Nat) : Int))))] := va_D_r (w1 := [(o0, .inr (0, [.long (pk a0), .long (pk a1), .long (pkn q w), .int (iI ((w : Nat) : Int))])), (u0, .inl (cJ, 1, .inr (.inl (fun _ => (if alN (deB (rw_ r a0 a1) 3) 4 = true then (1 : Int64) else 0)))))]) (w2 := [(m0, .inr (1, [.int th, .ref t0, .ref k0, .ref p0, .int (iI ((w : Nat) : Int))])), (t0, .inl (cI, 24, .inl (fun j => iI ((tb a0 a1 j : Nat) : Int)))), (k0, .inl (cI, 12, .inl (fun j => iI ((K j : Nat) : Int)))), (p0, .inl (cI, 12, .inl (fun j => iI ((q j : Nat) : Int))))]) hD
    refine wr_call (va_runV (As := [.int (iI ((r : Nat) : Int)), .int (iI 3)]) (rest := []) ⟨hx, hb, hml, hown, hts⟩ (mX1_isDerived_ok3 l dC dI cI m0 t0 k0 p0 a0 a1 K q th w hp0.1 hp1.1 hw hq r (by omega)) (cwV 2 hts gL_law_X1_isDerived rfl rfl rfl hvX1_isDerived ⟨(Nat.le_of_ble_eq_true rfl), (Nat.le_of_ble_eq_true rfl)⟩) (bD_pre (ci := 1) (q0 := 0) hK2 hP2 hD2 rfl rfl rfl) rfl rfl hl.1 rfl (lv_room (Nat.le_of_ble_eq_true rfl)) dL_law_1234 hf9) hS (fun q9 h => inW_A hD2 h) (fun H locs hPn hz hk hS => ?_)
    have hP : va_P (dC, dI) vwCl ([(o0, .inr (0, [.long (pk a0), .long (pk a1), .long (pkn q w), .int (iI ((w : Nat) : Int))])), (u0, .inl (cJ, 1, .inr (.inl (fun _ => (if alN (deB (rw_ r a0 a1) 3) 4 = true then (1 : Int64) else 0)))))] ++ [(m0, .inr (1, [.int (iI 0), .ref t0, .ref k0, .ref p0, .int (iI ((w : Nat) : Int))])), (t0, .inl (cI, 24, .inl (fun j => iI ((tb a0 a1 j : Nat) : Int)))), (k0, .inl (cI, 12, .inl (fun j => iI ((K j : Nat) : Int)))), (p0, .inl (cI, 12, .inl (fun j => iI ((q j : Nat) : Int))))]) H := wj_r (w1 := [(o0, .inr (0, [.long (pk a0), .long (pk a1), .long (pkn q w), .int (iI ((w : Nat) : Int))])), (u0, .inl (cJ, 1, .inr (.inl (fun _ => (if alN (deB (rw_ r a0 a1) 3) 4 = true then (1 : Int64) else 0)))))]) (w2 := [(m0, .inr (1, [.int th, .ref t0, .ref k0, .ref p0, .int (iI ((w : Nat) : Int))])), (t0, .inl (cI, 24, .inl (fun j => iI ((tb a0 a1 j : Nat) : Int)))), (k0, .inl (cI, 12, .inl (fun j => iI ((K j : Nat) : Int)))), (p0, .inl (cI, 12, .inl (fun j => iI ((q j : Nat) : Int))))]) (w2' := [(m0, .inr (1, [.int (iI 0), .ref t0, .ref k0, .ref p0, .int (iI ((w : Nat) : Int))])), (t0, .inl (cI, 24, .inl (fun j => iI ((tb a0 a1 j : Nat) : Int)))), (k0, .inl (cI, 12, .inl (fun j => iI ((K j : Nat) : Int)))), (p0, .inl (cI, 12, .inl (fun j => iI ((q j : Nat) : Int))))]) hP hD hPn hk
    have hD : va_D (LA s) ([(o0, .inr (0, [.long (pk a0), .long (pk a1), .long (pkn q w), .int (iI ((w : Nat) : Int))])), (u0, .inl (cJ, 1, .inr (.inl (fun _ => (if alN (deB (rw_ r a0 a1) 3) 4 = true then (1 : Int64) else 0)))))] ++ [(m0, .inr (1, [.int (iI 0), .ref t0, .ref k0, .ref p0, .int (iI ((w : Nat) : Int))])), (t0, .inl (cI, 24, .inl (fun j => iI ((tb a0 a1 j : Nat) : Int)))), (k0, .inl (cI, 12, .inl (fun j => iI ((K j : Nat) : Int)))), (p0, .inl (cI, 12, .inl (fun j => iI ((q j : Nat) : Int))))]) := va_D_same (w := ([(o0, .inr (0, [.long (pk a0), .long (pk a1), .long (pkn q w), .int (iI ((w : Nat) : Int))])), (u0, .inl (cJ, 1, .inr (.inl (fun _ => (if alN (deB (rw_ r a0 a1) 3) 4 = true then (1 : Int64) else 0)))))] ++ [(m0, .inr (1, [.int th, .ref t0, .ref k0, .ref p0, .int (iI ((w : Nat) : Int))])), (t0, .inl (cI, 24, .inl (fun j => iI ((tb a0 a1 j : Nat) : Int)))), (k0, .inl (cI, 12, .inl (fun j => iI ((K j : Nat) : Int)))), (p0, .inl (cI, 12, .inl (fun j => iI ((q j : Nat) : Int))))])) (Eq.trans (b := [o0, u0, m0, t0, k0, p0]) rfl rfl) hD
    refine va_forget hS.2.2 ?_
    have hS := va_S_nil hS
    refine lv_istore (lv' := [(6, .int (iI (bI (alN (deB (rw_ r a0 a1) 3) 4 = true)))), (5, .int (iI 0)), (0, .ref b), (1, .ref o0), (2, .ref m0), (3, .ref u0), (4, .int (iI ((5 * n : Nat) : Int)))]) hx hb dL_law_1237 hl (by decide) rfl (fun ls hl => ?_)
    refine lv_aload_n hx hb dL_law_1239 rfl (lv_at hl 4 rfl) ?_
    have hP2 : va_P (dC, dI) vwCl [(m0, .inr (1, [.int (iI 0), .ref t0, .ref k0, .ref p0, .int (iI ((w : Nat) : Int))])), (t0, .inl (cI, 24, .inl (fun j => iI ((tb a0 a1 j : Nat) : Int)))), (k0, .inl (cI, 12, .inl (fun j => iI ((K j : Nat) : Int)))), (p0, .inl (cI, 12, .inl (fun j => iI ((q j : Nat) : Int))))] H := va_P_r (w1 := [(o0, .inr (0, [.long (pk a0), .long (pk a1), .long (pkn q w), .int (iI ((w : Nat) : Int))])), (u0, .inl (cJ, 1, .inr (.inl (fun _ => (if alN (deB (rw_ r a0 a1) 3) 4 = true then (1 : Int64) else 0)))))]) (w2 := [(m0, .inr (1, [.int (iI 0), .ref t0, .ref k0, .ref p0, .int (iI ((w : Nat) : Int))])), (t0, .inl (cI, 24, .inl (fun j => iI ((tb a0 a1 j : Nat) : Int)))), (k0, .inl (cI, 12, .inl (fun j => iI ((K j : Nat) : Int)))), (p0, .inl (cI, 12, .inl (fun j => iI ((q j : Nat) : Int))))]) hP
    have hK2 := hK.sub (tys' := [(cI, .int)]) [1] rfl
    have hf9 : cells + 1 + 0 ≤ room_1.cells ∧ slots + 6 + 0 ≤ room_1.slots := ⟨by show cells + 1 + 0 ≤ 1036; omega, by show slots + 6 + 0 ≤ 8286; omega⟩
    refine rd_call (va_runV (As := []) (rest := []) ⟨hx, hb, hml, hown, hts⟩ (mX1_thrown l dC dI cI m0 t0 k0 p0 a0 a1 K q (iI 0) w hp0.1 hp1.1 hw hq) (cwV 0 hts gL_law_X1_thrown rfl rfl rfl hvX1_thrown ⟨(Nat.le_of_ble_eq_true rfl), (Nat.le_of_ble_eq_true rfl)⟩) (bW_pre (ci := 1) (q0 := 0) hK2 hP2 rfl rfl rfl) rfl rfl hl.1 rfl (lv_room (Nat.le_of_ble_eq_true rfl)) dL_law_1240 hf9) ?_
    refine lv_iload hx hb dL_law_1243 (lv_at hl 1 rfl) ?_
    refine ib_icmp_eq (tgt := 1250) hx hb dL_law_1245 (by decide) ⟨by omega, by omega⟩ ⟨by omega, by omega⟩ (fun c_1245 => ?_) (fun c_1245 => absurd c_1245 (by decide))
    refine lv_iload hx hb dL_law_1250 (lv_at hl 1 rfl) ?_
    refine ib_if_ne (tgt := 1274) hx hb dL_law_1252 (by decide) ⟨by omega, by omega⟩ (fun c_1252 => absurd c_1252 (by decide)) (fun c_1252 => ?_)
    refine lv_aload_n hx hb dL_law_1255 rfl (lv_at hl 5 rfl) ?_
    refine ib_const hx hb dL_law_1256 ?_
    refine va_lald hx hb hK hP 1 0 rfl rfl vp0 dL_law_1257 ?_
    refine st_l (y := (if alN (deB (rw_ r a0 a1) 3) 4 = true then (1 : Int64) else 0)) rfl ?_
    refine lv_iload hx hb dL_law_1258 (lv_at hl 0 rfl) ?_
    refine bb_eq (tgt := 1267) hx hb dL_law_1260 (by decide) (fun c_1260 => ?_) (fun c_1260 => ?_)
    · skip
      refine lv_lconst (v := 0) hx hb dL_law_1267 (by decide) ?_
      refine W.lcmp hx hb dL_law_1268 ?_
      refine bl_eq (tgt := 1274) hx hb dL_law_1269 (by decide) (fun _ => ?_) (fun h => absurd (if_neg c_1260) h)
      refine lv_goto (tgt := 1833) hx hb dL_law_1274 (by decide) ?_
      exact kk a0 a1 q K w (iI 0) (fun _ => (if alN (deB (rw_ r a0 a1) 3) 4 = true then (1 : Int64) else 0)) H ls ⟨hp0, hp1, hw, hq, hqd, hP, hD, hS⟩ (lv_sub hl [2, 3, 4, 5, 6] rfl)
    · skip
      refine lv_lconst (v := 1) hx hb dL_law_1263 (by decide) ?_
      refine lv_goto (tgt := 1268) hx hb dL_law_1264 (by decide) ?_
      refine W.lcmp hx hb dL_law_1268 ?_
      refine bl_eq (tgt := 1274) hx hb dL_law_1269 (by decide) (fun _ => ?_) (fun h => absurd (if_pos c_1260) h)
      refine lv_goto (tgt := 1833) hx hb dL_law_1274 (by decide) ?_
      exact kk a0 a1 q K w (iI 0) (fun _ => (if alN (deB (rw_ r a0 a1) 3) 4 = true then (1 : Int64) else 0)) H ls ⟨hp0, hp1, hw, hq, hqd, hP, hD, hS⟩ (lv_sub hl [2, 3, 4, 5, 6] rfl)
  · skip
    obtain ⟨r, hn0, rfl⟩ := nat_of (z := z0) (k := 4095) (by omega)
    refine lv_aload_n hx hb dL_law_1202 rfl (lv_at hl 1 rfl) ?_
    refine lv_aload_n hx hb dL_law_1203 rfl (lv_at hl 0 rfl) ?_
    refine lv_iload hx hb dL_law_1204 (lv_at hl 4 rfl) ?_
    refine ib_const hx hb dL_law_1206 ?_
    refine ib_add (z := (((5 * n) + 1 : Nat) : Int)) hx hb dL_law_1207 (by omega) ?_
    refine st_i (y := iI ((5 * n + 1 : Nat) : Int)) (congrArg iI (by omega)) ?_
    refine va_sld (b := b) (L := L) (xs := xs) hx hb hX hbl hbA hS (iI_vp (i := 5 * n + 1) (by omega) (by omega)) dL_law_1208 ?_
    refine st_i (y := iI ((r : Nat) : Int)) ((congrArg xs (iI_cl (by omega))).trans e0) ?_
    refine lv_aload_n hx hb dL_law_1209 rfl (lv_at hl 0 rfl) ?_
    refine lv_iload hx hb dL_law_1210 (lv_at hl 4 rfl) ?_
    refine ib_const hx hb dL_law_1212 ?_
    refine ib_add (z := (((5 * n) + 2 : Nat) : Int)) hx hb dL_law_1213 (by omega) ?_
    refine st_i (y := iI ((5 * n + 2 : Nat) : Int)) (congrArg iI (by omega)) ?_
    refine va_sld (b := b) (L := L) (xs := xs) hx hb hX hbl hbA hS (iI_vp (i := 5 * n + 2) (by omega) (by omega)) dL_law_1214 ?_
    refine st_i (y := iI 4) ((congrArg xs (iI_cl (by omega))).trans e1) ?_
    refine lv_aload_n hx hb dL_law_1215 rfl (lv_at hl 3 rfl) ?_
    have hf9 : cells + 0 ≤ room_1.cells ∧ slots + 0 ≤ room_1.slots := ⟨by show cells + 0 ≤ 1036; omega, by show slots + 0 ≤ 8286; omega⟩
    have hP1 : va_P (dC, dI) vwCl [(o0, .inr (0, [.long (pk a0), .long (pk a1), .long (pkn q w), .int (iI ((w : Nat) : Int))])), (u0, .inl (cJ, 1, .inr (.inl (g))))] H := va_P_l (w1 := [(o0, .inr (0, [.long (pk a0), .long (pk a1), .long (pkn q w), .int (iI ((w : Nat) : Int))])), (u0, .inl (cJ, 1, .inr (.inl (g))))]) (w2 := [(m0, .inr (1, [.int th, .ref t0, .ref k0, .ref p0, .int (iI ((w : Nat) : Int))])), (t0, .inl (cI, 24, .inl (fun j => iI ((tb a0 a1 j : Nat) : Int)))), (k0, .inl (cI, 12, .inl (fun j => iI ((K j : Nat) : Int)))), (p0, .inl (cI, 12, .inl (fun j => iI ((q j : Nat) : Int))))]) hP
    have hD1 : va_D (LA s) [(o0, .inr (0, [.long (pk a0), .long (pk a1), .long (pkn q w), .int (iI ((w : Nat) : Int))])), (u0, .inl (cJ, 1, .inr (.inl (g))))] := va_D_l (w1 := [(o0, .inr (0, [.long (pk a0), .long (pk a1), .long (pkn q w), .int (iI ((w : Nat) : Int))])), (u0, .inl (cJ, 1, .inr (.inl (g))))]) (w2 := [(m0, .inr (1, [.int th, .ref t0, .ref k0, .ref p0, .int (iI ((w : Nat) : Int))])), (t0, .inl (cI, 24, .inl (fun j => iI ((tb a0 a1 j : Nat) : Int)))), (k0, .inl (cI, 12, .inl (fun j => iI ((K j : Nat) : Int)))), (p0, .inl (cI, 12, .inl (fun j => iI ((q j : Nat) : Int))))]) hD
    have hK1 := hK.sub (tys' := [(cJ, .long)]) [0] rfl
    refine wr_call (vx_runSW (As := [.ref o0, .int (iI ((r : Nat) : Int)), .int (iI 4), .ref u0]) (rest := []) ⟨hx, hb, hml, hown, hts⟩ (mL_isDerived_ok4 l dC dI cJ o0 u0 a0 a1 q w hp0 hp1 hw hq hqd g r (by omega)) (vx_cwSW 4 hts gL_law_L_isDerived rfl rfl rfl hdL_isDerived ⟨(Nat.le_of_ble_eq_true rfl), (Nat.le_of_ble_eq_true rfl)⟩) (bD_preS hK1 hP1 hD1) rfl rfl hl.1 rfl (lv_room (Nat.le_of_ble_eq_true rfl)) dL_law_1216 hf9) hS (fun q9 h => inW_A hD1 h) (fun H locs hPn hz hk hS => ?_)
    have hP : va_P (dC, dI) vwCl ([(o0, .inr (0, [.long (pk a0), .long (pk a1), .long (pkn q w), .int (iI ((w : Nat) : Int))])), (u0, .inl (cJ, 1, .inr (.inl (fun _ => (if alN (deB (rw_ r a0 a1) 4) 3 = true then (1 : Int64) else 0)))))] ++ [(m0, .inr (1, [.int th, .ref t0, .ref k0, .ref p0, .int (iI ((w : Nat) : Int))])), (t0, .inl (cI, 24, .inl (fun j => iI ((tb a0 a1 j : Nat) : Int)))), (k0, .inl (cI, 12, .inl (fun j => iI ((K j : Nat) : Int)))), (p0, .inl (cI, 12, .inl (fun j => iI ((q j : Nat) : Int))))]) H := wj_l (w1 := [(o0, .inr (0, [.long (pk a0), .long (pk a1), .long (pkn q w), .int (iI ((w : Nat) : Int))])), (u0, .inl (cJ, 1, .inr (.inl (g))))]) (w2 := [(m0, .inr (1, [.int th, .ref t0, .ref k0, .ref p0, .int (iI ((w : Nat) : Int))])), (t0, .inl (cI, 24, .inl (fun j => iI ((tb a0 a1 j : Nat) : Int)))), (k0, .inl (cI, 12, .inl (fun j => iI ((K j : Nat) : Int)))), (p0, .inl (cI, 12, .inl (fun j => iI ((q j : Nat) : Int))))]) (w1' := [(o0, .inr (0, [.long (pk a0), .long (pk a1), .long (pkn q w), .int (iI ((w : Nat) : Int))])), (u0, .inl (cJ, 1, .inr (.inl (fun _ => (if alN (deB (rw_ r a0 a1) 4) 3 = true then (1 : Int64) else 0)))))]) hP hD hPn hk
    have hD : va_D (LA s) ([(o0, .inr (0, [.long (pk a0), .long (pk a1), .long (pkn q w), .int (iI ((w : Nat) : Int))])), (u0, .inl (cJ, 1, .inr (.inl (fun _ => (if alN (deB (rw_ r a0 a1) 4) 3 = true then (1 : Int64) else 0)))))] ++ [(m0, .inr (1, [.int th, .ref t0, .ref k0, .ref p0, .int (iI ((w : Nat) : Int))])), (t0, .inl (cI, 24, .inl (fun j => iI ((tb a0 a1 j : Nat) : Int)))), (k0, .inl (cI, 12, .inl (fun j => iI ((K j : Nat) : Int)))), (p0, .inl (cI, 12, .inl (fun j => iI ((q j : Nat) : Int))))]) := va_D_same (w := ([(o0, .inr (0, [.long (pk a0), .long (pk a1), .long (pkn q w), .int (iI ((w : Nat) : Int))])), (u0, .inl (cJ, 1, .inr (.inl (g))))] ++ [(m0, .inr (1, [.int th, .ref t0, .ref k0, .ref p0, .int (iI ((w : Nat) : Int))])), (t0, .inl (cI, 24, .inl (fun j => iI ((tb a0 a1 j : Nat) : Int)))), (k0, .inl (cI, 12, .inl (fun j => iI ((K j : Nat) : Int)))), (p0, .inl (cI, 12, .inl (fun j => iI ((q j : Nat) : Int))))])) (Eq.trans (b := [o0, u0, m0, t0, k0, p0]) rfl rfl) hD
    refine va_forget hS.2.2 ?_
    have hS := va_S_nil hS
    refine W.widen (k := cells + 1) (n := slots + 6) (by omega) (by omega) ?_
    refine lv_istore (lv' := [(5, .int (iI 0)), (0, .ref b), (1, .ref o0), (2, .ref m0), (3, .ref u0), (4, .int (iI ((5 * n : Nat) : Int)))]) hx hb dL_law_1219 hl (by decide) rfl (fun ls hl => ?_)
    refine lv_aload_n hx hb dL_law_1221 rfl (lv_at hl 3 rfl) ?_
    refine lv_aload_n hx hb dL_law_1222 rfl (lv_at hl 1 rfl) ?_
    refine lv_iload hx hb dL_law_1223 (lv_at hl 5 rfl) ?_
    refine ib_const hx hb dL_law_1225 ?_
    refine ib_add (z := (((5 * n) + 1 : Nat) : Int)) hx hb dL_law_1226 (by omega) ?_
    refine st_i (y := iI ((5 * n + 1 : Nat) : Int)) (congrArg iI (by omega)) ?_
    refine va_sld (b := b) (L := L) (xs := xs) hx hb hX hbl hbA hS (iI_vp (i := 5 * n + 1) (by omega) (by omega)) dL_law_1227 ?_
    refine st_i (y := iI ((r : Nat) : Int)) ((congrArg xs (iI_cl (by omega))).trans e0) ?_
    refine lv_aload_n hx hb dL_law_1228 rfl (lv_at hl 1 rfl) ?_
    refine lv_iload hx hb dL_law_1229 (lv_at hl 5 rfl) ?_
    refine ib_const hx hb dL_law_1231 ?_
    refine ib_add (z := (((5 * n) + 2 : Nat) : Int)) hx hb dL_law_1232 (by omega) ?_
    refine st_i (y := iI ((5 * n + 2 : Nat) : Int)) (congrArg iI (by omega)) ?_
    refine va_sld (b := b) (L := L) (xs := xs) hx hb hX hbl hbA hS (iI_vp (i := 5 * n + 2) (by omega) (by omega)) dL_law_1233 ?_
    refine st_i (y := iI 4) ((congrArg xs (iI_cl (by omega))).trans e1) ?_
    have hP2 : va_P (dC, dI) vwCl [(m0, .inr (1, [.int th, .ref t0, .ref k0, .ref p0, .int (iI ((w : Nat) : Int))])), (t0, .inl (cI, 24, .inl (fun j => iI ((tb a0 a1 j : Nat) : Int)))), (k0, .inl (cI, 12, .inl (fun j => iI ((K j : Nat) : Int)))), (p0, .inl (cI, 12, .inl (fun j => iI ((q j : Nat) : Int))))] H := va_P_r (w1 := [(o0, .inr (0, [.long (pk a0), .long (pk a1), .long (pkn q w), .int (iI ((w : Nat) : Int))])), (u0, .inl (cJ, 1, .inr (.inl (fun _ => (if alN (deB (rw_ r a0 a1) 4) 3 = true then (1 : Int64) else 0)))))]) (w2 := [(m0, .inr (1, [.int th, .ref t0, .ref k0, .ref p0, .int (iI ((w : Nat) : Int))])), (t0, .inl (cI, 24, .inl (fun j => iI ((tb a0 a1 j : Nat) : Int)))), (k0, .inl (cI, 12, .inl (fun j => iI ((K j : Nat) : Int)))), (p0, .inl (cI, 12, .inl (fun j => iI ((q j : Nat) : Int))))]) hP
    have hK2 := hK.sub (tys' := [(cI, .int)]) [1] rfl
    have hf9 : cells + 1 + 0 ≤ room_1.cells ∧ slots + 6 + 0 ≤ room_1.slots := ⟨by show cells + 1 + 0 ≤ 1036; omega, by show slots + 6 + 0 ≤ 8286; omega⟩
    have hD2 : va_D (LA s) [(m0, .inr (1, [.int th, .ref t0, .ref k0, .ref p0, .int (iI ((w : Nat) : Int))])), (t0, .inl (cI, 24, .inl (fun j => iI ((tb a0 a1 j : Nat) : Int)))), (k0, .inl (cI, 12, .inl (fun j => iI ((K j : Nat) : Int)))), (p0, .inl (cI, 12, .inl (fun j => iI ((q j : Nat) : Int))))] := va_D_r (w1 := [(o0, .inr (0, [.long (pk a0), .long (pk a1), .long (pkn q w), .int (iI ((w : Nat) : Int))])), (u0, .inl (cJ, 1, .inr (.inl (fun _ => (if alN (deB (rw_ r a0 a1) 4) 3 = true then (1 : Int64) else 0)))))]) (w2 := [(m0, .inr (1, [.int th, .ref t0, .ref k0, .ref p0, .int (iI ((w : Nat) : Int))])), (t0, .inl (cI, 24, .inl (fun j => iI ((tb a0 a1 j : Nat) : Int)))), (k0, .inl (cI, 12, .inl (fun j => iI ((K j : Nat) : Int)))), (p0, .inl (cI, 12, .inl (fun j => iI ((q j : Nat) : Int))))]) hD
    refine wr_call (va_runV (As := [.int (iI ((r : Nat) : Int)), .int (iI 4)]) (rest := []) ⟨hx, hb, hml, hown, hts⟩ (mX1_isDerived_ok4 l dC dI cI m0 t0 k0 p0 a0 a1 K q th w hp0.1 hp1.1 hw hq r (by omega)) (cwV 2 hts gL_law_X1_isDerived rfl rfl rfl hvX1_isDerived ⟨(Nat.le_of_ble_eq_true rfl), (Nat.le_of_ble_eq_true rfl)⟩) (bD_pre (ci := 1) (q0 := 0) hK2 hP2 hD2 rfl rfl rfl) rfl rfl hl.1 rfl (lv_room (Nat.le_of_ble_eq_true rfl)) dL_law_1234 hf9) hS (fun q9 h => inW_A hD2 h) (fun H locs hPn hz hk hS => ?_)
    have hP : va_P (dC, dI) vwCl ([(o0, .inr (0, [.long (pk a0), .long (pk a1), .long (pkn q w), .int (iI ((w : Nat) : Int))])), (u0, .inl (cJ, 1, .inr (.inl (fun _ => (if alN (deB (rw_ r a0 a1) 4) 3 = true then (1 : Int64) else 0)))))] ++ [(m0, .inr (1, [.int (iI 0), .ref t0, .ref k0, .ref p0, .int (iI ((w : Nat) : Int))])), (t0, .inl (cI, 24, .inl (fun j => iI ((tb a0 a1 j : Nat) : Int)))), (k0, .inl (cI, 12, .inl (fun j => iI ((K j : Nat) : Int)))), (p0, .inl (cI, 12, .inl (fun j => iI ((q j : Nat) : Int))))]) H := wj_r (w1 := [(o0, .inr (0, [.long (pk a0), .long (pk a1), .long (pkn q w), .int (iI ((w : Nat) : Int))])), (u0, .inl (cJ, 1, .inr (.inl (fun _ => (if alN (deB (rw_ r a0 a1) 4) 3 = true then (1 : Int64) else 0)))))]) (w2 := [(m0, .inr (1, [.int th, .ref t0, .ref k0, .ref p0, .int (iI ((w : Nat) : Int))])), (t0, .inl (cI, 24, .inl (fun j => iI ((tb a0 a1 j : Nat) : Int)))), (k0, .inl (cI, 12, .inl (fun j => iI ((K j : Nat) : Int)))), (p0, .inl (cI, 12, .inl (fun j => iI ((q j : Nat) : Int))))]) (w2' := [(m0, .inr (1, [.int (iI 0), .ref t0, .ref k0, .ref p0, .int (iI ((w : Nat) : Int))])), (t0, .inl (cI, 24, .inl (fun j => iI ((tb a0 a1 j : Nat) : Int)))), (k0, .inl (cI, 12, .inl (fun j => iI ((K j : Nat) : Int)))), (p0, .inl (cI, 12, .inl (fun j => iI ((q j : Nat) : Int))))]) hP hD hPn hk
    have hD : va_D (LA s) ([(o0, .inr (0, [.long (pk a0), .long (pk a1), .long (pkn q w), .int (iI ((w : Nat) : Int))])), (u0, .inl (cJ, 1, .inr (.inl (fun _ => (if alN (deB (rw_ r a0 a1) 4) 3 = true then (1 : Int64) else 0)))))] ++ [(m0, .inr (1, [.int (iI 0), .ref t0, .ref k0, .ref p0, .int (iI ((w : Nat) : Int))])), (t0, .inl (cI, 24, .inl (fun j => iI ((tb a0 a1 j : Nat) : Int)))), (k0, .inl (cI, 12, .inl (fun j => iI ((K j : Nat) : Int)))), (p0, .inl (cI, 12, .inl (fun j => iI ((q j : Nat) : Int))))]) := va_D_same (w := ([(o0, .inr (0, [.long (pk a0), .long (pk a1), .long (pkn q w), .int (iI ((w : Nat) : Int))])), (u0, .inl (cJ, 1, .inr (.inl (fun _ => (if alN (deB (rw_ r a0 a1) 4) 3 = true then (1 : Int64) else 0)))))] ++ [(m0, .inr (1, [.int th, .ref t0, .ref k0, .ref p0, .int (iI ((w : Nat) : Int))])), (t0, .inl (cI, 24, .inl (fun j => iI ((tb a0 a1 j : Nat) : Int)))), (k0, .inl (cI, 12, .inl (fun j => iI ((K j : Nat) : Int)))), (p0, .inl (cI, 12, .inl (fun j => iI ((q j : Nat) : Int))))])) (Eq.trans (b := [o0, u0, m0, t0, k0, p0]) rfl rfl) hD
    refine va_forget hS.2.2 ?_
    have hS := va_S_nil hS
    refine lv_istore (lv' := [(6, .int (iI (bI (alN (deB (rw_ r a0 a1) 4) 3 = true)))), (5, .int (iI 0)), (0, .ref b), (1, .ref o0), (2, .ref m0), (3, .ref u0), (4, .int (iI ((5 * n : Nat) : Int)))]) hx hb dL_law_1237 hl (by decide) rfl (fun ls hl => ?_)
    refine lv_aload_n hx hb dL_law_1239 rfl (lv_at hl 4 rfl) ?_
    have hP2 : va_P (dC, dI) vwCl [(m0, .inr (1, [.int (iI 0), .ref t0, .ref k0, .ref p0, .int (iI ((w : Nat) : Int))])), (t0, .inl (cI, 24, .inl (fun j => iI ((tb a0 a1 j : Nat) : Int)))), (k0, .inl (cI, 12, .inl (fun j => iI ((K j : Nat) : Int)))), (p0, .inl (cI, 12, .inl (fun j => iI ((q j : Nat) : Int))))] H := va_P_r (w1 := [(o0, .inr (0, [.long (pk a0), .long (pk a1), .long (pkn q w), .int (iI ((w : Nat) : Int))])), (u0, .inl (cJ, 1, .inr (.inl (fun _ => (if alN (deB (rw_ r a0 a1) 4) 3 = true then (1 : Int64) else 0)))))]) (w2 := [(m0, .inr (1, [.int (iI 0), .ref t0, .ref k0, .ref p0, .int (iI ((w : Nat) : Int))])), (t0, .inl (cI, 24, .inl (fun j => iI ((tb a0 a1 j : Nat) : Int)))), (k0, .inl (cI, 12, .inl (fun j => iI ((K j : Nat) : Int)))), (p0, .inl (cI, 12, .inl (fun j => iI ((q j : Nat) : Int))))]) hP
    have hK2 := hK.sub (tys' := [(cI, .int)]) [1] rfl
    have hf9 : cells + 1 + 0 ≤ room_1.cells ∧ slots + 6 + 0 ≤ room_1.slots := ⟨by show cells + 1 + 0 ≤ 1036; omega, by show slots + 6 + 0 ≤ 8286; omega⟩
    refine rd_call (va_runV (As := []) (rest := []) ⟨hx, hb, hml, hown, hts⟩ (mX1_thrown l dC dI cI m0 t0 k0 p0 a0 a1 K q (iI 0) w hp0.1 hp1.1 hw hq) (cwV 0 hts gL_law_X1_thrown rfl rfl rfl hvX1_thrown ⟨(Nat.le_of_ble_eq_true rfl), (Nat.le_of_ble_eq_true rfl)⟩) (bW_pre (ci := 1) (q0 := 0) hK2 hP2 rfl rfl rfl) rfl rfl hl.1 rfl (lv_room (Nat.le_of_ble_eq_true rfl)) dL_law_1240 hf9) ?_
    refine lv_iload hx hb dL_law_1243 (lv_at hl 1 rfl) ?_
    refine ib_icmp_eq (tgt := 1250) hx hb dL_law_1245 (by decide) ⟨by omega, by omega⟩ ⟨by omega, by omega⟩ (fun c_1245 => ?_) (fun c_1245 => absurd c_1245 (by decide))
    refine lv_iload hx hb dL_law_1250 (lv_at hl 1 rfl) ?_
    refine ib_if_ne (tgt := 1274) hx hb dL_law_1252 (by decide) ⟨by omega, by omega⟩ (fun c_1252 => absurd c_1252 (by decide)) (fun c_1252 => ?_)
    refine lv_aload_n hx hb dL_law_1255 rfl (lv_at hl 5 rfl) ?_
    refine ib_const hx hb dL_law_1256 ?_
    refine va_lald hx hb hK hP 1 0 rfl rfl vp0 dL_law_1257 ?_
    refine st_l (y := (if alN (deB (rw_ r a0 a1) 4) 3 = true then (1 : Int64) else 0)) rfl ?_
    refine lv_iload hx hb dL_law_1258 (lv_at hl 0 rfl) ?_
    refine bb_eq (tgt := 1267) hx hb dL_law_1260 (by decide) (fun c_1260 => ?_) (fun c_1260 => ?_)
    · skip
      refine lv_lconst (v := 0) hx hb dL_law_1267 (by decide) ?_
      refine W.lcmp hx hb dL_law_1268 ?_
      refine bl_eq (tgt := 1274) hx hb dL_law_1269 (by decide) (fun _ => ?_) (fun h => absurd (if_neg c_1260) h)
      refine lv_goto (tgt := 1833) hx hb dL_law_1274 (by decide) ?_
      exact kk a0 a1 q K w (iI 0) (fun _ => (if alN (deB (rw_ r a0 a1) 4) 3 = true then (1 : Int64) else 0)) H ls ⟨hp0, hp1, hw, hq, hqd, hP, hD, hS⟩ (lv_sub hl [2, 3, 4, 5, 6] rfl)
    · skip
      refine lv_lconst (v := 1) hx hb dL_law_1263 (by decide) ?_
      refine lv_goto (tgt := 1268) hx hb dL_law_1264 (by decide) ?_
      refine W.lcmp hx hb dL_law_1268 ?_
      refine bl_eq (tgt := 1274) hx hb dL_law_1269 (by decide) (fun _ => ?_) (fun h => absurd (if_pos c_1260) h)
      refine lv_goto (tgt := 1833) hx hb dL_law_1274 (by decide) ?_
      exact kk a0 a1 q K w (iI 0) (fun _ => (if alN (deB (rw_ r a0 a1) 4) 3 = true then (1 : Int64) else 0)) H ls ⟨hp0, hp1, hw, hq, hqd, hP, hD, hS⟩ (lv_sub hl [2, 3, 4, 5, 6] rfl)
  · skip
    obtain ⟨r, hn0, rfl⟩ := nat_of (z := z0) (k := 4095) (by omega)
    refine lv_aload_n hx hb dL_law_1202 rfl (lv_at hl 1 rfl) ?_
    refine lv_aload_n hx hb dL_law_1203 rfl (lv_at hl 0 rfl) ?_
    refine lv_iload hx hb dL_law_1204 (lv_at hl 4 rfl) ?_
    refine ib_const hx hb dL_law_1206 ?_
    refine ib_add (z := (((5 * n) + 1 : Nat) : Int)) hx hb dL_law_1207 (by omega) ?_
    refine st_i (y := iI ((5 * n + 1 : Nat) : Int)) (congrArg iI (by omega)) ?_
    refine va_sld (b := b) (L := L) (xs := xs) hx hb hX hbl hbA hS (iI_vp (i := 5 * n + 1) (by omega) (by omega)) dL_law_1208 ?_
    refine st_i (y := iI ((r : Nat) : Int)) ((congrArg xs (iI_cl (by omega))).trans e0) ?_
    refine lv_aload_n hx hb dL_law_1209 rfl (lv_at hl 0 rfl) ?_
    refine lv_iload hx hb dL_law_1210 (lv_at hl 4 rfl) ?_
    refine ib_const hx hb dL_law_1212 ?_
    refine ib_add (z := (((5 * n) + 2 : Nat) : Int)) hx hb dL_law_1213 (by omega) ?_
    refine st_i (y := iI ((5 * n + 2 : Nat) : Int)) (congrArg iI (by omega)) ?_
    refine va_sld (b := b) (L := L) (xs := xs) hx hb hX hbl hbA hS (iI_vp (i := 5 * n + 2) (by omega) (by omega)) dL_law_1214 ?_
    refine st_i (y := iI 6) ((congrArg xs (iI_cl (by omega))).trans e1) ?_
    refine lv_aload_n hx hb dL_law_1215 rfl (lv_at hl 3 rfl) ?_
    have hf9 : cells + 0 ≤ room_1.cells ∧ slots + 0 ≤ room_1.slots := ⟨by show cells + 0 ≤ 1036; omega, by show slots + 0 ≤ 8286; omega⟩
    have hP1 : va_P (dC, dI) vwCl [(o0, .inr (0, [.long (pk a0), .long (pk a1), .long (pkn q w), .int (iI ((w : Nat) : Int))])), (u0, .inl (cJ, 1, .inr (.inl (g))))] H := va_P_l (w1 := [(o0, .inr (0, [.long (pk a0), .long (pk a1), .long (pkn q w), .int (iI ((w : Nat) : Int))])), (u0, .inl (cJ, 1, .inr (.inl (g))))]) (w2 := [(m0, .inr (1, [.int th, .ref t0, .ref k0, .ref p0, .int (iI ((w : Nat) : Int))])), (t0, .inl (cI, 24, .inl (fun j => iI ((tb a0 a1 j : Nat) : Int)))), (k0, .inl (cI, 12, .inl (fun j => iI ((K j : Nat) : Int)))), (p0, .inl (cI, 12, .inl (fun j => iI ((q j : Nat) : Int))))]) hP
    have hD1 : va_D (LA s) [(o0, .inr (0, [.long (pk a0), .long (pk a1), .long (pkn q w), .int (iI ((w : Nat) : Int))])), (u0, .inl (cJ, 1, .inr (.inl (g))))] := va_D_l (w1 := [(o0, .inr (0, [.long (pk a0), .long (pk a1), .long (pkn q w), .int (iI ((w : Nat) : Int))])), (u0, .inl (cJ, 1, .inr (.inl (g))))]) (w2 := [(m0, .inr (1, [.int th, .ref t0, .ref k0, .ref p0, .int (iI ((w : Nat) : Int))])), (t0, .inl (cI, 24, .inl (fun j => iI ((tb a0 a1 j : Nat) : Int)))), (k0, .inl (cI, 12, .inl (fun j => iI ((K j : Nat) : Int)))), (p0, .inl (cI, 12, .inl (fun j => iI ((q j : Nat) : Int))))]) hD
    have hK1 := hK.sub (tys' := [(cJ, .long)]) [0] rfl
    refine wr_call (vx_runSW (As := [.ref o0, .int (iI ((r : Nat) : Int)), .int (iI 6), .ref u0]) (rest := []) ⟨hx, hb, hml, hown, hts⟩ (mL_isDerived_ok6 l dC dI cJ o0 u0 a0 a1 q w hp0 hp1 hw hq hqd g r (by omega)) (vx_cwSW 4 hts gL_law_L_isDerived rfl rfl rfl hdL_isDerived ⟨(Nat.le_of_ble_eq_true rfl), (Nat.le_of_ble_eq_true rfl)⟩) (bD_preS hK1 hP1 hD1) rfl rfl hl.1 rfl (lv_room (Nat.le_of_ble_eq_true rfl)) dL_law_1216 hf9) hS (fun q9 h => inW_A hD1 h) (fun H locs hPn hz hk hS => ?_)
    have hP : va_P (dC, dI) vwCl ([(o0, .inr (0, [.long (pk a0), .long (pk a1), .long (pkn q w), .int (iI ((w : Nat) : Int))])), (u0, .inl (cJ, 1, .inr (.inl (fun _ => (if alN (deB (rw_ r a0 a1) 6) 2 = true then (1 : Int64) else 0)))))] ++ [(m0, .inr (1, [.int th, .ref t0, .ref k0, .ref p0, .int (iI ((w : Nat) : Int))])), (t0, .inl (cI, 24, .inl (fun j => iI ((tb a0 a1 j : Nat) : Int)))), (k0, .inl (cI, 12, .inl (fun j => iI ((K j : Nat) : Int)))), (p0, .inl (cI, 12, .inl (fun j => iI ((q j : Nat) : Int))))]) H := wj_l (w1 := [(o0, .inr (0, [.long (pk a0), .long (pk a1), .long (pkn q w), .int (iI ((w : Nat) : Int))])), (u0, .inl (cJ, 1, .inr (.inl (g))))]) (w2 := [(m0, .inr (1, [.int th, .ref t0, .ref k0, .ref p0, .int (iI ((w : Nat) : Int))])), (t0, .inl (cI, 24, .inl (fun j => iI ((tb a0 a1 j : Nat) : Int)))), (k0, .inl (cI, 12, .inl (fun j => iI ((K j : Nat) : Int)))), (p0, .inl (cI, 12, .inl (fun j => iI ((q j : Nat) : Int))))]) (w1' := [(o0, .inr (0, [.long (pk a0), .long (pk a1), .long (pkn q w), .int (iI ((w : Nat) : Int))])), (u0, .inl (cJ, 1, .inr (.inl (fun _ => (if alN (deB (rw_ r a0 a1) 6) 2 = true then (1 : Int64) else 0)))))]) hP hD hPn hk
    have hD : va_D (LA s) ([(o0, .inr (0, [.long (pk a0), .long (pk a1), .long (pkn q w), .int (iI ((w : Nat) : Int))])), (u0, .inl (cJ, 1, .inr (.inl (fun _ => (if alN (deB (rw_ r a0 a1) 6) 2 = true then (1 : Int64) else 0)))))] ++ [(m0, .inr (1, [.int th, .ref t0, .ref k0, .ref p0, .int (iI ((w : Nat) : Int))])), (t0, .inl (cI, 24, .inl (fun j => iI ((tb a0 a1 j : Nat) : Int)))), (k0, .inl (cI, 12, .inl (fun j => iI ((K j : Nat) : Int)))), (p0, .inl (cI, 12, .inl (fun j => iI ((q j : Nat) : Int))))]) := va_D_same (w := ([(o0, .inr (0, [.long (pk a0), .long (pk a1), .long (pkn q w), .int (iI ((w : Nat) : Int))])), (u0, .inl (cJ, 1, .inr (.inl (g))))] ++ [(m0, .inr (1, [.int th, .ref t0, .ref k0, .ref p0, .int (iI ((w : Nat) : Int))])), (t0, .inl (cI, 24, .inl (fun j => iI ((tb a0 a1 j : Nat) : Int)))), (k0, .inl (cI, 12, .inl (fun j => iI ((K j : Nat) : Int)))), (p0, .inl (cI, 12, .inl (fun j => iI ((q j : Nat) : Int))))])) (Eq.trans (b := [o0, u0, m0, t0, k0, p0]) rfl rfl) hD
    refine va_forget hS.2.2 ?_
    have hS := va_S_nil hS
    refine W.widen (k := cells + 1) (n := slots + 6) (by omega) (by omega) ?_
    refine lv_istore (lv' := [(5, .int (iI 0)), (0, .ref b), (1, .ref o0), (2, .ref m0), (3, .ref u0), (4, .int (iI ((5 * n : Nat) : Int)))]) hx hb dL_law_1219 hl (by decide) rfl (fun ls hl => ?_)
    refine lv_aload_n hx hb dL_law_1221 rfl (lv_at hl 3 rfl) ?_
    refine lv_aload_n hx hb dL_law_1222 rfl (lv_at hl 1 rfl) ?_
    refine lv_iload hx hb dL_law_1223 (lv_at hl 5 rfl) ?_
    refine ib_const hx hb dL_law_1225 ?_
    refine ib_add (z := (((5 * n) + 1 : Nat) : Int)) hx hb dL_law_1226 (by omega) ?_
    refine st_i (y := iI ((5 * n + 1 : Nat) : Int)) (congrArg iI (by omega)) ?_
    refine va_sld (b := b) (L := L) (xs := xs) hx hb hX hbl hbA hS (iI_vp (i := 5 * n + 1) (by omega) (by omega)) dL_law_1227 ?_
    refine st_i (y := iI ((r : Nat) : Int)) ((congrArg xs (iI_cl (by omega))).trans e0) ?_
    refine lv_aload_n hx hb dL_law_1228 rfl (lv_at hl 1 rfl) ?_
    refine lv_iload hx hb dL_law_1229 (lv_at hl 5 rfl) ?_
    refine ib_const hx hb dL_law_1231 ?_
    refine ib_add (z := (((5 * n) + 2 : Nat) : Int)) hx hb dL_law_1232 (by omega) ?_
    refine st_i (y := iI ((5 * n + 2 : Nat) : Int)) (congrArg iI (by omega)) ?_
    refine va_sld (b := b) (L := L) (xs := xs) hx hb hX hbl hbA hS (iI_vp (i := 5 * n + 2) (by omega) (by omega)) dL_law_1233 ?_
    refine st_i (y := iI 6) ((congrArg xs (iI_cl (by omega))).trans e1) ?_
    have hP2 : va_P (dC, dI) vwCl [(m0, .inr (1, [.int th, .ref t0, .ref k0, .ref p0, .int (iI ((w : Nat) : Int))])), (t0, .inl (cI, 24, .inl (fun j => iI ((tb a0 a1 j : Nat) : Int)))), (k0, .inl (cI, 12, .inl (fun j => iI ((K j : Nat) : Int)))), (p0, .inl (cI, 12, .inl (fun j => iI ((q j : Nat) : Int))))] H := va_P_r (w1 := [(o0, .inr (0, [.long (pk a0), .long (pk a1), .long (pkn q w), .int (iI ((w : Nat) : Int))])), (u0, .inl (cJ, 1, .inr (.inl (fun _ => (if alN (deB (rw_ r a0 a1) 6) 2 = true then (1 : Int64) else 0)))))]) (w2 := [(m0, .inr (1, [.int th, .ref t0, .ref k0, .ref p0, .int (iI ((w : Nat) : Int))])), (t0, .inl (cI, 24, .inl (fun j => iI ((tb a0 a1 j : Nat) : Int)))), (k0, .inl (cI, 12, .inl (fun j => iI ((K j : Nat) : Int)))), (p0, .inl (cI, 12, .inl (fun j => iI ((q j : Nat) : Int))))]) hP
    have hK2 := hK.sub (tys' := [(cI, .int)]) [1] rfl
    have hf9 : cells + 1 + 0 ≤ room_1.cells ∧ slots + 6 + 0 ≤ room_1.slots := ⟨by show cells + 1 + 0 ≤ 1036; omega, by show slots + 6 + 0 ≤ 8286; omega⟩
    have hD2 : va_D (LA s) [(m0, .inr (1, [.int th, .ref t0, .ref k0, .ref p0, .int (iI ((w : Nat) : Int))])), (t0, .inl (cI, 24, .inl (fun j => iI ((tb a0 a1 j : Nat) : Int)))), (k0, .inl (cI, 12, .inl (fun j => iI ((K j : Nat) : Int)))), (p0, .inl (cI, 12, .inl (fun j => iI ((q j : Nat) : Int))))] := va_D_r (w1 := [(o0, .inr (0, [.long (pk a0), .long (pk a1), .long (pkn q w), .int (iI ((w : Nat) : Int))])), (u0, .inl (cJ, 1, .inr (.inl (fun _ => (if alN (deB (rw_ r a0 a1) 6) 2 = true then (1 : Int64) else 0)))))]) (w2 := [(m0, .inr (1, [.int th, .ref t0, .ref k0, .ref p0, .int (iI ((w : Nat) : Int))])), (t0, .inl (cI, 24, .inl (fun j => iI ((tb a0 a1 j : Nat) : Int)))), (k0, .inl (cI, 12, .inl (fun j => iI ((K j : Nat) : Int)))), (p0, .inl (cI, 12, .inl (fun j => iI ((q j : Nat) : Int))))]) hD
    refine wr_call (va_runV (As := [.int (iI ((r : Nat) : Int)), .int (iI 6)]) (rest := []) ⟨hx, hb, hml, hown, hts⟩ (mX1_isDerived_ok6 l dC dI cI m0 t0 k0 p0 a0 a1 K q th w hp0.1 hp1.1 hw hq r (by omega)) (cwV 2 hts gL_law_X1_isDerived rfl rfl rfl hvX1_isDerived ⟨(Nat.le_of_ble_eq_true rfl), (Nat.le_of_ble_eq_true rfl)⟩) (bD_pre (ci := 1) (q0 := 0) hK2 hP2 hD2 rfl rfl rfl) rfl rfl hl.1 rfl (lv_room (Nat.le_of_ble_eq_true rfl)) dL_law_1234 hf9) hS (fun q9 h => inW_A hD2 h) (fun H locs hPn hz hk hS => ?_)
    have hP : va_P (dC, dI) vwCl ([(o0, .inr (0, [.long (pk a0), .long (pk a1), .long (pkn q w), .int (iI ((w : Nat) : Int))])), (u0, .inl (cJ, 1, .inr (.inl (fun _ => (if alN (deB (rw_ r a0 a1) 6) 2 = true then (1 : Int64) else 0)))))] ++ [(m0, .inr (1, [.int (iI 0), .ref t0, .ref k0, .ref p0, .int (iI ((w : Nat) : Int))])), (t0, .inl (cI, 24, .inl (fun j => iI ((tb a0 a1 j : Nat) : Int)))), (k0, .inl (cI, 12, .inl (fun j => iI ((K j : Nat) : Int)))), (p0, .inl (cI, 12, .inl (fun j => iI ((q j : Nat) : Int))))]) H := wj_r (w1 := [(o0, .inr (0, [.long (pk a0), .long (pk a1), .long (pkn q w), .int (iI ((w : Nat) : Int))])), (u0, .inl (cJ, 1, .inr (.inl (fun _ => (if alN (deB (rw_ r a0 a1) 6) 2 = true then (1 : Int64) else 0)))))]) (w2 := [(m0, .inr (1, [.int th, .ref t0, .ref k0, .ref p0, .int (iI ((w : Nat) : Int))])), (t0, .inl (cI, 24, .inl (fun j => iI ((tb a0 a1 j : Nat) : Int)))), (k0, .inl (cI, 12, .inl (fun j => iI ((K j : Nat) : Int)))), (p0, .inl (cI, 12, .inl (fun j => iI ((q j : Nat) : Int))))]) (w2' := [(m0, .inr (1, [.int (iI 0), .ref t0, .ref k0, .ref p0, .int (iI ((w : Nat) : Int))])), (t0, .inl (cI, 24, .inl (fun j => iI ((tb a0 a1 j : Nat) : Int)))), (k0, .inl (cI, 12, .inl (fun j => iI ((K j : Nat) : Int)))), (p0, .inl (cI, 12, .inl (fun j => iI ((q j : Nat) : Int))))]) hP hD hPn hk
    have hD : va_D (LA s) ([(o0, .inr (0, [.long (pk a0), .long (pk a1), .long (pkn q w), .int (iI ((w : Nat) : Int))])), (u0, .inl (cJ, 1, .inr (.inl (fun _ => (if alN (deB (rw_ r a0 a1) 6) 2 = true then (1 : Int64) else 0)))))] ++ [(m0, .inr (1, [.int (iI 0), .ref t0, .ref k0, .ref p0, .int (iI ((w : Nat) : Int))])), (t0, .inl (cI, 24, .inl (fun j => iI ((tb a0 a1 j : Nat) : Int)))), (k0, .inl (cI, 12, .inl (fun j => iI ((K j : Nat) : Int)))), (p0, .inl (cI, 12, .inl (fun j => iI ((q j : Nat) : Int))))]) := va_D_same (w := ([(o0, .inr (0, [.long (pk a0), .long (pk a1), .long (pkn q w), .int (iI ((w : Nat) : Int))])), (u0, .inl (cJ, 1, .inr (.inl (fun _ => (if alN (deB (rw_ r a0 a1) 6) 2 = true then (1 : Int64) else 0)))))] ++ [(m0, .inr (1, [.int th, .ref t0, .ref k0, .ref p0, .int (iI ((w : Nat) : Int))])), (t0, .inl (cI, 24, .inl (fun j => iI ((tb a0 a1 j : Nat) : Int)))), (k0, .inl (cI, 12, .inl (fun j => iI ((K j : Nat) : Int)))), (p0, .inl (cI, 12, .inl (fun j => iI ((q j : Nat) : Int))))])) (Eq.trans (b := [o0, u0, m0, t0, k0, p0]) rfl rfl) hD
    refine va_forget hS.2.2 ?_
    have hS := va_S_nil hS
    refine lv_istore (lv' := [(6, .int (iI (bI (alN (deB (rw_ r a0 a1) 6) 2 = true)))), (5, .int (iI 0)), (0, .ref b), (1, .ref o0), (2, .ref m0), (3, .ref u0), (4, .int (iI ((5 * n : Nat) : Int)))]) hx hb dL_law_1237 hl (by decide) rfl (fun ls hl => ?_)
    refine lv_aload_n hx hb dL_law_1239 rfl (lv_at hl 4 rfl) ?_
    have hP2 : va_P (dC, dI) vwCl [(m0, .inr (1, [.int (iI 0), .ref t0, .ref k0, .ref p0, .int (iI ((w : Nat) : Int))])), (t0, .inl (cI, 24, .inl (fun j => iI ((tb a0 a1 j : Nat) : Int)))), (k0, .inl (cI, 12, .inl (fun j => iI ((K j : Nat) : Int)))), (p0, .inl (cI, 12, .inl (fun j => iI ((q j : Nat) : Int))))] H := va_P_r (w1 := [(o0, .inr (0, [.long (pk a0), .long (pk a1), .long (pkn q w), .int (iI ((w : Nat) : Int))])), (u0, .inl (cJ, 1, .inr (.inl (fun _ => (if alN (deB (rw_ r a0 a1) 6) 2 = true then (1 : Int64) else 0)))))]) (w2 := [(m0, .inr (1, [.int (iI 0), .ref t0, .ref k0, .ref p0, .int (iI ((w : Nat) : Int))])), (t0, .inl (cI, 24, .inl (fun j => iI ((tb a0 a1 j : Nat) : Int)))), (k0, .inl (cI, 12, .inl (fun j => iI ((K j : Nat) : Int)))), (p0, .inl (cI, 12, .inl (fun j => iI ((q j : Nat) : Int))))]) hP
    have hK2 := hK.sub (tys' := [(cI, .int)]) [1] rfl
    have hf9 : cells + 1 + 0 ≤ room_1.cells ∧ slots + 6 + 0 ≤ room_1.slots := ⟨by show cells + 1 + 0 ≤ 1036; omega, by show slots + 6 + 0 ≤ 8286; omega⟩
    refine rd_call (va_runV (As := []) (rest := []) ⟨hx, hb, hml, hown, hts⟩ (mX1_thrown l dC dI cI m0 t0 k0 p0 a0 a1 K q (iI 0) w hp0.1 hp1.1 hw hq) (cwV 0 hts gL_law_X1_thrown rfl rfl rfl hvX1_thrown ⟨(Nat.le_of_ble_eq_true rfl), (Nat.le_of_ble_eq_true rfl)⟩) (bW_pre (ci := 1) (q0 := 0) hK2 hP2 rfl rfl rfl) rfl rfl hl.1 rfl (lv_room (Nat.le_of_ble_eq_true rfl)) dL_law_1240 hf9) ?_
    refine lv_iload hx hb dL_law_1243 (lv_at hl 1 rfl) ?_
    refine ib_icmp_eq (tgt := 1250) hx hb dL_law_1245 (by decide) ⟨by omega, by omega⟩ ⟨by omega, by omega⟩ (fun c_1245 => ?_) (fun c_1245 => absurd c_1245 (by decide))
    refine lv_iload hx hb dL_law_1250 (lv_at hl 1 rfl) ?_
    refine ib_if_ne (tgt := 1274) hx hb dL_law_1252 (by decide) ⟨by omega, by omega⟩ (fun c_1252 => absurd c_1252 (by decide)) (fun c_1252 => ?_)
    refine lv_aload_n hx hb dL_law_1255 rfl (lv_at hl 5 rfl) ?_
    refine ib_const hx hb dL_law_1256 ?_
    refine va_lald hx hb hK hP 1 0 rfl rfl vp0 dL_law_1257 ?_
    refine st_l (y := (if alN (deB (rw_ r a0 a1) 6) 2 = true then (1 : Int64) else 0)) rfl ?_
    refine lv_iload hx hb dL_law_1258 (lv_at hl 0 rfl) ?_
    refine bb_eq (tgt := 1267) hx hb dL_law_1260 (by decide) (fun c_1260 => ?_) (fun c_1260 => ?_)
    · skip
      refine lv_lconst (v := 0) hx hb dL_law_1267 (by decide) ?_
      refine W.lcmp hx hb dL_law_1268 ?_
      refine bl_eq (tgt := 1274) hx hb dL_law_1269 (by decide) (fun _ => ?_) (fun h => absurd (if_neg c_1260) h)
      refine lv_goto (tgt := 1833) hx hb dL_law_1274 (by decide) ?_
      exact kk a0 a1 q K w (iI 0) (fun _ => (if alN (deB (rw_ r a0 a1) 6) 2 = true then (1 : Int64) else 0)) H ls ⟨hp0, hp1, hw, hq, hqd, hP, hD, hS⟩ (lv_sub hl [2, 3, 4, 5, 6] rfl)
    · skip
      refine lv_lconst (v := 1) hx hb dL_law_1263 (by decide) ?_
      refine lv_goto (tgt := 1268) hx hb dL_law_1264 (by decide) ?_
      refine W.lcmp hx hb dL_law_1268 ?_
      refine bl_eq (tgt := 1274) hx hb dL_law_1269 (by decide) (fun _ => ?_) (fun h => absurd (if_pos c_1260) h)
      refine lv_goto (tgt := 1833) hx hb dL_law_1274 (by decide) ?_
      exact kk a0 a1 q K w (iI 0) (fun _ => (if alN (deB (rw_ r a0 a1) 6) 2 = true then (1 : Int64) else 0)) H ls ⟨hp0, hp1, hw, hq, hqd, hP, hD, hS⟩ (lv_sub hl [2, 3, 4, 5, 6] rfl)
  · skip
    obtain ⟨r, hn0, rfl⟩ := nat_of (z := z0) (k := 4095) (by omega)
    refine lv_aload_n hx hb dL_law_1202 rfl (lv_at hl 1 rfl) ?_
    refine lv_aload_n hx hb dL_law_1203 rfl (lv_at hl 0 rfl) ?_
    refine lv_iload hx hb dL_law_1204 (lv_at hl 4 rfl) ?_
    refine ib_const hx hb dL_law_1206 ?_
    refine ib_add (z := (((5 * n) + 1 : Nat) : Int)) hx hb dL_law_1207 (by omega) ?_
    refine st_i (y := iI ((5 * n + 1 : Nat) : Int)) (congrArg iI (by omega)) ?_
    refine va_sld (b := b) (L := L) (xs := xs) hx hb hX hbl hbA hS (iI_vp (i := 5 * n + 1) (by omega) (by omega)) dL_law_1208 ?_
    refine st_i (y := iI ((r : Nat) : Int)) ((congrArg xs (iI_cl (by omega))).trans e0) ?_
    refine lv_aload_n hx hb dL_law_1209 rfl (lv_at hl 0 rfl) ?_
    refine lv_iload hx hb dL_law_1210 (lv_at hl 4 rfl) ?_
    refine ib_const hx hb dL_law_1212 ?_
    refine ib_add (z := (((5 * n) + 2 : Nat) : Int)) hx hb dL_law_1213 (by omega) ?_
    refine st_i (y := iI ((5 * n + 2 : Nat) : Int)) (congrArg iI (by omega)) ?_
    refine va_sld (b := b) (L := L) (xs := xs) hx hb hX hbl hbA hS (iI_vp (i := 5 * n + 2) (by omega) (by omega)) dL_law_1214 ?_
    refine st_i (y := iI 12) ((congrArg xs (iI_cl (by omega))).trans e1) ?_
    refine lv_aload_n hx hb dL_law_1215 rfl (lv_at hl 3 rfl) ?_
    have hf9 : cells + 0 ≤ room_1.cells ∧ slots + 0 ≤ room_1.slots := ⟨by show cells + 0 ≤ 1036; omega, by show slots + 0 ≤ 8286; omega⟩
    have hP1 : va_P (dC, dI) vwCl [(o0, .inr (0, [.long (pk a0), .long (pk a1), .long (pkn q w), .int (iI ((w : Nat) : Int))])), (u0, .inl (cJ, 1, .inr (.inl (g))))] H := va_P_l (w1 := [(o0, .inr (0, [.long (pk a0), .long (pk a1), .long (pkn q w), .int (iI ((w : Nat) : Int))])), (u0, .inl (cJ, 1, .inr (.inl (g))))]) (w2 := [(m0, .inr (1, [.int th, .ref t0, .ref k0, .ref p0, .int (iI ((w : Nat) : Int))])), (t0, .inl (cI, 24, .inl (fun j => iI ((tb a0 a1 j : Nat) : Int)))), (k0, .inl (cI, 12, .inl (fun j => iI ((K j : Nat) : Int)))), (p0, .inl (cI, 12, .inl (fun j => iI ((q j : Nat) : Int))))]) hP
    have hD1 : va_D (LA s) [(o0, .inr (0, [.long (pk a0), .long (pk a1), .long (pkn q w), .int (iI ((w : Nat) : Int))])), (u0, .inl (cJ, 1, .inr (.inl (g))))] := va_D_l (w1 := [(o0, .inr (0, [.long (pk a0), .long (pk a1), .long (pkn q w), .int (iI ((w : Nat) : Int))])), (u0, .inl (cJ, 1, .inr (.inl (g))))]) (w2 := [(m0, .inr (1, [.int th, .ref t0, .ref k0, .ref p0, .int (iI ((w : Nat) : Int))])), (t0, .inl (cI, 24, .inl (fun j => iI ((tb a0 a1 j : Nat) : Int)))), (k0, .inl (cI, 12, .inl (fun j => iI ((K j : Nat) : Int)))), (p0, .inl (cI, 12, .inl (fun j => iI ((q j : Nat) : Int))))]) hD
    have hK1 := hK.sub (tys' := [(cJ, .long)]) [0] rfl
    refine wr_call (vx_runSW (As := [.ref o0, .int (iI ((r : Nat) : Int)), .int (iI 12), .ref u0]) (rest := []) ⟨hx, hb, hml, hown, hts⟩ (mL_isDerived_ok12 l dC dI cJ o0 u0 a0 a1 q w hp0 hp1 hw hq hqd g r (by omega)) (vx_cwSW 4 hts gL_law_L_isDerived rfl rfl rfl hdL_isDerived ⟨(Nat.le_of_ble_eq_true rfl), (Nat.le_of_ble_eq_true rfl)⟩) (bD_preS hK1 hP1 hD1) rfl rfl hl.1 rfl (lv_room (Nat.le_of_ble_eq_true rfl)) dL_law_1216 hf9) hS (fun q9 h => inW_A hD1 h) (fun H locs hPn hz hk hS => ?_)
    have hP : va_P (dC, dI) vwCl ([(o0, .inr (0, [.long (pk a0), .long (pk a1), .long (pkn q w), .int (iI ((w : Nat) : Int))])), (u0, .inl (cJ, 1, .inr (.inl (fun _ => (if alN (deB (rw_ r a0 a1) 12) 1 = true then (1 : Int64) else 0)))))] ++ [(m0, .inr (1, [.int th, .ref t0, .ref k0, .ref p0, .int (iI ((w : Nat) : Int))])), (t0, .inl (cI, 24, .inl (fun j => iI ((tb a0 a1 j : Nat) : Int)))), (k0, .inl (cI, 12, .inl (fun j => iI ((K j : Nat) : Int)))), (p0, .inl (cI, 12, .inl (fun j => iI ((q j : Nat) : Int))))]) H := wj_l (w1 := [(o0, .inr (0, [.long (pk a0), .long (pk a1), .long (pkn q w), .int (iI ((w : Nat) : Int))])), (u0, .inl (cJ, 1, .inr (.inl (g))))]) (w2 := [(m0, .inr (1, [.int th, .ref t0, .ref k0, .ref p0, .int (iI ((w : Nat) : Int))])), (t0, .inl (cI, 24, .inl (fun j => iI ((tb a0 a1 j : Nat) : Int)))), (k0, .inl (cI, 12, .inl (fun j => iI ((K j : Nat) : Int)))), (p0, .inl (cI, 12, .inl (fun j => iI ((q j : Nat) : Int))))]) (w1' := [(o0, .inr (0, [.long (pk a0), .long (pk a1), .long (pkn q w), .int (iI ((w : Nat) : Int))])), (u0, .inl (cJ, 1, .inr (.inl (fun _ => (if alN (deB (rw_ r a0 a1) 12) 1 = true then (1 : Int64) else 0)))))]) hP hD hPn hk
    have hD : va_D (LA s) ([(o0, .inr (0, [.long (pk a0), .long (pk a1), .long (pkn q w), .int (iI ((w : Nat) : Int))])), (u0, .inl (cJ, 1, .inr (.inl (fun _ => (if alN (deB (rw_ r a0 a1) 12) 1 = true then (1 : Int64) else 0)))))] ++ [(m0, .inr (1, [.int th, .ref t0, .ref k0, .ref p0, .int (iI ((w : Nat) : Int))])), (t0, .inl (cI, 24, .inl (fun j => iI ((tb a0 a1 j : Nat) : Int)))), (k0, .inl (cI, 12, .inl (fun j => iI ((K j : Nat) : Int)))), (p0, .inl (cI, 12, .inl (fun j => iI ((q j : Nat) : Int))))]) := va_D_same (w := ([(o0, .inr (0, [.long (pk a0), .long (pk a1), .long (pkn q w), .int (iI ((w : Nat) : Int))])), (u0, .inl (cJ, 1, .inr (.inl (g))))] ++ [(m0, .inr (1, [.int th, .ref t0, .ref k0, .ref p0, .int (iI ((w : Nat) : Int))])), (t0, .inl (cI, 24, .inl (fun j => iI ((tb a0 a1 j : Nat) : Int)))), (k0, .inl (cI, 12, .inl (fun j => iI ((K j : Nat) : Int)))), (p0, .inl (cI, 12, .inl (fun j => iI ((q j : Nat) : Int))))])) (Eq.trans (b := [o0, u0, m0, t0, k0, p0]) rfl rfl) hD
    refine va_forget hS.2.2 ?_
    have hS := va_S_nil hS
    refine W.widen (k := cells + 1) (n := slots + 6) (by omega) (by omega) ?_
    refine lv_istore (lv' := [(5, .int (iI 0)), (0, .ref b), (1, .ref o0), (2, .ref m0), (3, .ref u0), (4, .int (iI ((5 * n : Nat) : Int)))]) hx hb dL_law_1219 hl (by decide) rfl (fun ls hl => ?_)
    refine lv_aload_n hx hb dL_law_1221 rfl (lv_at hl 3 rfl) ?_
    refine lv_aload_n hx hb dL_law_1222 rfl (lv_at hl 1 rfl) ?_
    refine lv_iload hx hb dL_law_1223 (lv_at hl 5 rfl) ?_
    refine ib_const hx hb dL_law_1225 ?_
    refine ib_add (z := (((5 * n) + 1 : Nat) : Int)) hx hb dL_law_1226 (by omega) ?_
    refine st_i (y := iI ((5 * n + 1 : Nat) : Int)) (congrArg iI (by omega)) ?_
    refine va_sld (b := b) (L := L) (xs := xs) hx hb hX hbl hbA hS (iI_vp (i := 5 * n + 1) (by omega) (by omega)) dL_law_1227 ?_
    refine st_i (y := iI ((r : Nat) : Int)) ((congrArg xs (iI_cl (by omega))).trans e0) ?_
    refine lv_aload_n hx hb dL_law_1228 rfl (lv_at hl 1 rfl) ?_
    refine lv_iload hx hb dL_law_1229 (lv_at hl 5 rfl) ?_
    refine ib_const hx hb dL_law_1231 ?_
    refine ib_add (z := (((5 * n) + 2 : Nat) : Int)) hx hb dL_law_1232 (by omega) ?_
    refine st_i (y := iI ((5 * n + 2 : Nat) : Int)) (congrArg iI (by omega)) ?_
    refine va_sld (b := b) (L := L) (xs := xs) hx hb hX hbl hbA hS (iI_vp (i := 5 * n + 2) (by omega) (by omega)) dL_law_1233 ?_
    refine st_i (y := iI 12) ((congrArg xs (iI_cl (by omega))).trans e1) ?_
    have hP2 : va_P (dC, dI) vwCl [(m0, .inr (1, [.int th, .ref t0, .ref k0, .ref p0, .int (iI ((w : Nat) : Int))])), (t0, .inl (cI, 24, .inl (fun j => iI ((tb a0 a1 j : Nat) : Int)))), (k0, .inl (cI, 12, .inl (fun j => iI ((K j : Nat) : Int)))), (p0, .inl (cI, 12, .inl (fun j => iI ((q j : Nat) : Int))))] H := va_P_r (w1 := [(o0, .inr (0, [.long (pk a0), .long (pk a1), .long (pkn q w), .int (iI ((w : Nat) : Int))])), (u0, .inl (cJ, 1, .inr (.inl (fun _ => (if alN (deB (rw_ r a0 a1) 12) 1 = true then (1 : Int64) else 0)))))]) (w2 := [(m0, .inr (1, [.int th, .ref t0, .ref k0, .ref p0, .int (iI ((w : Nat) : Int))])), (t0, .inl (cI, 24, .inl (fun j => iI ((tb a0 a1 j : Nat) : Int)))), (k0, .inl (cI, 12, .inl (fun j => iI ((K j : Nat) : Int)))), (p0, .inl (cI, 12, .inl (fun j => iI ((q j : Nat) : Int))))]) hP
    have hK2 := hK.sub (tys' := [(cI, .int)]) [1] rfl
    have hf9 : cells + 1 + 0 ≤ room_1.cells ∧ slots + 6 + 0 ≤ room_1.slots := ⟨by show cells + 1 + 0 ≤ 1036; omega, by show slots + 6 + 0 ≤ 8286; omega⟩
    have hD2 : va_D (LA s) [(m0, .inr (1, [.int th, .ref t0, .ref k0, .ref p0, .int (iI ((w : Nat) : Int))])), (t0, .inl (cI, 24, .inl (fun j => iI ((tb a0 a1 j : Nat) : Int)))), (k0, .inl (cI, 12, .inl (fun j => iI ((K j : Nat) : Int)))), (p0, .inl (cI, 12, .inl (fun j => iI ((q j : Nat) : Int))))] := va_D_r (w1 := [(o0, .inr (0, [.long (pk a0), .long (pk a1), .long (pkn q w), .int (iI ((w : Nat) : Int))])), (u0, .inl (cJ, 1, .inr (.inl (fun _ => (if alN (deB (rw_ r a0 a1) 12) 1 = true then (1 : Int64) else 0)))))]) (w2 := [(m0, .inr (1, [.int th, .ref t0, .ref k0, .ref p0, .int (iI ((w : Nat) : Int))])), (t0, .inl (cI, 24, .inl (fun j => iI ((tb a0 a1 j : Nat) : Int)))), (k0, .inl (cI, 12, .inl (fun j => iI ((K j : Nat) : Int)))), (p0, .inl (cI, 12, .inl (fun j => iI ((q j : Nat) : Int))))]) hD
    refine wr_call (va_runV (As := [.int (iI ((r : Nat) : Int)), .int (iI 12)]) (rest := []) ⟨hx, hb, hml, hown, hts⟩ (mX1_isDerived_ok12 l dC dI cI m0 t0 k0 p0 a0 a1 K q th w hp0.1 hp1.1 hw hq r (by omega)) (cwV 2 hts gL_law_X1_isDerived rfl rfl rfl hvX1_isDerived ⟨(Nat.le_of_ble_eq_true rfl), (Nat.le_of_ble_eq_true rfl)⟩) (bD_pre (ci := 1) (q0 := 0) hK2 hP2 hD2 rfl rfl rfl) rfl rfl hl.1 rfl (lv_room (Nat.le_of_ble_eq_true rfl)) dL_law_1234 hf9) hS (fun q9 h => inW_A hD2 h) (fun H locs hPn hz hk hS => ?_)
    have hP : va_P (dC, dI) vwCl ([(o0, .inr (0, [.long (pk a0), .long (pk a1), .long (pkn q w), .int (iI ((w : Nat) : Int))])), (u0, .inl (cJ, 1, .inr (.inl (fun _ => (if alN (deB (rw_ r a0 a1) 12) 1 = true then (1 : Int64) else 0)))))] ++ [(m0, .inr (1, [.int (iI 0), .ref t0, .ref k0, .ref p0, .int (iI ((w : Nat) : Int))])), (t0, .inl (cI, 24, .inl (fun j => iI ((tb a0 a1 j : Nat) : Int)))), (k0, .inl (cI, 12, .inl (fun j => iI ((K j : Nat) : Int)))), (p0, .inl (cI, 12, .inl (fun j => iI ((q j : Nat) : Int))))]) H := wj_r (w1 := [(o0, .inr (0, [.long (pk a0), .long (pk a1), .long (pkn q w), .int (iI ((w : Nat) : Int))])), (u0, .inl (cJ, 1, .inr (.inl (fun _ => (if alN (deB (rw_ r a0 a1) 12) 1 = true then (1 : Int64) else 0)))))]) (w2 := [(m0, .inr (1, [.int th, .ref t0, .ref k0, .ref p0, .int (iI ((w : Nat) : Int))])), (t0, .inl (cI, 24, .inl (fun j => iI ((tb a0 a1 j : Nat) : Int)))), (k0, .inl (cI, 12, .inl (fun j => iI ((K j : Nat) : Int)))), (p0, .inl (cI, 12, .inl (fun j => iI ((q j : Nat) : Int))))]) (w2' := [(m0, .inr (1, [.int (iI 0), .ref t0, .ref k0, .ref p0, .int (iI ((w : Nat) : Int))])), (t0, .inl (cI, 24, .inl (fun j => iI ((tb a0 a1 j : Nat) : Int)))), (k0, .inl (cI, 12, .inl (fun j => iI ((K j : Nat) : Int)))), (p0, .inl (cI, 12, .inl (fun j => iI ((q j : Nat) : Int))))]) hP hD hPn hk
    have hD : va_D (LA s) ([(o0, .inr (0, [.long (pk a0), .long (pk a1), .long (pkn q w), .int (iI ((w : Nat) : Int))])), (u0, .inl (cJ, 1, .inr (.inl (fun _ => (if alN (deB (rw_ r a0 a1) 12) 1 = true then (1 : Int64) else 0)))))] ++ [(m0, .inr (1, [.int (iI 0), .ref t0, .ref k0, .ref p0, .int (iI ((w : Nat) : Int))])), (t0, .inl (cI, 24, .inl (fun j => iI ((tb a0 a1 j : Nat) : Int)))), (k0, .inl (cI, 12, .inl (fun j => iI ((K j : Nat) : Int)))), (p0, .inl (cI, 12, .inl (fun j => iI ((q j : Nat) : Int))))]) := va_D_same (w := ([(o0, .inr (0, [.long (pk a0), .long (pk a1), .long (pkn q w), .int (iI ((w : Nat) : Int))])), (u0, .inl (cJ, 1, .inr (.inl (fun _ => (if alN (deB (rw_ r a0 a1) 12) 1 = true then (1 : Int64) else 0)))))] ++ [(m0, .inr (1, [.int th, .ref t0, .ref k0, .ref p0, .int (iI ((w : Nat) : Int))])), (t0, .inl (cI, 24, .inl (fun j => iI ((tb a0 a1 j : Nat) : Int)))), (k0, .inl (cI, 12, .inl (fun j => iI ((K j : Nat) : Int)))), (p0, .inl (cI, 12, .inl (fun j => iI ((q j : Nat) : Int))))])) (Eq.trans (b := [o0, u0, m0, t0, k0, p0]) rfl rfl) hD
    refine va_forget hS.2.2 ?_
    have hS := va_S_nil hS
    refine lv_istore (lv' := [(6, .int (iI (bI (alN (deB (rw_ r a0 a1) 12) 1 = true)))), (5, .int (iI 0)), (0, .ref b), (1, .ref o0), (2, .ref m0), (3, .ref u0), (4, .int (iI ((5 * n : Nat) : Int)))]) hx hb dL_law_1237 hl (by decide) rfl (fun ls hl => ?_)
    refine lv_aload_n hx hb dL_law_1239 rfl (lv_at hl 4 rfl) ?_
    have hP2 : va_P (dC, dI) vwCl [(m0, .inr (1, [.int (iI 0), .ref t0, .ref k0, .ref p0, .int (iI ((w : Nat) : Int))])), (t0, .inl (cI, 24, .inl (fun j => iI ((tb a0 a1 j : Nat) : Int)))), (k0, .inl (cI, 12, .inl (fun j => iI ((K j : Nat) : Int)))), (p0, .inl (cI, 12, .inl (fun j => iI ((q j : Nat) : Int))))] H := va_P_r (w1 := [(o0, .inr (0, [.long (pk a0), .long (pk a1), .long (pkn q w), .int (iI ((w : Nat) : Int))])), (u0, .inl (cJ, 1, .inr (.inl (fun _ => (if alN (deB (rw_ r a0 a1) 12) 1 = true then (1 : Int64) else 0)))))]) (w2 := [(m0, .inr (1, [.int (iI 0), .ref t0, .ref k0, .ref p0, .int (iI ((w : Nat) : Int))])), (t0, .inl (cI, 24, .inl (fun j => iI ((tb a0 a1 j : Nat) : Int)))), (k0, .inl (cI, 12, .inl (fun j => iI ((K j : Nat) : Int)))), (p0, .inl (cI, 12, .inl (fun j => iI ((q j : Nat) : Int))))]) hP
    have hK2 := hK.sub (tys' := [(cI, .int)]) [1] rfl
    have hf9 : cells + 1 + 0 ≤ room_1.cells ∧ slots + 6 + 0 ≤ room_1.slots := ⟨by show cells + 1 + 0 ≤ 1036; omega, by show slots + 6 + 0 ≤ 8286; omega⟩
    refine rd_call (va_runV (As := []) (rest := []) ⟨hx, hb, hml, hown, hts⟩ (mX1_thrown l dC dI cI m0 t0 k0 p0 a0 a1 K q (iI 0) w hp0.1 hp1.1 hw hq) (cwV 0 hts gL_law_X1_thrown rfl rfl rfl hvX1_thrown ⟨(Nat.le_of_ble_eq_true rfl), (Nat.le_of_ble_eq_true rfl)⟩) (bW_pre (ci := 1) (q0 := 0) hK2 hP2 rfl rfl rfl) rfl rfl hl.1 rfl (lv_room (Nat.le_of_ble_eq_true rfl)) dL_law_1240 hf9) ?_
    refine lv_iload hx hb dL_law_1243 (lv_at hl 1 rfl) ?_
    refine ib_icmp_eq (tgt := 1250) hx hb dL_law_1245 (by decide) ⟨by omega, by omega⟩ ⟨by omega, by omega⟩ (fun c_1245 => ?_) (fun c_1245 => absurd c_1245 (by decide))
    refine lv_iload hx hb dL_law_1250 (lv_at hl 1 rfl) ?_
    refine ib_if_ne (tgt := 1274) hx hb dL_law_1252 (by decide) ⟨by omega, by omega⟩ (fun c_1252 => absurd c_1252 (by decide)) (fun c_1252 => ?_)
    refine lv_aload_n hx hb dL_law_1255 rfl (lv_at hl 5 rfl) ?_
    refine ib_const hx hb dL_law_1256 ?_
    refine va_lald hx hb hK hP 1 0 rfl rfl vp0 dL_law_1257 ?_
    refine st_l (y := (if alN (deB (rw_ r a0 a1) 12) 1 = true then (1 : Int64) else 0)) rfl ?_
    refine lv_iload hx hb dL_law_1258 (lv_at hl 0 rfl) ?_
    refine bb_eq (tgt := 1267) hx hb dL_law_1260 (by decide) (fun c_1260 => ?_) (fun c_1260 => ?_)
    · skip
      refine lv_lconst (v := 0) hx hb dL_law_1267 (by decide) ?_
      refine W.lcmp hx hb dL_law_1268 ?_
      refine bl_eq (tgt := 1274) hx hb dL_law_1269 (by decide) (fun _ => ?_) (fun h => absurd (if_neg c_1260) h)
      refine lv_goto (tgt := 1833) hx hb dL_law_1274 (by decide) ?_
      exact kk a0 a1 q K w (iI 0) (fun _ => (if alN (deB (rw_ r a0 a1) 12) 1 = true then (1 : Int64) else 0)) H ls ⟨hp0, hp1, hw, hq, hqd, hP, hD, hS⟩ (lv_sub hl [2, 3, 4, 5, 6] rfl)
    · skip
      refine lv_lconst (v := 1) hx hb dL_law_1263 (by decide) ?_
      refine lv_goto (tgt := 1268) hx hb dL_law_1264 (by decide) ?_
      refine W.lcmp hx hb dL_law_1268 ?_
      refine bl_eq (tgt := 1274) hx hb dL_law_1269 (by decide) (fun _ => ?_) (fun h => absurd (if_pos c_1260) h)
      refine lv_goto (tgt := 1833) hx hb dL_law_1274 (by decide) ?_
      exact kk a0 a1 q K w (iI 0) (fun _ => (if alN (deB (rw_ r a0 a1) 12) 1 = true then (1 : Int64) else 0)) H ls ⟨hp0, hp1, hw, hq, hqd, hP, hD, hS⟩ (lv_sub hl [2, 3, 4, 5, 6] rfl)

set_option maxHeartbeats 4000000 in
set_option maxRecDepth 100000 in
theorem law_c16 {p : Program} {l : Launch} {e : Env} {s : State} {m : MethodId} {below : List Frame} {meth : Method} {c : Code} {Q : State → Prop} {dC : Nat → ClassId} {dI : Nat → Nat → Nat} {cI cJ : ClassId} {b L : Nat} {xs : Nat → Int32} (C : LC p l s m meth c (dC, dI) cI cJ b L xs) {o0 u0 m0 t0 k0 p0 : Nat} {a0 a1 q K : Nat → Nat} {w : Nat} {th : Int32} {g : Nat → Int64} {H : Heap} (hI : LI s (dC, dI) cI cJ o0 u0 m0 t0 k0 p0 a0 a1 q K w th g H) {n cells slots : Nat} (hc1 : cells + 1 ≤ 1036) (hc2 : slots + 6 ≤ 8286) (hn : 5 * n + 5 ≤ L) (hL : L ≤ 2560) {ls : Array Slot} (hl : lv_has ls 8 [(0, .ref b), (1, .ref o0), (2, .ref m0), (3, .ref u0), (4, .int (iI ((5 * n : Nat) : Int)))])
    (kk : ∀ (a0 a1 q K : Nat → Nat) (w : Nat) (th : Int32) (g : Nat → Int64) (H : Heap) (ls : Array Slot), LI s (dC, dI) cI cJ o0 u0 m0 t0 k0 p0 a0 a1 q K w th g H → lv_has ls 8 [(0, .ref b), (1, .ref o0), (2, .ref m0), (3, .ref u0), (4, .int (iI ((5 * n : Nat) : Int)))] → W p l e room_1 s m #[Value.ref b] below meth c H [] (cells + 1) (slots + 6) Q (F0 m 1833 ls [])) : W p l e room_1 s m #[Value.ref b] below meth c H [] cells slots Q (F0 m 1277 ls []) := by
  obtain ⟨hx, hb, hml, hown, hts, hK, hG0, hN, hX, hbl, hfl⟩ := C
  obtain ⟨hp0, hp1, hw, hq, hqd, hP, hD, hS⟩ := hI
  have hbA : ¬ LA s b := Nat.not_le.mpr hbl
  obtain ⟨z0, hz0, e0⟩ := ex_i (xs (5 * n + 1))
  obtain ⟨z1, hz1, e1⟩ := ex_i (xs (5 * n + 2))
  obtain ⟨z2, hz2, e2⟩ := ex_i (xs (5 * n + 3))
  obtain ⟨z3, hz3, e3⟩ := ex_i (xs (5 * n + 4))
  have hza0 := hz0.1
  have hzb0 := hz0.2
  have hza1 := hz1.1
  have hzb1 := hz1.2
  have hza2 := hz2.1
  have hzb2 := hz2.2
  have hza3 := hz3.1
  have hzb3 := hz3.2
  by_cases b1 : ¬ (z0 = 0 ∨ z0 = 1)
  · skip
    refine lv_aload_n hx hb dL_law_1277 rfl (lv_at hl 1 rfl) ?_
    refine lv_aload_n hx hb dL_law_1278 rfl (lv_at hl 0 rfl) ?_
    refine lv_iload hx hb dL_law_1279 (lv_at hl 4 rfl) ?_
    refine ib_const hx hb dL_law_1281 ?_
    refine ib_add (z := (((5 * n) + 1 : Nat) : Int)) hx hb dL_law_1282 (by omega) ?_
    refine st_i (y := iI ((5 * n + 1 : Nat) : Int)) (congrArg iI (by omega)) ?_
    refine va_sld (b := b) (L := L) (xs := xs) hx hb hX hbl hbA hS (iI_vp (i := 5 * n + 1) (by omega) (by omega)) dL_law_1283 ?_
    refine st_i (y := iI z0) ((congrArg xs (iI_cl (by omega))).trans e0) ?_
    refine lv_aload_n hx hb dL_law_1284 rfl (lv_at hl 0 rfl) ?_
    refine lv_iload hx hb dL_law_1285 (lv_at hl 4 rfl) ?_
    refine ib_const hx hb dL_law_1287 ?_
    refine ib_add (z := (((5 * n) + 2 : Nat) : Int)) hx hb dL_law_1288 (by omega) ?_
    refine st_i (y := iI ((5 * n + 2 : Nat) : Int)) (congrArg iI (by omega)) ?_
    refine va_sld (b := b) (L := L) (xs := xs) hx hb hX hbl hbA hS (iI_vp (i := 5 * n + 2) (by omega) (by omega)) dL_law_1289 ?_
    refine st_i (y := iI z1) ((congrArg xs (iI_cl (by omega))).trans e1) ?_
    refine lv_aload_n hx hb dL_law_1290 rfl (lv_at hl 0 rfl) ?_
    refine lv_iload hx hb dL_law_1291 (lv_at hl 4 rfl) ?_
    refine ib_const hx hb dL_law_1293 ?_
    refine ib_add (z := (((5 * n) + 3 : Nat) : Int)) hx hb dL_law_1294 (by omega) ?_
    refine st_i (y := iI ((5 * n + 3 : Nat) : Int)) (congrArg iI (by omega)) ?_
    refine va_sld (b := b) (L := L) (xs := xs) hx hb hX hbl hbA hS (iI_vp (i := 5 * n + 3) (by omega) (by omega)) dL_law_1295 ?_
    refine st_i (y := iI z2) ((congrArg xs (iI_cl (by omega))).trans e2) ?_
    refine lv_aload_n hx hb dL_law_1296 rfl (lv_at hl 0 rfl) ?_
    refine lv_iload hx hb dL_law_1297 (lv_at hl 4 rfl) ?_
    refine ib_const hx hb dL_law_1299 ?_
    refine ib_add (z := (((5 * n) + 4 : Nat) : Int)) hx hb dL_law_1300 (by omega) ?_
    refine st_i (y := iI ((5 * n + 4 : Nat) : Int)) (congrArg iI (by omega)) ?_
    refine va_sld (b := b) (L := L) (xs := xs) hx hb hX hbl hbA hS (iI_vp (i := 5 * n + 4) (by omega) (by omega)) dL_law_1301 ?_
    refine st_i (y := iI z3) ((congrArg xs (iI_cl (by omega))).trans e3) ?_
    refine lv_aload_n hx hb dL_law_1302 rfl (lv_at hl 3 rfl) ?_
    have hf9 : cells + 1 ≤ room_1.cells ∧ slots + 6 ≤ room_1.slots := ⟨by show cells + 1 ≤ 1036; omega, by show slots + 6 ≤ 8286; omega⟩
    have hP1 : va_P (dC, dI) vwCl [(o0, .inr (0, [.long (pk a0), .long (pk a1), .long (pkn q w), .int (iI ((w : Nat) : Int))]))] H := va_P_l (w1 := [(o0, .inr (0, [.long (pk a0), .long (pk a1), .long (pkn q w), .int (iI ((w : Nat) : Int))]))]) (w2 := [(u0, .inl (cJ, 1, .inr (.inl (g)))), (m0, .inr (1, [.int th, .ref t0, .ref k0, .ref p0, .int (iI ((w : Nat) : Int))])), (t0, .inl (cI, 24, .inl (fun j => iI ((tb a0 a1 j : Nat) : Int)))), (k0, .inl (cI, 12, .inl (fun j => iI ((K j : Nat) : Int)))), (p0, .inl (cI, 12, .inl (fun j => iI ((q j : Nat) : Int))))]) hP
    have hK1 := hK.sub (tys' := []) [] rfl
    refine rdK_call (vx_runSW (As := [.ref o0, .int (iI z0), .int (iI z1), .int (iI z2), .int (iI z3), .ref u0]) (rest := []) ⟨hx, hb, hml, hown, hts⟩ (mL_keptSets_x1 l hfl dC dI o0 a0 a1 q w hp0 hp1 hw hq hqd u0 z0 z1 z2 z3 hz0 hz1 hz2 hz3 b1) (vx_cwSW 6 hts gL_law_L_keptSets rfl rfl rfl hdL_keptSets ⟨(Nat.le_of_ble_eq_true rfl), (Nat.le_of_ble_eq_true rfl)⟩) (bY_preS hK1 hP1 (hG0.at hS) hN) rfl rfl hl.1 rfl (lv_room (Nat.le_of_ble_eq_true rfl)) dL_law_1303 hf9) (fun H hz hk => ?_)
    have hP : va_P (dC, dI) vwCl ([(o0, .inr (0, [.long (pk a0), .long (pk a1), .long (pkn q w), .int (iI ((w : Nat) : Int))])), (u0, .inl (cJ, 1, .inr (.inl (g))))] ++ [(m0, .inr (1, [.int th, .ref t0, .ref k0, .ref p0, .int (iI ((w : Nat) : Int))])), (t0, .inl (cI, 24, .inl (fun j => iI ((tb a0 a1 j : Nat) : Int)))), (k0, .inl (cI, 12, .inl (fun j => iI ((K j : Nat) : Int)))), (p0, .inl (cI, 12, .inl (fun j => iI ((q j : Nat) : Int))))]) H := va_P_new hP hk
    have hS := va_S_new hS hz hk
    refine lv_istore (lv' := [(5, .int (iI 1)), (0, .ref b), (1, .ref o0), (2, .ref m0), (3, .ref u0), (4, .int (iI ((5 * n : Nat) : Int)))]) hx hb dL_law_1306 hl (by decide) rfl (fun ls hl => ?_)
    refine lv_aload_n hx hb dL_law_1308 rfl (lv_at hl 3 rfl) ?_
    refine lv_aload_n hx hb dL_law_1309 rfl (lv_at hl 1 rfl) ?_
    refine lv_iload hx hb dL_law_1310 (lv_at hl 5 rfl) ?_
    refine ib_const hx hb dL_law_1312 ?_
    refine ib_add (z := (((5 * n) + 1 : Nat) : Int)) hx hb dL_law_1313 (by omega) ?_
    refine st_i (y := iI ((5 * n + 1 : Nat) : Int)) (congrArg iI (by omega)) ?_
    refine va_sld (b := b) (L := L) (xs := xs) hx hb hX hbl hbA hS (iI_vp (i := 5 * n + 1) (by omega) (by omega)) dL_law_1314 ?_
    refine st_i (y := iI z0) ((congrArg xs (iI_cl (by omega))).trans e0) ?_
    refine lv_aload_n hx hb dL_law_1315 rfl (lv_at hl 1 rfl) ?_
    refine lv_iload hx hb dL_law_1316 (lv_at hl 5 rfl) ?_
    refine ib_const hx hb dL_law_1318 ?_
    refine ib_add (z := (((5 * n) + 2 : Nat) : Int)) hx hb dL_law_1319 (by omega) ?_
    refine st_i (y := iI ((5 * n + 2 : Nat) : Int)) (congrArg iI (by omega)) ?_
    refine va_sld (b := b) (L := L) (xs := xs) hx hb hX hbl hbA hS (iI_vp (i := 5 * n + 2) (by omega) (by omega)) dL_law_1320 ?_
    refine st_i (y := iI z1) ((congrArg xs (iI_cl (by omega))).trans e1) ?_
    refine lv_aload_n hx hb dL_law_1321 rfl (lv_at hl 1 rfl) ?_
    refine lv_iload hx hb dL_law_1322 (lv_at hl 5 rfl) ?_
    refine ib_const hx hb dL_law_1324 ?_
    refine ib_add (z := (((5 * n) + 3 : Nat) : Int)) hx hb dL_law_1325 (by omega) ?_
    refine st_i (y := iI ((5 * n + 3 : Nat) : Int)) (congrArg iI (by omega)) ?_
    refine va_sld (b := b) (L := L) (xs := xs) hx hb hX hbl hbA hS (iI_vp (i := 5 * n + 3) (by omega) (by omega)) dL_law_1326 ?_
    refine st_i (y := iI z2) ((congrArg xs (iI_cl (by omega))).trans e2) ?_
    refine lv_aload_n hx hb dL_law_1327 rfl (lv_at hl 1 rfl) ?_
    refine lv_iload hx hb dL_law_1328 (lv_at hl 5 rfl) ?_
    refine ib_const hx hb dL_law_1330 ?_
    refine ib_add (z := (((5 * n) + 4 : Nat) : Int)) hx hb dL_law_1331 (by omega) ?_
    refine st_i (y := iI ((5 * n + 4 : Nat) : Int)) (congrArg iI (by omega)) ?_
    refine va_sld (b := b) (L := L) (xs := xs) hx hb hX hbl hbA hS (iI_vp (i := 5 * n + 4) (by omega) (by omega)) dL_law_1332 ?_
    refine st_i (y := iI z3) ((congrArg xs (iI_cl (by omega))).trans e3) ?_
    have hP2 : va_P (dC, dI) vwCl [(m0, .inr (1, [.int th, .ref t0, .ref k0, .ref p0, .int (iI ((w : Nat) : Int))])), (t0, .inl (cI, 24, .inl (fun j => iI ((tb a0 a1 j : Nat) : Int)))), (k0, .inl (cI, 12, .inl (fun j => iI ((K j : Nat) : Int)))), (p0, .inl (cI, 12, .inl (fun j => iI ((q j : Nat) : Int))))] H := va_P_r (w1 := [(o0, .inr (0, [.long (pk a0), .long (pk a1), .long (pkn q w), .int (iI ((w : Nat) : Int))])), (u0, .inl (cJ, 1, .inr (.inl (g))))]) (w2 := [(m0, .inr (1, [.int th, .ref t0, .ref k0, .ref p0, .int (iI ((w : Nat) : Int))])), (t0, .inl (cI, 24, .inl (fun j => iI ((tb a0 a1 j : Nat) : Int)))), (k0, .inl (cI, 12, .inl (fun j => iI ((K j : Nat) : Int)))), (p0, .inl (cI, 12, .inl (fun j => iI ((q j : Nat) : Int))))]) hP
    have hK2 := hK.sub (tys' := [(cI, .int)]) [1] rfl
    have hf9 : cells + 1 + 0 ≤ room_1.cells ∧ slots + 6 + 0 ≤ room_1.slots := ⟨by show cells + 1 + 0 ≤ 1036; omega, by show slots + 6 + 0 ≤ 8286; omega⟩
    have hD2 : va_D (LA s) [(m0, .inr (1, [.int th, .ref t0, .ref k0, .ref p0, .int (iI ((w : Nat) : Int))])), (t0, .inl (cI, 24, .inl (fun j => iI ((tb a0 a1 j : Nat) : Int)))), (k0, .inl (cI, 12, .inl (fun j => iI ((K j : Nat) : Int)))), (p0, .inl (cI, 12, .inl (fun j => iI ((q j : Nat) : Int))))] := va_D_r (w1 := [(o0, .inr (0, [.long (pk a0), .long (pk a1), .long (pkn q w), .int (iI ((w : Nat) : Int))])), (u0, .inl (cJ, 1, .inr (.inl (g))))]) (w2 := [(m0, .inr (1, [.int th, .ref t0, .ref k0, .ref p0, .int (iI ((w : Nat) : Int))])), (t0, .inl (cI, 24, .inl (fun j => iI ((tb a0 a1 j : Nat) : Int)))), (k0, .inl (cI, 12, .inl (fun j => iI ((K j : Nat) : Int)))), (p0, .inl (cI, 12, .inl (fun j => iI ((q j : Nat) : Int))))]) hD
    refine wr_call (va_runV (As := [.int (iI z0), .int (iI z1), .int (iI z2), .int (iI z3)]) (rest := []) ⟨hx, hb, hml, hown, hts⟩ (mX1_keptSets_x1 l dC dI cI m0 t0 k0 p0 a0 a1 K q th w hp0.1 hp1.1 hw hq z0 z1 z2 z3 hz0 hz1 hz2 hz3 b1) (cwV 4 hts gL_law_X1_keptSets rfl rfl rfl hvX1_keptSets ⟨(Nat.le_of_ble_eq_true rfl), (Nat.le_of_ble_eq_true rfl)⟩) (bD_pre (ci := 1) (q0 := 0) hK2 hP2 hD2 rfl rfl rfl) rfl rfl hl.1 rfl (lv_room (Nat.le_of_ble_eq_true rfl)) dL_law_1333 hf9) hS (fun q9 h => inW_A hD2 h) (fun H locs hPn hz hk hS => ?_)
    have hP : va_P (dC, dI) vwCl ([(o0, .inr (0, [.long (pk a0), .long (pk a1), .long (pkn q w), .int (iI ((w : Nat) : Int))])), (u0, .inl (cJ, 1, .inr (.inl (g))))] ++ [(m0, .inr (1, [.int (iI 1), .ref t0, .ref k0, .ref p0, .int (iI ((w : Nat) : Int))])), (t0, .inl (cI, 24, .inl (fun j => iI ((tb a0 a1 j : Nat) : Int)))), (k0, .inl (cI, 12, .inl (fun j => iI ((K j : Nat) : Int)))), (p0, .inl (cI, 12, .inl (fun j => iI ((q j : Nat) : Int))))]) H := wj_r (w1 := [(o0, .inr (0, [.long (pk a0), .long (pk a1), .long (pkn q w), .int (iI ((w : Nat) : Int))])), (u0, .inl (cJ, 1, .inr (.inl (g))))]) (w2 := [(m0, .inr (1, [.int th, .ref t0, .ref k0, .ref p0, .int (iI ((w : Nat) : Int))])), (t0, .inl (cI, 24, .inl (fun j => iI ((tb a0 a1 j : Nat) : Int)))), (k0, .inl (cI, 12, .inl (fun j => iI ((K j : Nat) : Int)))), (p0, .inl (cI, 12, .inl (fun j => iI ((q j : Nat) : Int))))]) (w2' := [(m0, .inr (1, [.int (iI 1), .ref t0, .ref k0, .ref p0, .int (iI ((w : Nat) : Int))])), (t0, .inl (cI, 24, .inl (fun j => iI ((tb a0 a1 j : Nat) : Int)))), (k0, .inl (cI, 12, .inl (fun j => iI ((K j : Nat) : Int)))), (p0, .inl (cI, 12, .inl (fun j => iI ((q j : Nat) : Int))))]) hP hD hPn hk
    have hD : va_D (LA s) ([(o0, .inr (0, [.long (pk a0), .long (pk a1), .long (pkn q w), .int (iI ((w : Nat) : Int))])), (u0, .inl (cJ, 1, .inr (.inl (g))))] ++ [(m0, .inr (1, [.int (iI 1), .ref t0, .ref k0, .ref p0, .int (iI ((w : Nat) : Int))])), (t0, .inl (cI, 24, .inl (fun j => iI ((tb a0 a1 j : Nat) : Int)))), (k0, .inl (cI, 12, .inl (fun j => iI ((K j : Nat) : Int)))), (p0, .inl (cI, 12, .inl (fun j => iI ((q j : Nat) : Int))))]) := va_D_same (w := ([(o0, .inr (0, [.long (pk a0), .long (pk a1), .long (pkn q w), .int (iI ((w : Nat) : Int))])), (u0, .inl (cJ, 1, .inr (.inl (g))))] ++ [(m0, .inr (1, [.int th, .ref t0, .ref k0, .ref p0, .int (iI ((w : Nat) : Int))])), (t0, .inl (cI, 24, .inl (fun j => iI ((tb a0 a1 j : Nat) : Int)))), (k0, .inl (cI, 12, .inl (fun j => iI ((K j : Nat) : Int)))), (p0, .inl (cI, 12, .inl (fun j => iI ((q j : Nat) : Int))))])) (Eq.trans (b := [o0, u0, m0, t0, k0, p0]) rfl rfl) hD
    refine va_forget hS.2.2 ?_
    have hS := va_S_nil hS
    refine lv_istore (lv' := [(6, .int (iI 0)), (5, .int (iI 1)), (0, .ref b), (1, .ref o0), (2, .ref m0), (3, .ref u0), (4, .int (iI ((5 * n : Nat) : Int)))]) hx hb dL_law_1336 hl (by decide) rfl (fun ls hl => ?_)
    refine lv_aload_n hx hb dL_law_1338 rfl (lv_at hl 4 rfl) ?_
    have hP2 : va_P (dC, dI) vwCl [(m0, .inr (1, [.int (iI 1), .ref t0, .ref k0, .ref p0, .int (iI ((w : Nat) : Int))])), (t0, .inl (cI, 24, .inl (fun j => iI ((tb a0 a1 j : Nat) : Int)))), (k0, .inl (cI, 12, .inl (fun j => iI ((K j : Nat) : Int)))), (p0, .inl (cI, 12, .inl (fun j => iI ((q j : Nat) : Int))))] H := va_P_r (w1 := [(o0, .inr (0, [.long (pk a0), .long (pk a1), .long (pkn q w), .int (iI ((w : Nat) : Int))])), (u0, .inl (cJ, 1, .inr (.inl (g))))]) (w2 := [(m0, .inr (1, [.int (iI 1), .ref t0, .ref k0, .ref p0, .int (iI ((w : Nat) : Int))])), (t0, .inl (cI, 24, .inl (fun j => iI ((tb a0 a1 j : Nat) : Int)))), (k0, .inl (cI, 12, .inl (fun j => iI ((K j : Nat) : Int)))), (p0, .inl (cI, 12, .inl (fun j => iI ((q j : Nat) : Int))))]) hP
    have hK2 := hK.sub (tys' := [(cI, .int)]) [1] rfl
    have hf9 : cells + 1 + 0 ≤ room_1.cells ∧ slots + 6 + 0 ≤ room_1.slots := ⟨by show cells + 1 + 0 ≤ 1036; omega, by show slots + 6 + 0 ≤ 8286; omega⟩
    refine rd_call (va_runV (As := []) (rest := []) ⟨hx, hb, hml, hown, hts⟩ (mX1_thrown l dC dI cI m0 t0 k0 p0 a0 a1 K q (iI 1) w hp0.1 hp1.1 hw hq) (cwV 0 hts gL_law_X1_thrown rfl rfl rfl hvX1_thrown ⟨(Nat.le_of_ble_eq_true rfl), (Nat.le_of_ble_eq_true rfl)⟩) (bW_pre (ci := 1) (q0 := 0) hK2 hP2 rfl rfl rfl) rfl rfl hl.1 rfl (lv_room (Nat.le_of_ble_eq_true rfl)) dL_law_1339 hf9) ?_
    refine lv_iload hx hb dL_law_1342 (lv_at hl 1 rfl) ?_
    refine ib_icmp_eq (tgt := 1349) hx hb dL_law_1344 (by decide) ⟨by omega, by omega⟩ ⟨by omega, by omega⟩ (fun c_1344 => ?_) (fun c_1344 => absurd c_1344 (by decide))
    refine lv_iload hx hb dL_law_1349 (lv_at hl 1 rfl) ?_
    refine ib_if_ne (tgt := 1366) hx hb dL_law_1351 (by decide) ⟨by omega, by omega⟩ (fun c_1351 => ?_) (fun c_1351 => absurd c_1351 (by decide))
    refine lv_goto (tgt := 1833) hx hb dL_law_1366 (by decide) ?_
    exact kk a0 a1 q K w (iI 1) (g) H ls ⟨hp0, hp1, hw, hq, hqd, hP, hD, hS⟩ (lv_sub hl [2, 3, 4, 5, 6] rfl)
  by_cases b2 : (z0 = 0 ∨ z0 = 1) ∧ ¬ ((0 ≤ z1 ∧ z1 ≤ 3 ∧ 0 ≤ z2 ∧ z2 ≤ 11) ∧ (1 ≤ z3 ∧ z3 ≤ 12))
  · skip
    refine lv_aload_n hx hb dL_law_1277 rfl (lv_at hl 1 rfl) ?_
    refine lv_aload_n hx hb dL_law_1278 rfl (lv_at hl 0 rfl) ?_
    refine lv_iload hx hb dL_law_1279 (lv_at hl 4 rfl) ?_
    refine ib_const hx hb dL_law_1281 ?_
    refine ib_add (z := (((5 * n) + 1 : Nat) : Int)) hx hb dL_law_1282 (by omega) ?_
    refine st_i (y := iI ((5 * n + 1 : Nat) : Int)) (congrArg iI (by omega)) ?_
    refine va_sld (b := b) (L := L) (xs := xs) hx hb hX hbl hbA hS (iI_vp (i := 5 * n + 1) (by omega) (by omega)) dL_law_1283 ?_
    refine st_i (y := iI z0) ((congrArg xs (iI_cl (by omega))).trans e0) ?_
    refine lv_aload_n hx hb dL_law_1284 rfl (lv_at hl 0 rfl) ?_
    refine lv_iload hx hb dL_law_1285 (lv_at hl 4 rfl) ?_
    refine ib_const hx hb dL_law_1287 ?_
    refine ib_add (z := (((5 * n) + 2 : Nat) : Int)) hx hb dL_law_1288 (by omega) ?_
    refine st_i (y := iI ((5 * n + 2 : Nat) : Int)) (congrArg iI (by omega)) ?_
    refine va_sld (b := b) (L := L) (xs := xs) hx hb hX hbl hbA hS (iI_vp (i := 5 * n + 2) (by omega) (by omega)) dL_law_1289 ?_
    refine st_i (y := iI z1) ((congrArg xs (iI_cl (by omega))).trans e1) ?_
    refine lv_aload_n hx hb dL_law_1290 rfl (lv_at hl 0 rfl) ?_
    refine lv_iload hx hb dL_law_1291 (lv_at hl 4 rfl) ?_
    refine ib_const hx hb dL_law_1293 ?_
    refine ib_add (z := (((5 * n) + 3 : Nat) : Int)) hx hb dL_law_1294 (by omega) ?_
    refine st_i (y := iI ((5 * n + 3 : Nat) : Int)) (congrArg iI (by omega)) ?_
    refine va_sld (b := b) (L := L) (xs := xs) hx hb hX hbl hbA hS (iI_vp (i := 5 * n + 3) (by omega) (by omega)) dL_law_1295 ?_
    refine st_i (y := iI z2) ((congrArg xs (iI_cl (by omega))).trans e2) ?_
    refine lv_aload_n hx hb dL_law_1296 rfl (lv_at hl 0 rfl) ?_
    refine lv_iload hx hb dL_law_1297 (lv_at hl 4 rfl) ?_
    refine ib_const hx hb dL_law_1299 ?_
    refine ib_add (z := (((5 * n) + 4 : Nat) : Int)) hx hb dL_law_1300 (by omega) ?_
    refine st_i (y := iI ((5 * n + 4 : Nat) : Int)) (congrArg iI (by omega)) ?_
    refine va_sld (b := b) (L := L) (xs := xs) hx hb hX hbl hbA hS (iI_vp (i := 5 * n + 4) (by omega) (by omega)) dL_law_1301 ?_
    refine st_i (y := iI z3) ((congrArg xs (iI_cl (by omega))).trans e3) ?_
    refine lv_aload_n hx hb dL_law_1302 rfl (lv_at hl 3 rfl) ?_
    have hf9 : cells + 1 ≤ room_1.cells ∧ slots + 6 ≤ room_1.slots := ⟨by show cells + 1 ≤ 1036; omega, by show slots + 6 ≤ 8286; omega⟩
    have hP1 : va_P (dC, dI) vwCl [(o0, .inr (0, [.long (pk a0), .long (pk a1), .long (pkn q w), .int (iI ((w : Nat) : Int))]))] H := va_P_l (w1 := [(o0, .inr (0, [.long (pk a0), .long (pk a1), .long (pkn q w), .int (iI ((w : Nat) : Int))]))]) (w2 := [(u0, .inl (cJ, 1, .inr (.inl (g)))), (m0, .inr (1, [.int th, .ref t0, .ref k0, .ref p0, .int (iI ((w : Nat) : Int))])), (t0, .inl (cI, 24, .inl (fun j => iI ((tb a0 a1 j : Nat) : Int)))), (k0, .inl (cI, 12, .inl (fun j => iI ((K j : Nat) : Int)))), (p0, .inl (cI, 12, .inl (fun j => iI ((q j : Nat) : Int))))]) hP
    have hK1 := hK.sub (tys' := []) [] rfl
    refine rdK_call (vx_runSW (As := [.ref o0, .int (iI z0), .int (iI z1), .int (iI z2), .int (iI z3), .ref u0]) (rest := []) ⟨hx, hb, hml, hown, hts⟩ (mL_keptSets_x2 l hfl dC dI o0 a0 a1 q w hp0 hp1 hw hq hqd u0 z0 z1 z2 z3 hz0 hz1 hz2 hz3 b2) (vx_cwSW 6 hts gL_law_L_keptSets rfl rfl rfl hdL_keptSets ⟨(Nat.le_of_ble_eq_true rfl), (Nat.le_of_ble_eq_true rfl)⟩) (bY_preS hK1 hP1 (hG0.at hS) hN) rfl rfl hl.1 rfl (lv_room (Nat.le_of_ble_eq_true rfl)) dL_law_1303 hf9) (fun H hz hk => ?_)
    have hP : va_P (dC, dI) vwCl ([(o0, .inr (0, [.long (pk a0), .long (pk a1), .long (pkn q w), .int (iI ((w : Nat) : Int))])), (u0, .inl (cJ, 1, .inr (.inl (g))))] ++ [(m0, .inr (1, [.int th, .ref t0, .ref k0, .ref p0, .int (iI ((w : Nat) : Int))])), (t0, .inl (cI, 24, .inl (fun j => iI ((tb a0 a1 j : Nat) : Int)))), (k0, .inl (cI, 12, .inl (fun j => iI ((K j : Nat) : Int)))), (p0, .inl (cI, 12, .inl (fun j => iI ((q j : Nat) : Int))))]) H := va_P_new hP hk
    have hS := va_S_new hS hz hk
    refine lv_istore (lv' := [(5, .int (iI 2)), (0, .ref b), (1, .ref o0), (2, .ref m0), (3, .ref u0), (4, .int (iI ((5 * n : Nat) : Int)))]) hx hb dL_law_1306 hl (by decide) rfl (fun ls hl => ?_)
    refine lv_aload_n hx hb dL_law_1308 rfl (lv_at hl 3 rfl) ?_
    refine lv_aload_n hx hb dL_law_1309 rfl (lv_at hl 1 rfl) ?_
    refine lv_iload hx hb dL_law_1310 (lv_at hl 5 rfl) ?_
    refine ib_const hx hb dL_law_1312 ?_
    refine ib_add (z := (((5 * n) + 1 : Nat) : Int)) hx hb dL_law_1313 (by omega) ?_
    refine st_i (y := iI ((5 * n + 1 : Nat) : Int)) (congrArg iI (by omega)) ?_
    refine va_sld (b := b) (L := L) (xs := xs) hx hb hX hbl hbA hS (iI_vp (i := 5 * n + 1) (by omega) (by omega)) dL_law_1314 ?_
    refine st_i (y := iI z0) ((congrArg xs (iI_cl (by omega))).trans e0) ?_
    refine lv_aload_n hx hb dL_law_1315 rfl (lv_at hl 1 rfl) ?_
    refine lv_iload hx hb dL_law_1316 (lv_at hl 5 rfl) ?_
    refine ib_const hx hb dL_law_1318 ?_
    refine ib_add (z := (((5 * n) + 2 : Nat) : Int)) hx hb dL_law_1319 (by omega) ?_
    refine st_i (y := iI ((5 * n + 2 : Nat) : Int)) (congrArg iI (by omega)) ?_
    refine va_sld (b := b) (L := L) (xs := xs) hx hb hX hbl hbA hS (iI_vp (i := 5 * n + 2) (by omega) (by omega)) dL_law_1320 ?_
    refine st_i (y := iI z1) ((congrArg xs (iI_cl (by omega))).trans e1) ?_
    refine lv_aload_n hx hb dL_law_1321 rfl (lv_at hl 1 rfl) ?_
    refine lv_iload hx hb dL_law_1322 (lv_at hl 5 rfl) ?_
    refine ib_const hx hb dL_law_1324 ?_
    refine ib_add (z := (((5 * n) + 3 : Nat) : Int)) hx hb dL_law_1325 (by omega) ?_
    refine st_i (y := iI ((5 * n + 3 : Nat) : Int)) (congrArg iI (by omega)) ?_
    refine va_sld (b := b) (L := L) (xs := xs) hx hb hX hbl hbA hS (iI_vp (i := 5 * n + 3) (by omega) (by omega)) dL_law_1326 ?_
    refine st_i (y := iI z2) ((congrArg xs (iI_cl (by omega))).trans e2) ?_
    refine lv_aload_n hx hb dL_law_1327 rfl (lv_at hl 1 rfl) ?_
    refine lv_iload hx hb dL_law_1328 (lv_at hl 5 rfl) ?_
    refine ib_const hx hb dL_law_1330 ?_
    refine ib_add (z := (((5 * n) + 4 : Nat) : Int)) hx hb dL_law_1331 (by omega) ?_
    refine st_i (y := iI ((5 * n + 4 : Nat) : Int)) (congrArg iI (by omega)) ?_
    refine va_sld (b := b) (L := L) (xs := xs) hx hb hX hbl hbA hS (iI_vp (i := 5 * n + 4) (by omega) (by omega)) dL_law_1332 ?_
    refine st_i (y := iI z3) ((congrArg xs (iI_cl (by omega))).trans e3) ?_
    have hP2 : va_P (dC, dI) vwCl [(m0, .inr (1, [.int th, .ref t0, .ref k0, .ref p0, .int (iI ((w : Nat) : Int))])), (t0, .inl (cI, 24, .inl (fun j => iI ((tb a0 a1 j : Nat) : Int)))), (k0, .inl (cI, 12, .inl (fun j => iI ((K j : Nat) : Int)))), (p0, .inl (cI, 12, .inl (fun j => iI ((q j : Nat) : Int))))] H := va_P_r (w1 := [(o0, .inr (0, [.long (pk a0), .long (pk a1), .long (pkn q w), .int (iI ((w : Nat) : Int))])), (u0, .inl (cJ, 1, .inr (.inl (g))))]) (w2 := [(m0, .inr (1, [.int th, .ref t0, .ref k0, .ref p0, .int (iI ((w : Nat) : Int))])), (t0, .inl (cI, 24, .inl (fun j => iI ((tb a0 a1 j : Nat) : Int)))), (k0, .inl (cI, 12, .inl (fun j => iI ((K j : Nat) : Int)))), (p0, .inl (cI, 12, .inl (fun j => iI ((q j : Nat) : Int))))]) hP
    have hK2 := hK.sub (tys' := [(cI, .int)]) [1] rfl
    have hf9 : cells + 1 + 0 ≤ room_1.cells ∧ slots + 6 + 0 ≤ room_1.slots := ⟨by show cells + 1 + 0 ≤ 1036; omega, by show slots + 6 + 0 ≤ 8286; omega⟩
    have hD2 : va_D (LA s) [(m0, .inr (1, [.int th, .ref t0, .ref k0, .ref p0, .int (iI ((w : Nat) : Int))])), (t0, .inl (cI, 24, .inl (fun j => iI ((tb a0 a1 j : Nat) : Int)))), (k0, .inl (cI, 12, .inl (fun j => iI ((K j : Nat) : Int)))), (p0, .inl (cI, 12, .inl (fun j => iI ((q j : Nat) : Int))))] := va_D_r (w1 := [(o0, .inr (0, [.long (pk a0), .long (pk a1), .long (pkn q w), .int (iI ((w : Nat) : Int))])), (u0, .inl (cJ, 1, .inr (.inl (g))))]) (w2 := [(m0, .inr (1, [.int th, .ref t0, .ref k0, .ref p0, .int (iI ((w : Nat) : Int))])), (t0, .inl (cI, 24, .inl (fun j => iI ((tb a0 a1 j : Nat) : Int)))), (k0, .inl (cI, 12, .inl (fun j => iI ((K j : Nat) : Int)))), (p0, .inl (cI, 12, .inl (fun j => iI ((q j : Nat) : Int))))]) hD
    refine wr_call (va_runV (As := [.int (iI z0), .int (iI z1), .int (iI z2), .int (iI z3)]) (rest := []) ⟨hx, hb, hml, hown, hts⟩ (mX1_keptSets_x2 l dC dI cI m0 t0 k0 p0 a0 a1 K q th w hp0.1 hp1.1 hw hq z0 z1 z2 z3 hz0 hz1 hz2 hz3 b2) (cwV 4 hts gL_law_X1_keptSets rfl rfl rfl hvX1_keptSets ⟨(Nat.le_of_ble_eq_true rfl), (Nat.le_of_ble_eq_true rfl)⟩) (bD_pre (ci := 1) (q0 := 0) hK2 hP2 hD2 rfl rfl rfl) rfl rfl hl.1 rfl (lv_room (Nat.le_of_ble_eq_true rfl)) dL_law_1333 hf9) hS (fun q9 h => inW_A hD2 h) (fun H locs hPn hz hk hS => ?_)
    have hP : va_P (dC, dI) vwCl ([(o0, .inr (0, [.long (pk a0), .long (pk a1), .long (pkn q w), .int (iI ((w : Nat) : Int))])), (u0, .inl (cJ, 1, .inr (.inl (g))))] ++ [(m0, .inr (1, [.int (iI 2), .ref t0, .ref k0, .ref p0, .int (iI ((w : Nat) : Int))])), (t0, .inl (cI, 24, .inl (fun j => iI ((tb a0 a1 j : Nat) : Int)))), (k0, .inl (cI, 12, .inl (fun j => iI ((K j : Nat) : Int)))), (p0, .inl (cI, 12, .inl (fun j => iI ((q j : Nat) : Int))))]) H := wj_r (w1 := [(o0, .inr (0, [.long (pk a0), .long (pk a1), .long (pkn q w), .int (iI ((w : Nat) : Int))])), (u0, .inl (cJ, 1, .inr (.inl (g))))]) (w2 := [(m0, .inr (1, [.int th, .ref t0, .ref k0, .ref p0, .int (iI ((w : Nat) : Int))])), (t0, .inl (cI, 24, .inl (fun j => iI ((tb a0 a1 j : Nat) : Int)))), (k0, .inl (cI, 12, .inl (fun j => iI ((K j : Nat) : Int)))), (p0, .inl (cI, 12, .inl (fun j => iI ((q j : Nat) : Int))))]) (w2' := [(m0, .inr (1, [.int (iI 2), .ref t0, .ref k0, .ref p0, .int (iI ((w : Nat) : Int))])), (t0, .inl (cI, 24, .inl (fun j => iI ((tb a0 a1 j : Nat) : Int)))), (k0, .inl (cI, 12, .inl (fun j => iI ((K j : Nat) : Int)))), (p0, .inl (cI, 12, .inl (fun j => iI ((q j : Nat) : Int))))]) hP hD hPn hk
    have hD : va_D (LA s) ([(o0, .inr (0, [.long (pk a0), .long (pk a1), .long (pkn q w), .int (iI ((w : Nat) : Int))])), (u0, .inl (cJ, 1, .inr (.inl (g))))] ++ [(m0, .inr (1, [.int (iI 2), .ref t0, .ref k0, .ref p0, .int (iI ((w : Nat) : Int))])), (t0, .inl (cI, 24, .inl (fun j => iI ((tb a0 a1 j : Nat) : Int)))), (k0, .inl (cI, 12, .inl (fun j => iI ((K j : Nat) : Int)))), (p0, .inl (cI, 12, .inl (fun j => iI ((q j : Nat) : Int))))]) := va_D_same (w := ([(o0, .inr (0, [.long (pk a0), .long (pk a1), .long (pkn q w), .int (iI ((w : Nat) : Int))])), (u0, .inl (cJ, 1, .inr (.inl (g))))] ++ [(m0, .inr (1, [.int th, .ref t0, .ref k0, .ref p0, .int (iI ((w : Nat) : Int))])), (t0, .inl (cI, 24, .inl (fun j => iI ((tb a0 a1 j : Nat) : Int)))), (k0, .inl (cI, 12, .inl (fun j => iI ((K j : Nat) : Int)))), (p0, .inl (cI, 12, .inl (fun j => iI ((q j : Nat) : Int))))])) (Eq.trans (b := [o0, u0, m0, t0, k0, p0]) rfl rfl) hD
    refine va_forget hS.2.2 ?_
    have hS := va_S_nil hS
    refine lv_istore (lv' := [(6, .int (iI 0)), (5, .int (iI 2)), (0, .ref b), (1, .ref o0), (2, .ref m0), (3, .ref u0), (4, .int (iI ((5 * n : Nat) : Int)))]) hx hb dL_law_1336 hl (by decide) rfl (fun ls hl => ?_)
    refine lv_aload_n hx hb dL_law_1338 rfl (lv_at hl 4 rfl) ?_
    have hP2 : va_P (dC, dI) vwCl [(m0, .inr (1, [.int (iI 2), .ref t0, .ref k0, .ref p0, .int (iI ((w : Nat) : Int))])), (t0, .inl (cI, 24, .inl (fun j => iI ((tb a0 a1 j : Nat) : Int)))), (k0, .inl (cI, 12, .inl (fun j => iI ((K j : Nat) : Int)))), (p0, .inl (cI, 12, .inl (fun j => iI ((q j : Nat) : Int))))] H := va_P_r (w1 := [(o0, .inr (0, [.long (pk a0), .long (pk a1), .long (pkn q w), .int (iI ((w : Nat) : Int))])), (u0, .inl (cJ, 1, .inr (.inl (g))))]) (w2 := [(m0, .inr (1, [.int (iI 2), .ref t0, .ref k0, .ref p0, .int (iI ((w : Nat) : Int))])), (t0, .inl (cI, 24, .inl (fun j => iI ((tb a0 a1 j : Nat) : Int)))), (k0, .inl (cI, 12, .inl (fun j => iI ((K j : Nat) : Int)))), (p0, .inl (cI, 12, .inl (fun j => iI ((q j : Nat) : Int))))]) hP
    have hK2 := hK.sub (tys' := [(cI, .int)]) [1] rfl
    have hf9 : cells + 1 + 0 ≤ room_1.cells ∧ slots + 6 + 0 ≤ room_1.slots := ⟨by show cells + 1 + 0 ≤ 1036; omega, by show slots + 6 + 0 ≤ 8286; omega⟩
    refine rd_call (va_runV (As := []) (rest := []) ⟨hx, hb, hml, hown, hts⟩ (mX1_thrown l dC dI cI m0 t0 k0 p0 a0 a1 K q (iI 2) w hp0.1 hp1.1 hw hq) (cwV 0 hts gL_law_X1_thrown rfl rfl rfl hvX1_thrown ⟨(Nat.le_of_ble_eq_true rfl), (Nat.le_of_ble_eq_true rfl)⟩) (bW_pre (ci := 1) (q0 := 0) hK2 hP2 rfl rfl rfl) rfl rfl hl.1 rfl (lv_room (Nat.le_of_ble_eq_true rfl)) dL_law_1339 hf9) ?_
    refine lv_iload hx hb dL_law_1342 (lv_at hl 1 rfl) ?_
    refine ib_icmp_eq (tgt := 1349) hx hb dL_law_1344 (by decide) ⟨by omega, by omega⟩ ⟨by omega, by omega⟩ (fun c_1344 => ?_) (fun c_1344 => absurd c_1344 (by decide))
    refine lv_iload hx hb dL_law_1349 (lv_at hl 1 rfl) ?_
    refine ib_if_ne (tgt := 1366) hx hb dL_law_1351 (by decide) ⟨by omega, by omega⟩ (fun c_1351 => ?_) (fun c_1351 => absurd c_1351 (by decide))
    refine lv_goto (tgt := 1833) hx hb dL_law_1366 (by decide) ?_
    exact kk a0 a1 q K w (iI 2) (g) H ls ⟨hp0, hp1, hw, hq, hqd, hP, hD, hS⟩ (lv_sub hl [2, 3, 4, 5, 6] rfl)
  obtain ⟨r, hn0, rfl⟩ := nat_of (z := z0) (k := 4095) (by omega)
  obtain ⟨k, hn1, rfl⟩ := nat_of (z := z1) (k := 4095) (by omega)
  obtain ⟨i, hn2, rfl⟩ := nat_of (z := z2) (k := 4095) (by omega)
  obtain ⟨len, hn3, rfl⟩ := nat_of (z := z3) (k := 4095) (by omega)
  refine lv_aload_n hx hb dL_law_1277 rfl (lv_at hl 1 rfl) ?_
  refine lv_aload_n hx hb dL_law_1278 rfl (lv_at hl 0 rfl) ?_
  refine lv_iload hx hb dL_law_1279 (lv_at hl 4 rfl) ?_
  refine ib_const hx hb dL_law_1281 ?_
  refine ib_add (z := (((5 * n) + 1 : Nat) : Int)) hx hb dL_law_1282 (by omega) ?_
  refine st_i (y := iI ((5 * n + 1 : Nat) : Int)) (congrArg iI (by omega)) ?_
  refine va_sld (b := b) (L := L) (xs := xs) hx hb hX hbl hbA hS (iI_vp (i := 5 * n + 1) (by omega) (by omega)) dL_law_1283 ?_
  refine st_i (y := iI ((r : Nat) : Int)) ((congrArg xs (iI_cl (by omega))).trans e0) ?_
  refine lv_aload_n hx hb dL_law_1284 rfl (lv_at hl 0 rfl) ?_
  refine lv_iload hx hb dL_law_1285 (lv_at hl 4 rfl) ?_
  refine ib_const hx hb dL_law_1287 ?_
  refine ib_add (z := (((5 * n) + 2 : Nat) : Int)) hx hb dL_law_1288 (by omega) ?_
  refine st_i (y := iI ((5 * n + 2 : Nat) : Int)) (congrArg iI (by omega)) ?_
  refine va_sld (b := b) (L := L) (xs := xs) hx hb hX hbl hbA hS (iI_vp (i := 5 * n + 2) (by omega) (by omega)) dL_law_1289 ?_
  refine st_i (y := iI ((k : Nat) : Int)) ((congrArg xs (iI_cl (by omega))).trans e1) ?_
  refine lv_aload_n hx hb dL_law_1290 rfl (lv_at hl 0 rfl) ?_
  refine lv_iload hx hb dL_law_1291 (lv_at hl 4 rfl) ?_
  refine ib_const hx hb dL_law_1293 ?_
  refine ib_add (z := (((5 * n) + 3 : Nat) : Int)) hx hb dL_law_1294 (by omega) ?_
  refine st_i (y := iI ((5 * n + 3 : Nat) : Int)) (congrArg iI (by omega)) ?_
  refine va_sld (b := b) (L := L) (xs := xs) hx hb hX hbl hbA hS (iI_vp (i := 5 * n + 3) (by omega) (by omega)) dL_law_1295 ?_
  refine st_i (y := iI ((i : Nat) : Int)) ((congrArg xs (iI_cl (by omega))).trans e2) ?_
  refine lv_aload_n hx hb dL_law_1296 rfl (lv_at hl 0 rfl) ?_
  refine lv_iload hx hb dL_law_1297 (lv_at hl 4 rfl) ?_
  refine ib_const hx hb dL_law_1299 ?_
  refine ib_add (z := (((5 * n) + 4 : Nat) : Int)) hx hb dL_law_1300 (by omega) ?_
  refine st_i (y := iI ((5 * n + 4 : Nat) : Int)) (congrArg iI (by omega)) ?_
  refine va_sld (b := b) (L := L) (xs := xs) hx hb hX hbl hbA hS (iI_vp (i := 5 * n + 4) (by omega) (by omega)) dL_law_1301 ?_
  refine st_i (y := iI ((len : Nat) : Int)) ((congrArg xs (iI_cl (by omega))).trans e3) ?_
  refine lv_aload_n hx hb dL_law_1302 rfl (lv_at hl 3 rfl) ?_
  have hf9 : cells + 0 ≤ room_1.cells ∧ slots + 0 ≤ room_1.slots := ⟨by show cells + 0 ≤ 1036; omega, by show slots + 0 ≤ 8286; omega⟩
  have hP1 : va_P (dC, dI) vwCl [(o0, .inr (0, [.long (pk a0), .long (pk a1), .long (pkn q w), .int (iI ((w : Nat) : Int))])), (u0, .inl (cJ, 1, .inr (.inl (g))))] H := va_P_l (w1 := [(o0, .inr (0, [.long (pk a0), .long (pk a1), .long (pkn q w), .int (iI ((w : Nat) : Int))])), (u0, .inl (cJ, 1, .inr (.inl (g))))]) (w2 := [(m0, .inr (1, [.int th, .ref t0, .ref k0, .ref p0, .int (iI ((w : Nat) : Int))])), (t0, .inl (cI, 24, .inl (fun j => iI ((tb a0 a1 j : Nat) : Int)))), (k0, .inl (cI, 12, .inl (fun j => iI ((K j : Nat) : Int)))), (p0, .inl (cI, 12, .inl (fun j => iI ((q j : Nat) : Int))))]) hP
  have hD1 : va_D (LA s) [(o0, .inr (0, [.long (pk a0), .long (pk a1), .long (pkn q w), .int (iI ((w : Nat) : Int))])), (u0, .inl (cJ, 1, .inr (.inl (g))))] := va_D_l (w1 := [(o0, .inr (0, [.long (pk a0), .long (pk a1), .long (pkn q w), .int (iI ((w : Nat) : Int))])), (u0, .inl (cJ, 1, .inr (.inl (g))))]) (w2 := [(m0, .inr (1, [.int th, .ref t0, .ref k0, .ref p0, .int (iI ((w : Nat) : Int))])), (t0, .inl (cI, 24, .inl (fun j => iI ((tb a0 a1 j : Nat) : Int)))), (k0, .inl (cI, 12, .inl (fun j => iI ((K j : Nat) : Int)))), (p0, .inl (cI, 12, .inl (fun j => iI ((q j : Nat) : Int))))]) hD
  have hK1 := hK.sub (tys' := [(cJ, .long)]) [0] rfl
  refine wr_call (vx_runSW (As := [.ref o0, .int (iI ((r : Nat) : Int)), .int (iI ((k : Nat) : Int)), .int (iI ((i : Nat) : Int)), .int (iI ((len : Nat) : Int)), .ref u0]) (rest := []) ⟨hx, hb, hml, hown, hts⟩ (mL_keptSets_ok l dC dI cJ o0 u0 a0 a1 q w hp0 hp1 hw hq hqd g r k i len (by omega) (by omega) (by omega) (by omega) (by omega)) (vx_cwSW 6 hts gL_law_L_keptSets rfl rfl rfl hdL_keptSets ⟨(Nat.le_of_ble_eq_true rfl), (Nat.le_of_ble_eq_true rfl)⟩) (bD_preS hK1 hP1 hD1) rfl rfl hl.1 rfl (lv_room (Nat.le_of_ble_eq_true rfl)) dL_law_1303 hf9) hS (fun q9 h => inW_A hD1 h) (fun H locs hPn hz hk hS => ?_)
  have hP : va_P (dC, dI) vwCl ([(o0, .inr (0, [.long (pk a0), .long (pk a1), .long (pkn q w), .int (iI ((w : Nat) : Int))])), (u0, .inl (cJ, 1, .inr (.inl (fun _ => (iI ((skN (rw_ r a0 a1) (12 * k + i) len (13 - len) : Nat) : Int)).toInt64))))] ++ [(m0, .inr (1, [.int th, .ref t0, .ref k0, .ref p0, .int (iI ((w : Nat) : Int))])), (t0, .inl (cI, 24, .inl (fun j => iI ((tb a0 a1 j : Nat) : Int)))), (k0, .inl (cI, 12, .inl (fun j => iI ((K j : Nat) : Int)))), (p0, .inl (cI, 12, .inl (fun j => iI ((q j : Nat) : Int))))]) H := wj_l (w1 := [(o0, .inr (0, [.long (pk a0), .long (pk a1), .long (pkn q w), .int (iI ((w : Nat) : Int))])), (u0, .inl (cJ, 1, .inr (.inl (g))))]) (w2 := [(m0, .inr (1, [.int th, .ref t0, .ref k0, .ref p0, .int (iI ((w : Nat) : Int))])), (t0, .inl (cI, 24, .inl (fun j => iI ((tb a0 a1 j : Nat) : Int)))), (k0, .inl (cI, 12, .inl (fun j => iI ((K j : Nat) : Int)))), (p0, .inl (cI, 12, .inl (fun j => iI ((q j : Nat) : Int))))]) (w1' := [(o0, .inr (0, [.long (pk a0), .long (pk a1), .long (pkn q w), .int (iI ((w : Nat) : Int))])), (u0, .inl (cJ, 1, .inr (.inl (fun _ => (iI ((skN (rw_ r a0 a1) (12 * k + i) len (13 - len) : Nat) : Int)).toInt64))))]) hP hD hPn hk
  have hD : va_D (LA s) ([(o0, .inr (0, [.long (pk a0), .long (pk a1), .long (pkn q w), .int (iI ((w : Nat) : Int))])), (u0, .inl (cJ, 1, .inr (.inl (fun _ => (iI ((skN (rw_ r a0 a1) (12 * k + i) len (13 - len) : Nat) : Int)).toInt64))))] ++ [(m0, .inr (1, [.int th, .ref t0, .ref k0, .ref p0, .int (iI ((w : Nat) : Int))])), (t0, .inl (cI, 24, .inl (fun j => iI ((tb a0 a1 j : Nat) : Int)))), (k0, .inl (cI, 12, .inl (fun j => iI ((K j : Nat) : Int)))), (p0, .inl (cI, 12, .inl (fun j => iI ((q j : Nat) : Int))))]) := va_D_same (w := ([(o0, .inr (0, [.long (pk a0), .long (pk a1), .long (pkn q w), .int (iI ((w : Nat) : Int))])), (u0, .inl (cJ, 1, .inr (.inl (g))))] ++ [(m0, .inr (1, [.int th, .ref t0, .ref k0, .ref p0, .int (iI ((w : Nat) : Int))])), (t0, .inl (cI, 24, .inl (fun j => iI ((tb a0 a1 j : Nat) : Int)))), (k0, .inl (cI, 12, .inl (fun j => iI ((K j : Nat) : Int)))), (p0, .inl (cI, 12, .inl (fun j => iI ((q j : Nat) : Int))))])) (Eq.trans (b := [o0, u0, m0, t0, k0, p0]) rfl rfl) hD
  refine va_forget hS.2.2 ?_
  have hS := va_S_nil hS
  refine W.widen (k := cells + 1) (n := slots + 6) (by omega) (by omega) ?_
  refine lv_istore (lv' := [(5, .int (iI 0)), (0, .ref b), (1, .ref o0), (2, .ref m0), (3, .ref u0), (4, .int (iI ((5 * n : Nat) : Int)))]) hx hb dL_law_1306 hl (by decide) rfl (fun ls hl => ?_)
  refine lv_aload_n hx hb dL_law_1308 rfl (lv_at hl 3 rfl) ?_
  refine lv_aload_n hx hb dL_law_1309 rfl (lv_at hl 1 rfl) ?_
  refine lv_iload hx hb dL_law_1310 (lv_at hl 5 rfl) ?_
  refine ib_const hx hb dL_law_1312 ?_
  refine ib_add (z := (((5 * n) + 1 : Nat) : Int)) hx hb dL_law_1313 (by omega) ?_
  refine st_i (y := iI ((5 * n + 1 : Nat) : Int)) (congrArg iI (by omega)) ?_
  refine va_sld (b := b) (L := L) (xs := xs) hx hb hX hbl hbA hS (iI_vp (i := 5 * n + 1) (by omega) (by omega)) dL_law_1314 ?_
  refine st_i (y := iI ((r : Nat) : Int)) ((congrArg xs (iI_cl (by omega))).trans e0) ?_
  refine lv_aload_n hx hb dL_law_1315 rfl (lv_at hl 1 rfl) ?_
  refine lv_iload hx hb dL_law_1316 (lv_at hl 5 rfl) ?_
  refine ib_const hx hb dL_law_1318 ?_
  refine ib_add (z := (((5 * n) + 2 : Nat) : Int)) hx hb dL_law_1319 (by omega) ?_
  refine st_i (y := iI ((5 * n + 2 : Nat) : Int)) (congrArg iI (by omega)) ?_
  refine va_sld (b := b) (L := L) (xs := xs) hx hb hX hbl hbA hS (iI_vp (i := 5 * n + 2) (by omega) (by omega)) dL_law_1320 ?_
  refine st_i (y := iI ((k : Nat) : Int)) ((congrArg xs (iI_cl (by omega))).trans e1) ?_
  refine lv_aload_n hx hb dL_law_1321 rfl (lv_at hl 1 rfl) ?_
  refine lv_iload hx hb dL_law_1322 (lv_at hl 5 rfl) ?_
  refine ib_const hx hb dL_law_1324 ?_
  refine ib_add (z := (((5 * n) + 3 : Nat) : Int)) hx hb dL_law_1325 (by omega) ?_
  refine st_i (y := iI ((5 * n + 3 : Nat) : Int)) (congrArg iI (by omega)) ?_
  refine va_sld (b := b) (L := L) (xs := xs) hx hb hX hbl hbA hS (iI_vp (i := 5 * n + 3) (by omega) (by omega)) dL_law_1326 ?_
  refine st_i (y := iI ((i : Nat) : Int)) ((congrArg xs (iI_cl (by omega))).trans e2) ?_
  refine lv_aload_n hx hb dL_law_1327 rfl (lv_at hl 1 rfl) ?_
  refine lv_iload hx hb dL_law_1328 (lv_at hl 5 rfl) ?_
  refine ib_const hx hb dL_law_1330 ?_
  refine ib_add (z := (((5 * n) + 4 : Nat) : Int)) hx hb dL_law_1331 (by omega) ?_
  refine st_i (y := iI ((5 * n + 4 : Nat) : Int)) (congrArg iI (by omega)) ?_
  refine va_sld (b := b) (L := L) (xs := xs) hx hb hX hbl hbA hS (iI_vp (i := 5 * n + 4) (by omega) (by omega)) dL_law_1332 ?_
  refine st_i (y := iI ((len : Nat) : Int)) ((congrArg xs (iI_cl (by omega))).trans e3) ?_
  have hP2 : va_P (dC, dI) vwCl [(m0, .inr (1, [.int th, .ref t0, .ref k0, .ref p0, .int (iI ((w : Nat) : Int))])), (t0, .inl (cI, 24, .inl (fun j => iI ((tb a0 a1 j : Nat) : Int)))), (k0, .inl (cI, 12, .inl (fun j => iI ((K j : Nat) : Int)))), (p0, .inl (cI, 12, .inl (fun j => iI ((q j : Nat) : Int))))] H := va_P_r (w1 := [(o0, .inr (0, [.long (pk a0), .long (pk a1), .long (pkn q w), .int (iI ((w : Nat) : Int))])), (u0, .inl (cJ, 1, .inr (.inl (fun _ => (iI ((skN (rw_ r a0 a1) (12 * k + i) len (13 - len) : Nat) : Int)).toInt64))))]) (w2 := [(m0, .inr (1, [.int th, .ref t0, .ref k0, .ref p0, .int (iI ((w : Nat) : Int))])), (t0, .inl (cI, 24, .inl (fun j => iI ((tb a0 a1 j : Nat) : Int)))), (k0, .inl (cI, 12, .inl (fun j => iI ((K j : Nat) : Int)))), (p0, .inl (cI, 12, .inl (fun j => iI ((q j : Nat) : Int))))]) hP
  have hK2 := hK.sub (tys' := [(cI, .int)]) [1] rfl
  have hf9 : cells + 1 + 0 ≤ room_1.cells ∧ slots + 6 + 0 ≤ room_1.slots := ⟨by show cells + 1 + 0 ≤ 1036; omega, by show slots + 6 + 0 ≤ 8286; omega⟩
  have hD2 : va_D (LA s) [(m0, .inr (1, [.int th, .ref t0, .ref k0, .ref p0, .int (iI ((w : Nat) : Int))])), (t0, .inl (cI, 24, .inl (fun j => iI ((tb a0 a1 j : Nat) : Int)))), (k0, .inl (cI, 12, .inl (fun j => iI ((K j : Nat) : Int)))), (p0, .inl (cI, 12, .inl (fun j => iI ((q j : Nat) : Int))))] := va_D_r (w1 := [(o0, .inr (0, [.long (pk a0), .long (pk a1), .long (pkn q w), .int (iI ((w : Nat) : Int))])), (u0, .inl (cJ, 1, .inr (.inl (fun _ => (iI ((skN (rw_ r a0 a1) (12 * k + i) len (13 - len) : Nat) : Int)).toInt64))))]) (w2 := [(m0, .inr (1, [.int th, .ref t0, .ref k0, .ref p0, .int (iI ((w : Nat) : Int))])), (t0, .inl (cI, 24, .inl (fun j => iI ((tb a0 a1 j : Nat) : Int)))), (k0, .inl (cI, 12, .inl (fun j => iI ((K j : Nat) : Int)))), (p0, .inl (cI, 12, .inl (fun j => iI ((q j : Nat) : Int))))]) hD
  refine wr_call (va_runV (As := [.int (iI ((r : Nat) : Int)), .int (iI ((k : Nat) : Int)), .int (iI ((i : Nat) : Int)), .int (iI ((len : Nat) : Int))]) (rest := []) ⟨hx, hb, hml, hown, hts⟩ (mX1_keptSets_ok l dC dI cI m0 t0 k0 p0 a0 a1 K q th w hp0.1 hp1.1 hw hq r k i len (by omega) (by omega) (by omega) (by omega) (by omega)) (cwV 4 hts gL_law_X1_keptSets rfl rfl rfl hvX1_keptSets ⟨(Nat.le_of_ble_eq_true rfl), (Nat.le_of_ble_eq_true rfl)⟩) (bD_pre (ci := 1) (q0 := 0) hK2 hP2 hD2 rfl rfl rfl) rfl rfl hl.1 rfl (lv_room (Nat.le_of_ble_eq_true rfl)) dL_law_1333 hf9) hS (fun q9 h => inW_A hD2 h) (fun H locs hPn hz hk hS => ?_)
  have hP : va_P (dC, dI) vwCl ([(o0, .inr (0, [.long (pk a0), .long (pk a1), .long (pkn q w), .int (iI ((w : Nat) : Int))])), (u0, .inl (cJ, 1, .inr (.inl (fun _ => (iI ((skN (rw_ r a0 a1) (12 * k + i) len (13 - len) : Nat) : Int)).toInt64))))] ++ [(m0, .inr (1, [.int (iI 0), .ref t0, .ref k0, .ref p0, .int (iI ((w : Nat) : Int))])), (t0, .inl (cI, 24, .inl (fun j => iI ((tb a0 a1 j : Nat) : Int)))), (k0, .inl (cI, 12, .inl (fun j => iI ((K j : Nat) : Int)))), (p0, .inl (cI, 12, .inl (fun j => iI ((q j : Nat) : Int))))]) H := wj_r (w1 := [(o0, .inr (0, [.long (pk a0), .long (pk a1), .long (pkn q w), .int (iI ((w : Nat) : Int))])), (u0, .inl (cJ, 1, .inr (.inl (fun _ => (iI ((skN (rw_ r a0 a1) (12 * k + i) len (13 - len) : Nat) : Int)).toInt64))))]) (w2 := [(m0, .inr (1, [.int th, .ref t0, .ref k0, .ref p0, .int (iI ((w : Nat) : Int))])), (t0, .inl (cI, 24, .inl (fun j => iI ((tb a0 a1 j : Nat) : Int)))), (k0, .inl (cI, 12, .inl (fun j => iI ((K j : Nat) : Int)))), (p0, .inl (cI, 12, .inl (fun j => iI ((q j : Nat) : Int))))]) (w2' := [(m0, .inr (1, [.int (iI 0), .ref t0, .ref k0, .ref p0, .int (iI ((w : Nat) : Int))])), (t0, .inl (cI, 24, .inl (fun j => iI ((tb a0 a1 j : Nat) : Int)))), (k0, .inl (cI, 12, .inl (fun j => iI ((K j : Nat) : Int)))), (p0, .inl (cI, 12, .inl (fun j => iI ((q j : Nat) : Int))))]) hP hD hPn hk
  have hD : va_D (LA s) ([(o0, .inr (0, [.long (pk a0), .long (pk a1), .long (pkn q w), .int (iI ((w : Nat) : Int))])), (u0, .inl (cJ, 1, .inr (.inl (fun _ => (iI ((skN (rw_ r a0 a1) (12 * k + i) len (13 - len) : Nat) : Int)).toInt64))))] ++ [(m0, .inr (1, [.int (iI 0), .ref t0, .ref k0, .ref p0, .int (iI ((w : Nat) : Int))])), (t0, .inl (cI, 24, .inl (fun j => iI ((tb a0 a1 j : Nat) : Int)))), (k0, .inl (cI, 12, .inl (fun j => iI ((K j : Nat) : Int)))), (p0, .inl (cI, 12, .inl (fun j => iI ((q j : Nat) : Int))))]) := va_D_same (w := ([(o0, .inr (0, [.long (pk a0), .long (pk a1), .long (pkn q w), .int (iI ((w : Nat) : Int))])), (u0, .inl (cJ, 1, .inr (.inl (fun _ => (iI ((skN (rw_ r a0 a1) (12 * k + i) len (13 - len) : Nat) : Int)).toInt64))))] ++ [(m0, .inr (1, [.int th, .ref t0, .ref k0, .ref p0, .int (iI ((w : Nat) : Int))])), (t0, .inl (cI, 24, .inl (fun j => iI ((tb a0 a1 j : Nat) : Int)))), (k0, .inl (cI, 12, .inl (fun j => iI ((K j : Nat) : Int)))), (p0, .inl (cI, 12, .inl (fun j => iI ((q j : Nat) : Int))))])) (Eq.trans (b := [o0, u0, m0, t0, k0, p0]) rfl rfl) hD
  refine va_forget hS.2.2 ?_
  have hS := va_S_nil hS
  refine lv_istore (lv' := [(6, .int (iI ((skN (rw_ r a0 a1) (12 * k + i) len (13 - len) : Nat) : Int))), (5, .int (iI 0)), (0, .ref b), (1, .ref o0), (2, .ref m0), (3, .ref u0), (4, .int (iI ((5 * n : Nat) : Int)))]) hx hb dL_law_1336 hl (by decide) rfl (fun ls hl => ?_)
  refine lv_aload_n hx hb dL_law_1338 rfl (lv_at hl 4 rfl) ?_
  have hP2 : va_P (dC, dI) vwCl [(m0, .inr (1, [.int (iI 0), .ref t0, .ref k0, .ref p0, .int (iI ((w : Nat) : Int))])), (t0, .inl (cI, 24, .inl (fun j => iI ((tb a0 a1 j : Nat) : Int)))), (k0, .inl (cI, 12, .inl (fun j => iI ((K j : Nat) : Int)))), (p0, .inl (cI, 12, .inl (fun j => iI ((q j : Nat) : Int))))] H := va_P_r (w1 := [(o0, .inr (0, [.long (pk a0), .long (pk a1), .long (pkn q w), .int (iI ((w : Nat) : Int))])), (u0, .inl (cJ, 1, .inr (.inl (fun _ => (iI ((skN (rw_ r a0 a1) (12 * k + i) len (13 - len) : Nat) : Int)).toInt64))))]) (w2 := [(m0, .inr (1, [.int (iI 0), .ref t0, .ref k0, .ref p0, .int (iI ((w : Nat) : Int))])), (t0, .inl (cI, 24, .inl (fun j => iI ((tb a0 a1 j : Nat) : Int)))), (k0, .inl (cI, 12, .inl (fun j => iI ((K j : Nat) : Int)))), (p0, .inl (cI, 12, .inl (fun j => iI ((q j : Nat) : Int))))]) hP
  have hK2 := hK.sub (tys' := [(cI, .int)]) [1] rfl
  have hf9 : cells + 1 + 0 ≤ room_1.cells ∧ slots + 6 + 0 ≤ room_1.slots := ⟨by show cells + 1 + 0 ≤ 1036; omega, by show slots + 6 + 0 ≤ 8286; omega⟩
  refine rd_call (va_runV (As := []) (rest := []) ⟨hx, hb, hml, hown, hts⟩ (mX1_thrown l dC dI cI m0 t0 k0 p0 a0 a1 K q (iI 0) w hp0.1 hp1.1 hw hq) (cwV 0 hts gL_law_X1_thrown rfl rfl rfl hvX1_thrown ⟨(Nat.le_of_ble_eq_true rfl), (Nat.le_of_ble_eq_true rfl)⟩) (bW_pre (ci := 1) (q0 := 0) hK2 hP2 rfl rfl rfl) rfl rfl hl.1 rfl (lv_room (Nat.le_of_ble_eq_true rfl)) dL_law_1339 hf9) ?_
  refine lv_iload hx hb dL_law_1342 (lv_at hl 1 rfl) ?_
  refine ib_icmp_eq (tgt := 1349) hx hb dL_law_1344 (by decide) ⟨by omega, by omega⟩ ⟨by omega, by omega⟩ (fun c_1344 => ?_) (fun c_1344 => absurd c_1344 (by decide))
  refine lv_iload hx hb dL_law_1349 (lv_at hl 1 rfl) ?_
  refine ib_if_ne (tgt := 1366) hx hb dL_law_1351 (by decide) ⟨by omega, by omega⟩ (fun c_1351 => absurd c_1351 (by decide)) (fun c_1351 => ?_)
  refine lv_aload_n hx hb dL_law_1354 rfl (lv_at hl 5 rfl) ?_
  refine ib_const hx hb dL_law_1355 ?_
  refine va_lald hx hb hK hP 1 0 rfl rfl vp0 dL_law_1356 ?_
  refine st_l (y := (iI ((skN (rw_ r a0 a1) (12 * k + i) len (13 - len) : Nat) : Int)).toInt64) rfl ?_
  refine lv_iload hx hb dL_law_1357 (lv_at hl 0 rfl) ?_
  refine lv_i2l hx hb dL_law_1359 rfl ?_
  refine W.lcmp hx hb dL_law_1360 ?_
  refine bl_eq (tgt := 1366) hx hb dL_law_1361 (by decide) (fun _ => ?_) (fun h => absurd rfl h)
  refine lv_goto (tgt := 1833) hx hb dL_law_1366 (by decide) ?_
  exact kk a0 a1 q K w (iI 0) (fun _ => (iI ((skN (rw_ r a0 a1) (12 * k + i) len (13 - len) : Nat) : Int)).toInt64) H ls ⟨hp0, hp1, hw, hq, hqd, hP, hD, hS⟩ (lv_sub hl [2, 3, 4, 5, 6] rfl)

set_option maxHeartbeats 4000000 in
set_option maxRecDepth 100000 in
theorem law_c17 {p : Program} {l : Launch} {e : Env} {s : State} {m : MethodId} {below : List Frame} {meth : Method} {c : Code} {Q : State → Prop} {dC : Nat → ClassId} {dI : Nat → Nat → Nat} {cI cJ : ClassId} {b L : Nat} {xs : Nat → Int32} (C : LC p l s m meth c (dC, dI) cI cJ b L xs) {o0 u0 m0 t0 k0 p0 : Nat} {a0 a1 q K : Nat → Nat} {w : Nat} {th : Int32} {g : Nat → Int64} {H : Heap} (hI : LI s (dC, dI) cI cJ o0 u0 m0 t0 k0 p0 a0 a1 q K w th g H) {n cells slots : Nat} (hc1 : cells + 1 ≤ 1036) (hc2 : slots + 6 ≤ 8286) (hn : 5 * n + 5 ≤ L) (hL : L ≤ 2560) {ls : Array Slot} (hl : lv_has ls 8 [(0, .ref b), (1, .ref o0), (2, .ref m0), (3, .ref u0), (4, .int (iI ((5 * n : Nat) : Int)))])
    (kk : ∀ (a0 a1 q K : Nat → Nat) (w : Nat) (th : Int32) (g : Nat → Int64) (H : Heap) (ls : Array Slot), LI s (dC, dI) cI cJ o0 u0 m0 t0 k0 p0 a0 a1 q K w th g H → lv_has ls 8 [(0, .ref b), (1, .ref o0), (2, .ref m0), (3, .ref u0), (4, .int (iI ((5 * n : Nat) : Int)))] → W p l e room_1 s m #[Value.ref b] below meth c H [] (cells + 1) (slots + 6) Q (F0 m 1833 ls [])) : W p l e room_1 s m #[Value.ref b] below meth c H [] cells slots Q (F0 m 1369 ls []) := by
  obtain ⟨hx, hb, hml, hown, hts, hK, hG0, hN, hX, hbl, hfl⟩ := C
  obtain ⟨hp0, hp1, hw, hq, hqd, hP, hD, hS⟩ := hI
  have hbA : ¬ LA s b := Nat.not_le.mpr hbl
  obtain ⟨z0, hz0, e0⟩ := ex_i (xs (5 * n + 1))
  obtain ⟨z1, hz1, e1⟩ := ex_i (xs (5 * n + 2))
  obtain ⟨z2, hz2, e2⟩ := ex_i (xs (5 * n + 3))
  have hza0 := hz0.1
  have hzb0 := hz0.2
  have hza1 := hz1.1
  have hzb1 := hz1.2
  have hza2 := hz2.1
  have hzb2 := hz2.2
  by_cases b1 : ¬ (z0 = 0 ∨ z0 = 1)
  · skip
    refine lv_aload_n hx hb dL_law_1369 rfl (lv_at hl 1 rfl) ?_
    refine lv_aload_n hx hb dL_law_1370 rfl (lv_at hl 0 rfl) ?_
    refine lv_iload hx hb dL_law_1371 (lv_at hl 4 rfl) ?_
    refine ib_const hx hb dL_law_1373 ?_
    refine ib_add (z := (((5 * n) + 1 : Nat) : Int)) hx hb dL_law_1374 (by omega) ?_
    refine st_i (y := iI ((5 * n + 1 : Nat) : Int)) (congrArg iI (by omega)) ?_
    refine va_sld (b := b) (L := L) (xs := xs) hx hb hX hbl hbA hS (iI_vp (i := 5 * n + 1) (by omega) (by omega)) dL_law_1375 ?_
    refine st_i (y := iI z0) ((congrArg xs (iI_cl (by omega))).trans e0) ?_
    refine lv_aload_n hx hb dL_law_1376 rfl (lv_at hl 0 rfl) ?_
    refine lv_iload hx hb dL_law_1377 (lv_at hl 4 rfl) ?_
    refine ib_const hx hb dL_law_1379 ?_
    refine ib_add (z := (((5 * n) + 2 : Nat) : Int)) hx hb dL_law_1380 (by omega) ?_
    refine st_i (y := iI ((5 * n + 2 : Nat) : Int)) (congrArg iI (by omega)) ?_
    refine va_sld (b := b) (L := L) (xs := xs) hx hb hX hbl hbA hS (iI_vp (i := 5 * n + 2) (by omega) (by omega)) dL_law_1381 ?_
    refine st_i (y := iI z1) ((congrArg xs (iI_cl (by omega))).trans e1) ?_
    refine lv_aload_n hx hb dL_law_1382 rfl (lv_at hl 0 rfl) ?_
    refine lv_iload hx hb dL_law_1383 (lv_at hl 4 rfl) ?_
    refine ib_const hx hb dL_law_1385 ?_
    refine ib_add (z := (((5 * n) + 3 : Nat) : Int)) hx hb dL_law_1386 (by omega) ?_
    refine st_i (y := iI ((5 * n + 3 : Nat) : Int)) (congrArg iI (by omega)) ?_
    refine va_sld (b := b) (L := L) (xs := xs) hx hb hX hbl hbA hS (iI_vp (i := 5 * n + 3) (by omega) (by omega)) dL_law_1387 ?_
    refine st_i (y := iI z2) ((congrArg xs (iI_cl (by omega))).trans e2) ?_
    refine lv_aload_n hx hb dL_law_1388 rfl (lv_at hl 3 rfl) ?_
    have hf9 : cells + 1 ≤ room_1.cells ∧ slots + 6 ≤ room_1.slots := ⟨by show cells + 1 ≤ 1036; omega, by show slots + 6 ≤ 8286; omega⟩
    have hP1 : va_P (dC, dI) vwCl [(o0, .inr (0, [.long (pk a0), .long (pk a1), .long (pkn q w), .int (iI ((w : Nat) : Int))]))] H := va_P_l (w1 := [(o0, .inr (0, [.long (pk a0), .long (pk a1), .long (pkn q w), .int (iI ((w : Nat) : Int))]))]) (w2 := [(u0, .inl (cJ, 1, .inr (.inl (g)))), (m0, .inr (1, [.int th, .ref t0, .ref k0, .ref p0, .int (iI ((w : Nat) : Int))])), (t0, .inl (cI, 24, .inl (fun j => iI ((tb a0 a1 j : Nat) : Int)))), (k0, .inl (cI, 12, .inl (fun j => iI ((K j : Nat) : Int)))), (p0, .inl (cI, 12, .inl (fun j => iI ((q j : Nat) : Int))))]) hP
    have hK1 := hK.sub (tys' := []) [] rfl
    refine rdK_call (vx_runSW (As := [.ref o0, .int (iI z0), .int (iI z1), .int (iI z2), .ref u0]) (rest := []) ⟨hx, hb, hml, hown, hts⟩ (mL_longestKept_x1 l hfl dC dI o0 a0 a1 q w hp0 hp1 hw hq hqd u0 z0 z1 z2 hz0 hz1 hz2 b1) (vx_cwSW 5 hts gL_law_L_longestKept rfl rfl rfl hdL_longestKept ⟨(Nat.le_of_ble_eq_true rfl), (Nat.le_of_ble_eq_true rfl)⟩) (bY_preS hK1 hP1 (hG0.at hS) hN) rfl rfl hl.1 rfl (lv_room (Nat.le_of_ble_eq_true rfl)) dL_law_1389 hf9) (fun H hz hk => ?_)
    have hP : va_P (dC, dI) vwCl ([(o0, .inr (0, [.long (pk a0), .long (pk a1), .long (pkn q w), .int (iI ((w : Nat) : Int))])), (u0, .inl (cJ, 1, .inr (.inl (g))))] ++ [(m0, .inr (1, [.int th, .ref t0, .ref k0, .ref p0, .int (iI ((w : Nat) : Int))])), (t0, .inl (cI, 24, .inl (fun j => iI ((tb a0 a1 j : Nat) : Int)))), (k0, .inl (cI, 12, .inl (fun j => iI ((K j : Nat) : Int)))), (p0, .inl (cI, 12, .inl (fun j => iI ((q j : Nat) : Int))))]) H := va_P_new hP hk
    have hS := va_S_new hS hz hk
    refine lv_istore (lv' := [(5, .int (iI 1)), (0, .ref b), (1, .ref o0), (2, .ref m0), (3, .ref u0), (4, .int (iI ((5 * n : Nat) : Int)))]) hx hb dL_law_1392 hl (by decide) rfl (fun ls hl => ?_)
    refine lv_aload_n hx hb dL_law_1394 rfl (lv_at hl 3 rfl) ?_
    refine lv_aload_n hx hb dL_law_1395 rfl (lv_at hl 1 rfl) ?_
    refine lv_iload hx hb dL_law_1396 (lv_at hl 5 rfl) ?_
    refine ib_const hx hb dL_law_1398 ?_
    refine ib_add (z := (((5 * n) + 1 : Nat) : Int)) hx hb dL_law_1399 (by omega) ?_
    refine st_i (y := iI ((5 * n + 1 : Nat) : Int)) (congrArg iI (by omega)) ?_
    refine va_sld (b := b) (L := L) (xs := xs) hx hb hX hbl hbA hS (iI_vp (i := 5 * n + 1) (by omega) (by omega)) dL_law_1400 ?_
    refine st_i (y := iI z0) ((congrArg xs (iI_cl (by omega))).trans e0) ?_
    refine lv_aload_n hx hb dL_law_1401 rfl (lv_at hl 1 rfl) ?_
    refine lv_iload hx hb dL_law_1402 (lv_at hl 5 rfl) ?_
    refine ib_const hx hb dL_law_1404 ?_
    refine ib_add (z := (((5 * n) + 2 : Nat) : Int)) hx hb dL_law_1405 (by omega) ?_
    refine st_i (y := iI ((5 * n + 2 : Nat) : Int)) (congrArg iI (by omega)) ?_
    refine va_sld (b := b) (L := L) (xs := xs) hx hb hX hbl hbA hS (iI_vp (i := 5 * n + 2) (by omega) (by omega)) dL_law_1406 ?_
    refine st_i (y := iI z1) ((congrArg xs (iI_cl (by omega))).trans e1) ?_
    refine lv_aload_n hx hb dL_law_1407 rfl (lv_at hl 1 rfl) ?_
    refine lv_iload hx hb dL_law_1408 (lv_at hl 5 rfl) ?_
    refine ib_const hx hb dL_law_1410 ?_
    refine ib_add (z := (((5 * n) + 3 : Nat) : Int)) hx hb dL_law_1411 (by omega) ?_
    refine st_i (y := iI ((5 * n + 3 : Nat) : Int)) (congrArg iI (by omega)) ?_
    refine va_sld (b := b) (L := L) (xs := xs) hx hb hX hbl hbA hS (iI_vp (i := 5 * n + 3) (by omega) (by omega)) dL_law_1412 ?_
    refine st_i (y := iI z2) ((congrArg xs (iI_cl (by omega))).trans e2) ?_
    have hP2 : va_P (dC, dI) vwCl [(m0, .inr (1, [.int th, .ref t0, .ref k0, .ref p0, .int (iI ((w : Nat) : Int))])), (t0, .inl (cI, 24, .inl (fun j => iI ((tb a0 a1 j : Nat) : Int)))), (k0, .inl (cI, 12, .inl (fun j => iI ((K j : Nat) : Int)))), (p0, .inl (cI, 12, .inl (fun j => iI ((q j : Nat) : Int))))] H := va_P_r (w1 := [(o0, .inr (0, [.long (pk a0), .long (pk a1), .long (pkn q w), .int (iI ((w : Nat) : Int))])), (u0, .inl (cJ, 1, .inr (.inl (g))))]) (w2 := [(m0, .inr (1, [.int th, .ref t0, .ref k0, .ref p0, .int (iI ((w : Nat) : Int))])), (t0, .inl (cI, 24, .inl (fun j => iI ((tb a0 a1 j : Nat) : Int)))), (k0, .inl (cI, 12, .inl (fun j => iI ((K j : Nat) : Int)))), (p0, .inl (cI, 12, .inl (fun j => iI ((q j : Nat) : Int))))]) hP
    have hK2 := hK.sub (tys' := [(cI, .int)]) [1] rfl
    have hf9 : cells + 1 + 0 ≤ room_1.cells ∧ slots + 6 + 0 ≤ room_1.slots := ⟨by show cells + 1 + 0 ≤ 1036; omega, by show slots + 6 + 0 ≤ 8286; omega⟩
    have hD2 : va_D (LA s) [(m0, .inr (1, [.int th, .ref t0, .ref k0, .ref p0, .int (iI ((w : Nat) : Int))])), (t0, .inl (cI, 24, .inl (fun j => iI ((tb a0 a1 j : Nat) : Int)))), (k0, .inl (cI, 12, .inl (fun j => iI ((K j : Nat) : Int)))), (p0, .inl (cI, 12, .inl (fun j => iI ((q j : Nat) : Int))))] := va_D_r (w1 := [(o0, .inr (0, [.long (pk a0), .long (pk a1), .long (pkn q w), .int (iI ((w : Nat) : Int))])), (u0, .inl (cJ, 1, .inr (.inl (g))))]) (w2 := [(m0, .inr (1, [.int th, .ref t0, .ref k0, .ref p0, .int (iI ((w : Nat) : Int))])), (t0, .inl (cI, 24, .inl (fun j => iI ((tb a0 a1 j : Nat) : Int)))), (k0, .inl (cI, 12, .inl (fun j => iI ((K j : Nat) : Int)))), (p0, .inl (cI, 12, .inl (fun j => iI ((q j : Nat) : Int))))]) hD
    refine wr_call (va_runV (As := [.int (iI z0), .int (iI z1), .int (iI z2)]) (rest := []) ⟨hx, hb, hml, hown, hts⟩ (mX1_longestKept_x1 l dC dI cI m0 t0 k0 p0 a0 a1 K q th w hp0.1 hp1.1 hw hq z0 z1 z2 hz0 hz1 hz2 b1) (cwV 3 hts gL_law_X1_longestKept rfl rfl rfl hvX1_longestKept ⟨(Nat.le_of_ble_eq_true rfl), (Nat.le_of_ble_eq_true rfl)⟩) (bD_pre (ci := 1) (q0 := 0) hK2 hP2 hD2 rfl rfl rfl) rfl rfl hl.1 rfl (lv_room (Nat.le_of_ble_eq_true rfl)) dL_law_1413 hf9) hS (fun q9 h => inW_A hD2 h) (fun H locs hPn hz hk hS => ?_)
    have hP : va_P (dC, dI) vwCl ([(o0, .inr (0, [.long (pk a0), .long (pk a1), .long (pkn q w), .int (iI ((w : Nat) : Int))])), (u0, .inl (cJ, 1, .inr (.inl (g))))] ++ [(m0, .inr (1, [.int (iI 1), .ref t0, .ref k0, .ref p0, .int (iI ((w : Nat) : Int))])), (t0, .inl (cI, 24, .inl (fun j => iI ((tb a0 a1 j : Nat) : Int)))), (k0, .inl (cI, 12, .inl (fun j => iI ((K j : Nat) : Int)))), (p0, .inl (cI, 12, .inl (fun j => iI ((q j : Nat) : Int))))]) H := wj_r (w1 := [(o0, .inr (0, [.long (pk a0), .long (pk a1), .long (pkn q w), .int (iI ((w : Nat) : Int))])), (u0, .inl (cJ, 1, .inr (.inl (g))))]) (w2 := [(m0, .inr (1, [.int th, .ref t0, .ref k0, .ref p0, .int (iI ((w : Nat) : Int))])), (t0, .inl (cI, 24, .inl (fun j => iI ((tb a0 a1 j : Nat) : Int)))), (k0, .inl (cI, 12, .inl (fun j => iI ((K j : Nat) : Int)))), (p0, .inl (cI, 12, .inl (fun j => iI ((q j : Nat) : Int))))]) (w2' := [(m0, .inr (1, [.int (iI 1), .ref t0, .ref k0, .ref p0, .int (iI ((w : Nat) : Int))])), (t0, .inl (cI, 24, .inl (fun j => iI ((tb a0 a1 j : Nat) : Int)))), (k0, .inl (cI, 12, .inl (fun j => iI ((K j : Nat) : Int)))), (p0, .inl (cI, 12, .inl (fun j => iI ((q j : Nat) : Int))))]) hP hD hPn hk
    have hD : va_D (LA s) ([(o0, .inr (0, [.long (pk a0), .long (pk a1), .long (pkn q w), .int (iI ((w : Nat) : Int))])), (u0, .inl (cJ, 1, .inr (.inl (g))))] ++ [(m0, .inr (1, [.int (iI 1), .ref t0, .ref k0, .ref p0, .int (iI ((w : Nat) : Int))])), (t0, .inl (cI, 24, .inl (fun j => iI ((tb a0 a1 j : Nat) : Int)))), (k0, .inl (cI, 12, .inl (fun j => iI ((K j : Nat) : Int)))), (p0, .inl (cI, 12, .inl (fun j => iI ((q j : Nat) : Int))))]) := va_D_same (w := ([(o0, .inr (0, [.long (pk a0), .long (pk a1), .long (pkn q w), .int (iI ((w : Nat) : Int))])), (u0, .inl (cJ, 1, .inr (.inl (g))))] ++ [(m0, .inr (1, [.int th, .ref t0, .ref k0, .ref p0, .int (iI ((w : Nat) : Int))])), (t0, .inl (cI, 24, .inl (fun j => iI ((tb a0 a1 j : Nat) : Int)))), (k0, .inl (cI, 12, .inl (fun j => iI ((K j : Nat) : Int)))), (p0, .inl (cI, 12, .inl (fun j => iI ((q j : Nat) : Int))))])) (Eq.trans (b := [o0, u0, m0, t0, k0, p0]) rfl rfl) hD
    refine va_forget hS.2.2 ?_
    have hS := va_S_nil hS
    refine lv_istore (lv' := [(6, .int (iI 0)), (5, .int (iI 1)), (0, .ref b), (1, .ref o0), (2, .ref m0), (3, .ref u0), (4, .int (iI ((5 * n : Nat) : Int)))]) hx hb dL_law_1416 hl (by decide) rfl (fun ls hl => ?_)
    refine lv_aload_n hx hb dL_law_1418 rfl (lv_at hl 4 rfl) ?_
    have hP2 : va_P (dC, dI) vwCl [(m0, .inr (1, [.int (iI 1), .ref t0, .ref k0, .ref p0, .int (iI ((w : Nat) : Int))])), (t0, .inl (cI, 24, .inl (fun j => iI ((tb a0 a1 j : Nat) : Int)))), (k0, .inl (cI, 12, .inl (fun j => iI ((K j : Nat) : Int)))), (p0, .inl (cI, 12, .inl (fun j => iI ((q j : Nat) : Int))))] H := va_P_r (w1 := [(o0, .inr (0, [.long (pk a0), .long (pk a1), .long (pkn q w), .int (iI ((w : Nat) : Int))])), (u0, .inl (cJ, 1, .inr (.inl (g))))]) (w2 := [(m0, .inr (1, [.int (iI 1), .ref t0, .ref k0, .ref p0, .int (iI ((w : Nat) : Int))])), (t0, .inl (cI, 24, .inl (fun j => iI ((tb a0 a1 j : Nat) : Int)))), (k0, .inl (cI, 12, .inl (fun j => iI ((K j : Nat) : Int)))), (p0, .inl (cI, 12, .inl (fun j => iI ((q j : Nat) : Int))))]) hP
    have hK2 := hK.sub (tys' := [(cI, .int)]) [1] rfl
    have hf9 : cells + 1 + 0 ≤ room_1.cells ∧ slots + 6 + 0 ≤ room_1.slots := ⟨by show cells + 1 + 0 ≤ 1036; omega, by show slots + 6 + 0 ≤ 8286; omega⟩
    refine rd_call (va_runV (As := []) (rest := []) ⟨hx, hb, hml, hown, hts⟩ (mX1_thrown l dC dI cI m0 t0 k0 p0 a0 a1 K q (iI 1) w hp0.1 hp1.1 hw hq) (cwV 0 hts gL_law_X1_thrown rfl rfl rfl hvX1_thrown ⟨(Nat.le_of_ble_eq_true rfl), (Nat.le_of_ble_eq_true rfl)⟩) (bW_pre (ci := 1) (q0 := 0) hK2 hP2 rfl rfl rfl) rfl rfl hl.1 rfl (lv_room (Nat.le_of_ble_eq_true rfl)) dL_law_1419 hf9) ?_
    refine lv_iload hx hb dL_law_1422 (lv_at hl 1 rfl) ?_
    refine ib_icmp_eq (tgt := 1429) hx hb dL_law_1424 (by decide) ⟨by omega, by omega⟩ ⟨by omega, by omega⟩ (fun c_1424 => ?_) (fun c_1424 => absurd c_1424 (by decide))
    refine lv_iload hx hb dL_law_1429 (lv_at hl 1 rfl) ?_
    refine ib_if_ne (tgt := 1446) hx hb dL_law_1431 (by decide) ⟨by omega, by omega⟩ (fun c_1431 => ?_) (fun c_1431 => absurd c_1431 (by decide))
    refine lv_goto (tgt := 1833) hx hb dL_law_1446 (by decide) ?_
    exact kk a0 a1 q K w (iI 1) (g) H ls ⟨hp0, hp1, hw, hq, hqd, hP, hD, hS⟩ (lv_sub hl [2, 3, 4, 5, 6] rfl)
  by_cases b2 : (z0 = 0 ∨ z0 = 1) ∧ ¬ (0 ≤ z1 ∧ z1 ≤ 3 ∧ 0 ≤ z2 ∧ z2 ≤ 11)
  · skip
    refine lv_aload_n hx hb dL_law_1369 rfl (lv_at hl 1 rfl) ?_
    refine lv_aload_n hx hb dL_law_1370 rfl (lv_at hl 0 rfl) ?_
    refine lv_iload hx hb dL_law_1371 (lv_at hl 4 rfl) ?_
    refine ib_const hx hb dL_law_1373 ?_
    refine ib_add (z := (((5 * n) + 1 : Nat) : Int)) hx hb dL_law_1374 (by omega) ?_
    refine st_i (y := iI ((5 * n + 1 : Nat) : Int)) (congrArg iI (by omega)) ?_
    refine va_sld (b := b) (L := L) (xs := xs) hx hb hX hbl hbA hS (iI_vp (i := 5 * n + 1) (by omega) (by omega)) dL_law_1375 ?_
    refine st_i (y := iI z0) ((congrArg xs (iI_cl (by omega))).trans e0) ?_
    refine lv_aload_n hx hb dL_law_1376 rfl (lv_at hl 0 rfl) ?_
    refine lv_iload hx hb dL_law_1377 (lv_at hl 4 rfl) ?_
    refine ib_const hx hb dL_law_1379 ?_
    refine ib_add (z := (((5 * n) + 2 : Nat) : Int)) hx hb dL_law_1380 (by omega) ?_
    refine st_i (y := iI ((5 * n + 2 : Nat) : Int)) (congrArg iI (by omega)) ?_
    refine va_sld (b := b) (L := L) (xs := xs) hx hb hX hbl hbA hS (iI_vp (i := 5 * n + 2) (by omega) (by omega)) dL_law_1381 ?_
    refine st_i (y := iI z1) ((congrArg xs (iI_cl (by omega))).trans e1) ?_
    refine lv_aload_n hx hb dL_law_1382 rfl (lv_at hl 0 rfl) ?_
    refine lv_iload hx hb dL_law_1383 (lv_at hl 4 rfl) ?_
    refine ib_const hx hb dL_law_1385 ?_
    refine ib_add (z := (((5 * n) + 3 : Nat) : Int)) hx hb dL_law_1386 (by omega) ?_
    refine st_i (y := iI ((5 * n + 3 : Nat) : Int)) (congrArg iI (by omega)) ?_
    refine va_sld (b := b) (L := L) (xs := xs) hx hb hX hbl hbA hS (iI_vp (i := 5 * n + 3) (by omega) (by omega)) dL_law_1387 ?_
    refine st_i (y := iI z2) ((congrArg xs (iI_cl (by omega))).trans e2) ?_
    refine lv_aload_n hx hb dL_law_1388 rfl (lv_at hl 3 rfl) ?_
    have hf9 : cells + 1 ≤ room_1.cells ∧ slots + 6 ≤ room_1.slots := ⟨by show cells + 1 ≤ 1036; omega, by show slots + 6 ≤ 8286; omega⟩
    have hP1 : va_P (dC, dI) vwCl [(o0, .inr (0, [.long (pk a0), .long (pk a1), .long (pkn q w), .int (iI ((w : Nat) : Int))]))] H := va_P_l (w1 := [(o0, .inr (0, [.long (pk a0), .long (pk a1), .long (pkn q w), .int (iI ((w : Nat) : Int))]))]) (w2 := [(u0, .inl (cJ, 1, .inr (.inl (g)))), (m0, .inr (1, [.int th, .ref t0, .ref k0, .ref p0, .int (iI ((w : Nat) : Int))])), (t0, .inl (cI, 24, .inl (fun j => iI ((tb a0 a1 j : Nat) : Int)))), (k0, .inl (cI, 12, .inl (fun j => iI ((K j : Nat) : Int)))), (p0, .inl (cI, 12, .inl (fun j => iI ((q j : Nat) : Int))))]) hP
    have hK1 := hK.sub (tys' := []) [] rfl
    refine rdK_call (vx_runSW (As := [.ref o0, .int (iI z0), .int (iI z1), .int (iI z2), .ref u0]) (rest := []) ⟨hx, hb, hml, hown, hts⟩ (mL_longestKept_x2 l hfl dC dI o0 a0 a1 q w hp0 hp1 hw hq hqd u0 z0 z1 z2 hz0 hz1 hz2 b2) (vx_cwSW 5 hts gL_law_L_longestKept rfl rfl rfl hdL_longestKept ⟨(Nat.le_of_ble_eq_true rfl), (Nat.le_of_ble_eq_true rfl)⟩) (bY_preS hK1 hP1 (hG0.at hS) hN) rfl rfl hl.1 rfl (lv_room (Nat.le_of_ble_eq_true rfl)) dL_law_1389 hf9) (fun H hz hk => ?_)
    have hP : va_P (dC, dI) vwCl ([(o0, .inr (0, [.long (pk a0), .long (pk a1), .long (pkn q w), .int (iI ((w : Nat) : Int))])), (u0, .inl (cJ, 1, .inr (.inl (g))))] ++ [(m0, .inr (1, [.int th, .ref t0, .ref k0, .ref p0, .int (iI ((w : Nat) : Int))])), (t0, .inl (cI, 24, .inl (fun j => iI ((tb a0 a1 j : Nat) : Int)))), (k0, .inl (cI, 12, .inl (fun j => iI ((K j : Nat) : Int)))), (p0, .inl (cI, 12, .inl (fun j => iI ((q j : Nat) : Int))))]) H := va_P_new hP hk
    have hS := va_S_new hS hz hk
    refine lv_istore (lv' := [(5, .int (iI 2)), (0, .ref b), (1, .ref o0), (2, .ref m0), (3, .ref u0), (4, .int (iI ((5 * n : Nat) : Int)))]) hx hb dL_law_1392 hl (by decide) rfl (fun ls hl => ?_)
    refine lv_aload_n hx hb dL_law_1394 rfl (lv_at hl 3 rfl) ?_
    refine lv_aload_n hx hb dL_law_1395 rfl (lv_at hl 1 rfl) ?_
    refine lv_iload hx hb dL_law_1396 (lv_at hl 5 rfl) ?_
    refine ib_const hx hb dL_law_1398 ?_
    refine ib_add (z := (((5 * n) + 1 : Nat) : Int)) hx hb dL_law_1399 (by omega) ?_
    refine st_i (y := iI ((5 * n + 1 : Nat) : Int)) (congrArg iI (by omega)) ?_
    refine va_sld (b := b) (L := L) (xs := xs) hx hb hX hbl hbA hS (iI_vp (i := 5 * n + 1) (by omega) (by omega)) dL_law_1400 ?_
    refine st_i (y := iI z0) ((congrArg xs (iI_cl (by omega))).trans e0) ?_
    refine lv_aload_n hx hb dL_law_1401 rfl (lv_at hl 1 rfl) ?_
    refine lv_iload hx hb dL_law_1402 (lv_at hl 5 rfl) ?_
    refine ib_const hx hb dL_law_1404 ?_
    refine ib_add (z := (((5 * n) + 2 : Nat) : Int)) hx hb dL_law_1405 (by omega) ?_
    refine st_i (y := iI ((5 * n + 2 : Nat) : Int)) (congrArg iI (by omega)) ?_
    refine va_sld (b := b) (L := L) (xs := xs) hx hb hX hbl hbA hS (iI_vp (i := 5 * n + 2) (by omega) (by omega)) dL_law_1406 ?_
    refine st_i (y := iI z1) ((congrArg xs (iI_cl (by omega))).trans e1) ?_
    refine lv_aload_n hx hb dL_law_1407 rfl (lv_at hl 1 rfl) ?_
    refine lv_iload hx hb dL_law_1408 (lv_at hl 5 rfl) ?_
    refine ib_const hx hb dL_law_1410 ?_
    refine ib_add (z := (((5 * n) + 3 : Nat) : Int)) hx hb dL_law_1411 (by omega) ?_
    refine st_i (y := iI ((5 * n + 3 : Nat) : Int)) (congrArg iI (by omega)) ?_
    refine va_sld (b := b) (L := L) (xs := xs) hx hb hX hbl hbA hS (iI_vp (i := 5 * n + 3) (by omega) (by omega)) dL_law_1412 ?_
    refine st_i (y := iI z2) ((congrArg xs (iI_cl (by omega))).trans e2) ?_
    have hP2 : va_P (dC, dI) vwCl [(m0, .inr (1, [.int th, .ref t0, .ref k0, .ref p0, .int (iI ((w : Nat) : Int))])), (t0, .inl (cI, 24, .inl (fun j => iI ((tb a0 a1 j : Nat) : Int)))), (k0, .inl (cI, 12, .inl (fun j => iI ((K j : Nat) : Int)))), (p0, .inl (cI, 12, .inl (fun j => iI ((q j : Nat) : Int))))] H := va_P_r (w1 := [(o0, .inr (0, [.long (pk a0), .long (pk a1), .long (pkn q w), .int (iI ((w : Nat) : Int))])), (u0, .inl (cJ, 1, .inr (.inl (g))))]) (w2 := [(m0, .inr (1, [.int th, .ref t0, .ref k0, .ref p0, .int (iI ((w : Nat) : Int))])), (t0, .inl (cI, 24, .inl (fun j => iI ((tb a0 a1 j : Nat) : Int)))), (k0, .inl (cI, 12, .inl (fun j => iI ((K j : Nat) : Int)))), (p0, .inl (cI, 12, .inl (fun j => iI ((q j : Nat) : Int))))]) hP
    have hK2 := hK.sub (tys' := [(cI, .int)]) [1] rfl
    have hf9 : cells + 1 + 0 ≤ room_1.cells ∧ slots + 6 + 0 ≤ room_1.slots := ⟨by show cells + 1 + 0 ≤ 1036; omega, by show slots + 6 + 0 ≤ 8286; omega⟩
    have hD2 : va_D (LA s) [(m0, .inr (1, [.int th, .ref t0, .ref k0, .ref p0, .int (iI ((w : Nat) : Int))])), (t0, .inl (cI, 24, .inl (fun j => iI ((tb a0 a1 j : Nat) : Int)))), (k0, .inl (cI, 12, .inl (fun j => iI ((K j : Nat) : Int)))), (p0, .inl (cI, 12, .inl (fun j => iI ((q j : Nat) : Int))))] := va_D_r (w1 := [(o0, .inr (0, [.long (pk a0), .long (pk a1), .long (pkn q w), .int (iI ((w : Nat) : Int))])), (u0, .inl (cJ, 1, .inr (.inl (g))))]) (w2 := [(m0, .inr (1, [.int th, .ref t0, .ref k0, .ref p0, .int (iI ((w : Nat) : Int))])), (t0, .inl (cI, 24, .inl (fun j => iI ((tb a0 a1 j : Nat) : Int)))), (k0, .inl (cI, 12, .inl (fun j => iI ((K j : Nat) : Int)))), (p0, .inl (cI, 12, .inl (fun j => iI ((q j : Nat) : Int))))]) hD
    refine wr_call (va_runV (As := [.int (iI z0), .int (iI z1), .int (iI z2)]) (rest := []) ⟨hx, hb, hml, hown, hts⟩ (mX1_longestKept_x2 l dC dI cI m0 t0 k0 p0 a0 a1 K q th w hp0.1 hp1.1 hw hq z0 z1 z2 hz0 hz1 hz2 b2) (cwV 3 hts gL_law_X1_longestKept rfl rfl rfl hvX1_longestKept ⟨(Nat.le_of_ble_eq_true rfl), (Nat.le_of_ble_eq_true rfl)⟩) (bD_pre (ci := 1) (q0 := 0) hK2 hP2 hD2 rfl rfl rfl) rfl rfl hl.1 rfl (lv_room (Nat.le_of_ble_eq_true rfl)) dL_law_1413 hf9) hS (fun q9 h => inW_A hD2 h) (fun H locs hPn hz hk hS => ?_)
    have hP : va_P (dC, dI) vwCl ([(o0, .inr (0, [.long (pk a0), .long (pk a1), .long (pkn q w), .int (iI ((w : Nat) : Int))])), (u0, .inl (cJ, 1, .inr (.inl (g))))] ++ [(m0, .inr (1, [.int (iI 2), .ref t0, .ref k0, .ref p0, .int (iI ((w : Nat) : Int))])), (t0, .inl (cI, 24, .inl (fun j => iI ((tb a0 a1 j : Nat) : Int)))), (k0, .inl (cI, 12, .inl (fun j => iI ((K j : Nat) : Int)))), (p0, .inl (cI, 12, .inl (fun j => iI ((q j : Nat) : Int))))]) H := wj_r (w1 := [(o0, .inr (0, [.long (pk a0), .long (pk a1), .long (pkn q w), .int (iI ((w : Nat) : Int))])), (u0, .inl (cJ, 1, .inr (.inl (g))))]) (w2 := [(m0, .inr (1, [.int th, .ref t0, .ref k0, .ref p0, .int (iI ((w : Nat) : Int))])), (t0, .inl (cI, 24, .inl (fun j => iI ((tb a0 a1 j : Nat) : Int)))), (k0, .inl (cI, 12, .inl (fun j => iI ((K j : Nat) : Int)))), (p0, .inl (cI, 12, .inl (fun j => iI ((q j : Nat) : Int))))]) (w2' := [(m0, .inr (1, [.int (iI 2), .ref t0, .ref k0, .ref p0, .int (iI ((w : Nat) : Int))])), (t0, .inl (cI, 24, .inl (fun j => iI ((tb a0 a1 j : Nat) : Int)))), (k0, .inl (cI, 12, .inl (fun j => iI ((K j : Nat) : Int)))), (p0, .inl (cI, 12, .inl (fun j => iI ((q j : Nat) : Int))))]) hP hD hPn hk
    have hD : va_D (LA s) ([(o0, .inr (0, [.long (pk a0), .long (pk a1), .long (pkn q w), .int (iI ((w : Nat) : Int))])), (u0, .inl (cJ, 1, .inr (.inl (g))))] ++ [(m0, .inr (1, [.int (iI 2), .ref t0, .ref k0, .ref p0, .int (iI ((w : Nat) : Int))])), (t0, .inl (cI, 24, .inl (fun j => iI ((tb a0 a1 j : Nat) : Int)))), (k0, .inl (cI, 12, .inl (fun j => iI ((K j : Nat) : Int)))), (p0, .inl (cI, 12, .inl (fun j => iI ((q j : Nat) : Int))))]) := va_D_same (w := ([(o0, .inr (0, [.long (pk a0), .long (pk a1), .long (pkn q w), .int (iI ((w : Nat) : Int))])), (u0, .inl (cJ, 1, .inr (.inl (g))))] ++ [(m0, .inr (1, [.int th, .ref t0, .ref k0, .ref p0, .int (iI ((w : Nat) : Int))])), (t0, .inl (cI, 24, .inl (fun j => iI ((tb a0 a1 j : Nat) : Int)))), (k0, .inl (cI, 12, .inl (fun j => iI ((K j : Nat) : Int)))), (p0, .inl (cI, 12, .inl (fun j => iI ((q j : Nat) : Int))))])) (Eq.trans (b := [o0, u0, m0, t0, k0, p0]) rfl rfl) hD
    refine va_forget hS.2.2 ?_
    have hS := va_S_nil hS
    refine lv_istore (lv' := [(6, .int (iI 0)), (5, .int (iI 2)), (0, .ref b), (1, .ref o0), (2, .ref m0), (3, .ref u0), (4, .int (iI ((5 * n : Nat) : Int)))]) hx hb dL_law_1416 hl (by decide) rfl (fun ls hl => ?_)
    refine lv_aload_n hx hb dL_law_1418 rfl (lv_at hl 4 rfl) ?_
    have hP2 : va_P (dC, dI) vwCl [(m0, .inr (1, [.int (iI 2), .ref t0, .ref k0, .ref p0, .int (iI ((w : Nat) : Int))])), (t0, .inl (cI, 24, .inl (fun j => iI ((tb a0 a1 j : Nat) : Int)))), (k0, .inl (cI, 12, .inl (fun j => iI ((K j : Nat) : Int)))), (p0, .inl (cI, 12, .inl (fun j => iI ((q j : Nat) : Int))))] H := va_P_r (w1 := [(o0, .inr (0, [.long (pk a0), .long (pk a1), .long (pkn q w), .int (iI ((w : Nat) : Int))])), (u0, .inl (cJ, 1, .inr (.inl (g))))]) (w2 := [(m0, .inr (1, [.int (iI 2), .ref t0, .ref k0, .ref p0, .int (iI ((w : Nat) : Int))])), (t0, .inl (cI, 24, .inl (fun j => iI ((tb a0 a1 j : Nat) : Int)))), (k0, .inl (cI, 12, .inl (fun j => iI ((K j : Nat) : Int)))), (p0, .inl (cI, 12, .inl (fun j => iI ((q j : Nat) : Int))))]) hP
    have hK2 := hK.sub (tys' := [(cI, .int)]) [1] rfl
    have hf9 : cells + 1 + 0 ≤ room_1.cells ∧ slots + 6 + 0 ≤ room_1.slots := ⟨by show cells + 1 + 0 ≤ 1036; omega, by show slots + 6 + 0 ≤ 8286; omega⟩
    refine rd_call (va_runV (As := []) (rest := []) ⟨hx, hb, hml, hown, hts⟩ (mX1_thrown l dC dI cI m0 t0 k0 p0 a0 a1 K q (iI 2) w hp0.1 hp1.1 hw hq) (cwV 0 hts gL_law_X1_thrown rfl rfl rfl hvX1_thrown ⟨(Nat.le_of_ble_eq_true rfl), (Nat.le_of_ble_eq_true rfl)⟩) (bW_pre (ci := 1) (q0 := 0) hK2 hP2 rfl rfl rfl) rfl rfl hl.1 rfl (lv_room (Nat.le_of_ble_eq_true rfl)) dL_law_1419 hf9) ?_
    refine lv_iload hx hb dL_law_1422 (lv_at hl 1 rfl) ?_
    refine ib_icmp_eq (tgt := 1429) hx hb dL_law_1424 (by decide) ⟨by omega, by omega⟩ ⟨by omega, by omega⟩ (fun c_1424 => ?_) (fun c_1424 => absurd c_1424 (by decide))
    refine lv_iload hx hb dL_law_1429 (lv_at hl 1 rfl) ?_
    refine ib_if_ne (tgt := 1446) hx hb dL_law_1431 (by decide) ⟨by omega, by omega⟩ (fun c_1431 => ?_) (fun c_1431 => absurd c_1431 (by decide))
    refine lv_goto (tgt := 1833) hx hb dL_law_1446 (by decide) ?_
    exact kk a0 a1 q K w (iI 2) (g) H ls ⟨hp0, hp1, hw, hq, hqd, hP, hD, hS⟩ (lv_sub hl [2, 3, 4, 5, 6] rfl)
  obtain ⟨r, hn0, rfl⟩ := nat_of (z := z0) (k := 4095) (by omega)
  obtain ⟨k, hn1, rfl⟩ := nat_of (z := z1) (k := 4095) (by omega)
  obtain ⟨i, hn2, rfl⟩ := nat_of (z := z2) (k := 4095) (by omega)
  refine lv_aload_n hx hb dL_law_1369 rfl (lv_at hl 1 rfl) ?_
  refine lv_aload_n hx hb dL_law_1370 rfl (lv_at hl 0 rfl) ?_
  refine lv_iload hx hb dL_law_1371 (lv_at hl 4 rfl) ?_
  refine ib_const hx hb dL_law_1373 ?_
  refine ib_add (z := (((5 * n) + 1 : Nat) : Int)) hx hb dL_law_1374 (by omega) ?_
  refine st_i (y := iI ((5 * n + 1 : Nat) : Int)) (congrArg iI (by omega)) ?_
  refine va_sld (b := b) (L := L) (xs := xs) hx hb hX hbl hbA hS (iI_vp (i := 5 * n + 1) (by omega) (by omega)) dL_law_1375 ?_
  refine st_i (y := iI ((r : Nat) : Int)) ((congrArg xs (iI_cl (by omega))).trans e0) ?_
  refine lv_aload_n hx hb dL_law_1376 rfl (lv_at hl 0 rfl) ?_
  refine lv_iload hx hb dL_law_1377 (lv_at hl 4 rfl) ?_
  refine ib_const hx hb dL_law_1379 ?_
  refine ib_add (z := (((5 * n) + 2 : Nat) : Int)) hx hb dL_law_1380 (by omega) ?_
  refine st_i (y := iI ((5 * n + 2 : Nat) : Int)) (congrArg iI (by omega)) ?_
  refine va_sld (b := b) (L := L) (xs := xs) hx hb hX hbl hbA hS (iI_vp (i := 5 * n + 2) (by omega) (by omega)) dL_law_1381 ?_
  refine st_i (y := iI ((k : Nat) : Int)) ((congrArg xs (iI_cl (by omega))).trans e1) ?_
  refine lv_aload_n hx hb dL_law_1382 rfl (lv_at hl 0 rfl) ?_
  refine lv_iload hx hb dL_law_1383 (lv_at hl 4 rfl) ?_
  refine ib_const hx hb dL_law_1385 ?_
  refine ib_add (z := (((5 * n) + 3 : Nat) : Int)) hx hb dL_law_1386 (by omega) ?_
  refine st_i (y := iI ((5 * n + 3 : Nat) : Int)) (congrArg iI (by omega)) ?_
  refine va_sld (b := b) (L := L) (xs := xs) hx hb hX hbl hbA hS (iI_vp (i := 5 * n + 3) (by omega) (by omega)) dL_law_1387 ?_
  refine st_i (y := iI ((i : Nat) : Int)) ((congrArg xs (iI_cl (by omega))).trans e2) ?_
  refine lv_aload_n hx hb dL_law_1388 rfl (lv_at hl 3 rfl) ?_
  have hf9 : cells + 0 ≤ room_1.cells ∧ slots + 0 ≤ room_1.slots := ⟨by show cells + 0 ≤ 1036; omega, by show slots + 0 ≤ 8286; omega⟩
  have hP1 : va_P (dC, dI) vwCl [(o0, .inr (0, [.long (pk a0), .long (pk a1), .long (pkn q w), .int (iI ((w : Nat) : Int))])), (u0, .inl (cJ, 1, .inr (.inl (g))))] H := va_P_l (w1 := [(o0, .inr (0, [.long (pk a0), .long (pk a1), .long (pkn q w), .int (iI ((w : Nat) : Int))])), (u0, .inl (cJ, 1, .inr (.inl (g))))]) (w2 := [(m0, .inr (1, [.int th, .ref t0, .ref k0, .ref p0, .int (iI ((w : Nat) : Int))])), (t0, .inl (cI, 24, .inl (fun j => iI ((tb a0 a1 j : Nat) : Int)))), (k0, .inl (cI, 12, .inl (fun j => iI ((K j : Nat) : Int)))), (p0, .inl (cI, 12, .inl (fun j => iI ((q j : Nat) : Int))))]) hP
  have hD1 : va_D (LA s) [(o0, .inr (0, [.long (pk a0), .long (pk a1), .long (pkn q w), .int (iI ((w : Nat) : Int))])), (u0, .inl (cJ, 1, .inr (.inl (g))))] := va_D_l (w1 := [(o0, .inr (0, [.long (pk a0), .long (pk a1), .long (pkn q w), .int (iI ((w : Nat) : Int))])), (u0, .inl (cJ, 1, .inr (.inl (g))))]) (w2 := [(m0, .inr (1, [.int th, .ref t0, .ref k0, .ref p0, .int (iI ((w : Nat) : Int))])), (t0, .inl (cI, 24, .inl (fun j => iI ((tb a0 a1 j : Nat) : Int)))), (k0, .inl (cI, 12, .inl (fun j => iI ((K j : Nat) : Int)))), (p0, .inl (cI, 12, .inl (fun j => iI ((q j : Nat) : Int))))]) hD
  have hK1 := hK.sub (tys' := [(cJ, .long)]) [0] rfl
  refine wr_call (vx_runSW (As := [.ref o0, .int (iI ((r : Nat) : Int)), .int (iI ((k : Nat) : Int)), .int (iI ((i : Nat) : Int)), .ref u0]) (rest := []) ⟨hx, hb, hml, hown, hts⟩ (mL_longestKept_ok l dC dI cJ o0 u0 a0 a1 q w hp0 hp1 hw hq hqd g r k i (by omega) (by omega) (by omega)) (vx_cwSW 5 hts gL_law_L_longestKept rfl rfl rfl hdL_longestKept ⟨(Nat.le_of_ble_eq_true rfl), (Nat.le_of_ble_eq_true rfl)⟩) (bD_preS hK1 hP1 hD1) rfl rfl hl.1 rfl (lv_room (Nat.le_of_ble_eq_true rfl)) dL_law_1389 hf9) hS (fun q9 h => inW_A hD1 h) (fun H locs hPn hz hk hS => ?_)
  have hP : va_P (dC, dI) vwCl ([(o0, .inr (0, [.long (pk a0), .long (pk a1), .long (pkn q w), .int (iI ((w : Nat) : Int))])), (u0, .inl (cJ, 1, .inr (.inl (fun _ => (iI ((lkO (rw_ r a0 a1) (fm (rw_ r a0 a1) (12 * k + i)) 12 : Nat) : Int)).toInt64))))] ++ [(m0, .inr (1, [.int th, .ref t0, .ref k0, .ref p0, .int (iI ((w : Nat) : Int))])), (t0, .inl (cI, 24, .inl (fun j => iI ((tb a0 a1 j : Nat) : Int)))), (k0, .inl (cI, 12, .inl (fun j => iI ((K j : Nat) : Int)))), (p0, .inl (cI, 12, .inl (fun j => iI ((q j : Nat) : Int))))]) H := wj_l (w1 := [(o0, .inr (0, [.long (pk a0), .long (pk a1), .long (pkn q w), .int (iI ((w : Nat) : Int))])), (u0, .inl (cJ, 1, .inr (.inl (g))))]) (w2 := [(m0, .inr (1, [.int th, .ref t0, .ref k0, .ref p0, .int (iI ((w : Nat) : Int))])), (t0, .inl (cI, 24, .inl (fun j => iI ((tb a0 a1 j : Nat) : Int)))), (k0, .inl (cI, 12, .inl (fun j => iI ((K j : Nat) : Int)))), (p0, .inl (cI, 12, .inl (fun j => iI ((q j : Nat) : Int))))]) (w1' := [(o0, .inr (0, [.long (pk a0), .long (pk a1), .long (pkn q w), .int (iI ((w : Nat) : Int))])), (u0, .inl (cJ, 1, .inr (.inl (fun _ => (iI ((lkO (rw_ r a0 a1) (fm (rw_ r a0 a1) (12 * k + i)) 12 : Nat) : Int)).toInt64))))]) hP hD hPn hk
  have hD : va_D (LA s) ([(o0, .inr (0, [.long (pk a0), .long (pk a1), .long (pkn q w), .int (iI ((w : Nat) : Int))])), (u0, .inl (cJ, 1, .inr (.inl (fun _ => (iI ((lkO (rw_ r a0 a1) (fm (rw_ r a0 a1) (12 * k + i)) 12 : Nat) : Int)).toInt64))))] ++ [(m0, .inr (1, [.int th, .ref t0, .ref k0, .ref p0, .int (iI ((w : Nat) : Int))])), (t0, .inl (cI, 24, .inl (fun j => iI ((tb a0 a1 j : Nat) : Int)))), (k0, .inl (cI, 12, .inl (fun j => iI ((K j : Nat) : Int)))), (p0, .inl (cI, 12, .inl (fun j => iI ((q j : Nat) : Int))))]) := va_D_same (w := ([(o0, .inr (0, [.long (pk a0), .long (pk a1), .long (pkn q w), .int (iI ((w : Nat) : Int))])), (u0, .inl (cJ, 1, .inr (.inl (g))))] ++ [(m0, .inr (1, [.int th, .ref t0, .ref k0, .ref p0, .int (iI ((w : Nat) : Int))])), (t0, .inl (cI, 24, .inl (fun j => iI ((tb a0 a1 j : Nat) : Int)))), (k0, .inl (cI, 12, .inl (fun j => iI ((K j : Nat) : Int)))), (p0, .inl (cI, 12, .inl (fun j => iI ((q j : Nat) : Int))))])) (Eq.trans (b := [o0, u0, m0, t0, k0, p0]) rfl rfl) hD
  refine va_forget hS.2.2 ?_
  have hS := va_S_nil hS
  refine W.widen (k := cells + 1) (n := slots + 6) (by omega) (by omega) ?_
  refine lv_istore (lv' := [(5, .int (iI 0)), (0, .ref b), (1, .ref o0), (2, .ref m0), (3, .ref u0), (4, .int (iI ((5 * n : Nat) : Int)))]) hx hb dL_law_1392 hl (by decide) rfl (fun ls hl => ?_)
  refine lv_aload_n hx hb dL_law_1394 rfl (lv_at hl 3 rfl) ?_
  refine lv_aload_n hx hb dL_law_1395 rfl (lv_at hl 1 rfl) ?_
  refine lv_iload hx hb dL_law_1396 (lv_at hl 5 rfl) ?_
  refine ib_const hx hb dL_law_1398 ?_
  refine ib_add (z := (((5 * n) + 1 : Nat) : Int)) hx hb dL_law_1399 (by omega) ?_
  refine st_i (y := iI ((5 * n + 1 : Nat) : Int)) (congrArg iI (by omega)) ?_
  refine va_sld (b := b) (L := L) (xs := xs) hx hb hX hbl hbA hS (iI_vp (i := 5 * n + 1) (by omega) (by omega)) dL_law_1400 ?_
  refine st_i (y := iI ((r : Nat) : Int)) ((congrArg xs (iI_cl (by omega))).trans e0) ?_
  refine lv_aload_n hx hb dL_law_1401 rfl (lv_at hl 1 rfl) ?_
  refine lv_iload hx hb dL_law_1402 (lv_at hl 5 rfl) ?_
  refine ib_const hx hb dL_law_1404 ?_
  refine ib_add (z := (((5 * n) + 2 : Nat) : Int)) hx hb dL_law_1405 (by omega) ?_
  refine st_i (y := iI ((5 * n + 2 : Nat) : Int)) (congrArg iI (by omega)) ?_
  refine va_sld (b := b) (L := L) (xs := xs) hx hb hX hbl hbA hS (iI_vp (i := 5 * n + 2) (by omega) (by omega)) dL_law_1406 ?_
  refine st_i (y := iI ((k : Nat) : Int)) ((congrArg xs (iI_cl (by omega))).trans e1) ?_
  refine lv_aload_n hx hb dL_law_1407 rfl (lv_at hl 1 rfl) ?_
  refine lv_iload hx hb dL_law_1408 (lv_at hl 5 rfl) ?_
  refine ib_const hx hb dL_law_1410 ?_
  refine ib_add (z := (((5 * n) + 3 : Nat) : Int)) hx hb dL_law_1411 (by omega) ?_
  refine st_i (y := iI ((5 * n + 3 : Nat) : Int)) (congrArg iI (by omega)) ?_
  refine va_sld (b := b) (L := L) (xs := xs) hx hb hX hbl hbA hS (iI_vp (i := 5 * n + 3) (by omega) (by omega)) dL_law_1412 ?_
  refine st_i (y := iI ((i : Nat) : Int)) ((congrArg xs (iI_cl (by omega))).trans e2) ?_
  have hP2 : va_P (dC, dI) vwCl [(m0, .inr (1, [.int th, .ref t0, .ref k0, .ref p0, .int (iI ((w : Nat) : Int))])), (t0, .inl (cI, 24, .inl (fun j => iI ((tb a0 a1 j : Nat) : Int)))), (k0, .inl (cI, 12, .inl (fun j => iI ((K j : Nat) : Int)))), (p0, .inl (cI, 12, .inl (fun j => iI ((q j : Nat) : Int))))] H := va_P_r (w1 := [(o0, .inr (0, [.long (pk a0), .long (pk a1), .long (pkn q w), .int (iI ((w : Nat) : Int))])), (u0, .inl (cJ, 1, .inr (.inl (fun _ => (iI ((lkO (rw_ r a0 a1) (fm (rw_ r a0 a1) (12 * k + i)) 12 : Nat) : Int)).toInt64))))]) (w2 := [(m0, .inr (1, [.int th, .ref t0, .ref k0, .ref p0, .int (iI ((w : Nat) : Int))])), (t0, .inl (cI, 24, .inl (fun j => iI ((tb a0 a1 j : Nat) : Int)))), (k0, .inl (cI, 12, .inl (fun j => iI ((K j : Nat) : Int)))), (p0, .inl (cI, 12, .inl (fun j => iI ((q j : Nat) : Int))))]) hP
  have hK2 := hK.sub (tys' := [(cI, .int)]) [1] rfl
  have hf9 : cells + 1 + 0 ≤ room_1.cells ∧ slots + 6 + 0 ≤ room_1.slots := ⟨by show cells + 1 + 0 ≤ 1036; omega, by show slots + 6 + 0 ≤ 8286; omega⟩
  have hD2 : va_D (LA s) [(m0, .inr (1, [.int th, .ref t0, .ref k0, .ref p0, .int (iI ((w : Nat) : Int))])), (t0, .inl (cI, 24, .inl (fun j => iI ((tb a0 a1 j : Nat) : Int)))), (k0, .inl (cI, 12, .inl (fun j => iI ((K j : Nat) : Int)))), (p0, .inl (cI, 12, .inl (fun j => iI ((q j : Nat) : Int))))] := va_D_r (w1 := [(o0, .inr (0, [.long (pk a0), .long (pk a1), .long (pkn q w), .int (iI ((w : Nat) : Int))])), (u0, .inl (cJ, 1, .inr (.inl (fun _ => (iI ((lkO (rw_ r a0 a1) (fm (rw_ r a0 a1) (12 * k + i)) 12 : Nat) : Int)).toInt64))))]) (w2 := [(m0, .inr (1, [.int th, .ref t0, .ref k0, .ref p0, .int (iI ((w : Nat) : Int))])), (t0, .inl (cI, 24, .inl (fun j => iI ((tb a0 a1 j : Nat) : Int)))), (k0, .inl (cI, 12, .inl (fun j => iI ((K j : Nat) : Int)))), (p0, .inl (cI, 12, .inl (fun j => iI ((q j : Nat) : Int))))]) hD
  refine wr_call (va_runV (As := [.int (iI ((r : Nat) : Int)), .int (iI ((k : Nat) : Int)), .int (iI ((i : Nat) : Int))]) (rest := []) ⟨hx, hb, hml, hown, hts⟩ (mX1_longestKept_ok l dC dI cI m0 t0 k0 p0 a0 a1 K q th w hp0.1 hp1.1 hw hq r k i (by omega) (by omega) (by omega)) (cwV 3 hts gL_law_X1_longestKept rfl rfl rfl hvX1_longestKept ⟨(Nat.le_of_ble_eq_true rfl), (Nat.le_of_ble_eq_true rfl)⟩) (bD_pre (ci := 1) (q0 := 0) hK2 hP2 hD2 rfl rfl rfl) rfl rfl hl.1 rfl (lv_room (Nat.le_of_ble_eq_true rfl)) dL_law_1413 hf9) hS (fun q9 h => inW_A hD2 h) (fun H locs hPn hz hk hS => ?_)
  have hP : va_P (dC, dI) vwCl ([(o0, .inr (0, [.long (pk a0), .long (pk a1), .long (pkn q w), .int (iI ((w : Nat) : Int))])), (u0, .inl (cJ, 1, .inr (.inl (fun _ => (iI ((lkO (rw_ r a0 a1) (fm (rw_ r a0 a1) (12 * k + i)) 12 : Nat) : Int)).toInt64))))] ++ [(m0, .inr (1, [.int (iI 0), .ref t0, .ref k0, .ref p0, .int (iI ((w : Nat) : Int))])), (t0, .inl (cI, 24, .inl (fun j => iI ((tb a0 a1 j : Nat) : Int)))), (k0, .inl (cI, 12, .inl (fun j => iI ((K j : Nat) : Int)))), (p0, .inl (cI, 12, .inl (fun j => iI ((q j : Nat) : Int))))]) H := wj_r (w1 := [(o0, .inr (0, [.long (pk a0), .long (pk a1), .long (pkn q w), .int (iI ((w : Nat) : Int))])), (u0, .inl (cJ, 1, .inr (.inl (fun _ => (iI ((lkO (rw_ r a0 a1) (fm (rw_ r a0 a1) (12 * k + i)) 12 : Nat) : Int)).toInt64))))]) (w2 := [(m0, .inr (1, [.int th, .ref t0, .ref k0, .ref p0, .int (iI ((w : Nat) : Int))])), (t0, .inl (cI, 24, .inl (fun j => iI ((tb a0 a1 j : Nat) : Int)))), (k0, .inl (cI, 12, .inl (fun j => iI ((K j : Nat) : Int)))), (p0, .inl (cI, 12, .inl (fun j => iI ((q j : Nat) : Int))))]) (w2' := [(m0, .inr (1, [.int (iI 0), .ref t0, .ref k0, .ref p0, .int (iI ((w : Nat) : Int))])), (t0, .inl (cI, 24, .inl (fun j => iI ((tb a0 a1 j : Nat) : Int)))), (k0, .inl (cI, 12, .inl (fun j => iI ((K j : Nat) : Int)))), (p0, .inl (cI, 12, .inl (fun j => iI ((q j : Nat) : Int))))]) hP hD hPn hk
  have hD : va_D (LA s) ([(o0, .inr (0, [.long (pk a0), .long (pk a1), .long (pkn q w), .int (iI ((w : Nat) : Int))])), (u0, .inl (cJ, 1, .inr (.inl (fun _ => (iI ((lkO (rw_ r a0 a1) (fm (rw_ r a0 a1) (12 * k + i)) 12 : Nat) : Int)).toInt64))))] ++ [(m0, .inr (1, [.int (iI 0), .ref t0, .ref k0, .ref p0, .int (iI ((w : Nat) : Int))])), (t0, .inl (cI, 24, .inl (fun j => iI ((tb a0 a1 j : Nat) : Int)))), (k0, .inl (cI, 12, .inl (fun j => iI ((K j : Nat) : Int)))), (p0, .inl (cI, 12, .inl (fun j => iI ((q j : Nat) : Int))))]) := va_D_same (w := ([(o0, .inr (0, [.long (pk a0), .long (pk a1), .long (pkn q w), .int (iI ((w : Nat) : Int))])), (u0, .inl (cJ, 1, .inr (.inl (fun _ => (iI ((lkO (rw_ r a0 a1) (fm (rw_ r a0 a1) (12 * k + i)) 12 : Nat) : Int)).toInt64))))] ++ [(m0, .inr (1, [.int th, .ref t0, .ref k0, .ref p0, .int (iI ((w : Nat) : Int))])), (t0, .inl (cI, 24, .inl (fun j => iI ((tb a0 a1 j : Nat) : Int)))), (k0, .inl (cI, 12, .inl (fun j => iI ((K j : Nat) : Int)))), (p0, .inl (cI, 12, .inl (fun j => iI ((q j : Nat) : Int))))])) (Eq.trans (b := [o0, u0, m0, t0, k0, p0]) rfl rfl) hD
  refine va_forget hS.2.2 ?_
  have hS := va_S_nil hS
  refine lv_istore (lv' := [(6, .int (iI ((lkO (rw_ r a0 a1) (fm (rw_ r a0 a1) (12 * k + i)) 12 : Nat) : Int))), (5, .int (iI 0)), (0, .ref b), (1, .ref o0), (2, .ref m0), (3, .ref u0), (4, .int (iI ((5 * n : Nat) : Int)))]) hx hb dL_law_1416 hl (by decide) rfl (fun ls hl => ?_)
  refine lv_aload_n hx hb dL_law_1418 rfl (lv_at hl 4 rfl) ?_
  have hP2 : va_P (dC, dI) vwCl [(m0, .inr (1, [.int (iI 0), .ref t0, .ref k0, .ref p0, .int (iI ((w : Nat) : Int))])), (t0, .inl (cI, 24, .inl (fun j => iI ((tb a0 a1 j : Nat) : Int)))), (k0, .inl (cI, 12, .inl (fun j => iI ((K j : Nat) : Int)))), (p0, .inl (cI, 12, .inl (fun j => iI ((q j : Nat) : Int))))] H := va_P_r (w1 := [(o0, .inr (0, [.long (pk a0), .long (pk a1), .long (pkn q w), .int (iI ((w : Nat) : Int))])), (u0, .inl (cJ, 1, .inr (.inl (fun _ => (iI ((lkO (rw_ r a0 a1) (fm (rw_ r a0 a1) (12 * k + i)) 12 : Nat) : Int)).toInt64))))]) (w2 := [(m0, .inr (1, [.int (iI 0), .ref t0, .ref k0, .ref p0, .int (iI ((w : Nat) : Int))])), (t0, .inl (cI, 24, .inl (fun j => iI ((tb a0 a1 j : Nat) : Int)))), (k0, .inl (cI, 12, .inl (fun j => iI ((K j : Nat) : Int)))), (p0, .inl (cI, 12, .inl (fun j => iI ((q j : Nat) : Int))))]) hP
  have hK2 := hK.sub (tys' := [(cI, .int)]) [1] rfl
  have hf9 : cells + 1 + 0 ≤ room_1.cells ∧ slots + 6 + 0 ≤ room_1.slots := ⟨by show cells + 1 + 0 ≤ 1036; omega, by show slots + 6 + 0 ≤ 8286; omega⟩
  refine rd_call (va_runV (As := []) (rest := []) ⟨hx, hb, hml, hown, hts⟩ (mX1_thrown l dC dI cI m0 t0 k0 p0 a0 a1 K q (iI 0) w hp0.1 hp1.1 hw hq) (cwV 0 hts gL_law_X1_thrown rfl rfl rfl hvX1_thrown ⟨(Nat.le_of_ble_eq_true rfl), (Nat.le_of_ble_eq_true rfl)⟩) (bW_pre (ci := 1) (q0 := 0) hK2 hP2 rfl rfl rfl) rfl rfl hl.1 rfl (lv_room (Nat.le_of_ble_eq_true rfl)) dL_law_1419 hf9) ?_
  refine lv_iload hx hb dL_law_1422 (lv_at hl 1 rfl) ?_
  refine ib_icmp_eq (tgt := 1429) hx hb dL_law_1424 (by decide) ⟨by omega, by omega⟩ ⟨by omega, by omega⟩ (fun c_1424 => ?_) (fun c_1424 => absurd c_1424 (by decide))
  refine lv_iload hx hb dL_law_1429 (lv_at hl 1 rfl) ?_
  refine ib_if_ne (tgt := 1446) hx hb dL_law_1431 (by decide) ⟨by omega, by omega⟩ (fun c_1431 => absurd c_1431 (by decide)) (fun c_1431 => ?_)
  refine lv_aload_n hx hb dL_law_1434 rfl (lv_at hl 5 rfl) ?_
  refine ib_const hx hb dL_law_1435 ?_
  refine va_lald hx hb hK hP 1 0 rfl rfl vp0 dL_law_1436 ?_
  refine st_l (y := (iI ((lkO (rw_ r a0 a1) (fm (rw_ r a0 a1) (12 * k + i)) 12 : Nat) : Int)).toInt64) rfl ?_
  refine lv_iload hx hb dL_law_1437 (lv_at hl 0 rfl) ?_
  refine lv_i2l hx hb dL_law_1439 rfl ?_
  refine W.lcmp hx hb dL_law_1440 ?_
  refine bl_eq (tgt := 1446) hx hb dL_law_1441 (by decide) (fun _ => ?_) (fun h => absurd rfl h)
  refine lv_goto (tgt := 1833) hx hb dL_law_1446 (by decide) ?_
  exact kk a0 a1 q K w (iI 0) (fun _ => (iI ((lkO (rw_ r a0 a1) (fm (rw_ r a0 a1) (12 * k + i)) 12 : Nat) : Int)).toInt64) H ls ⟨hp0, hp1, hw, hq, hqd, hP, hD, hS⟩ (lv_sub hl [2, 3, 4, 5, 6] rfl)
