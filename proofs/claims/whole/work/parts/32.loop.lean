/-! ===== the law's loop ===== -/
theorem va_gt : ∀ v : Nat, v < 32 → 25 ≤ v → 24 < (iI ((v : Nat) : Int)).toInt := fun v h1 h2 => by
  rw [iI_toInt ⟨by omega, by omega⟩]
  omega
set_option maxHeartbeats 4000000 in
set_option maxRecDepth 100000 in
theorem law_loop {p : Program} {l : Launch} {e : Env} {s : State} {m : MethodId} {below : List Frame} {meth : Method} {c : Code} {Q : State → Prop} {dC : Nat → ClassId} {dI : Nat → Nat → Nat} {cI cJ : ClassId} {b L : Nat} {xs : Nat → Int32} (C : LC p l s m meth c (dC, dI) cI cJ b L xs) {o0 u0 m0 t0 k0 p0 : Nat} (hL : L ≤ 2560)
    (kE : ∀ (H : Heap) (ls : Array Slot), W p l e room_1 s m #[Value.ref b] below meth c H [] 1036 8286 Q (F0 m 1839 ls [])) : ∀ (j n cells slots : Nat) (a0 a1 q K : Nat → Nat) (w : Nat) (th : Int32) (g : Nat → Int64) (H : Heap) (ls : Array Slot), LI s (dC, dI) cI cJ o0 u0 m0 t0 k0 p0 a0 a1 q K w th g H → lv_has ls 8 [(0, .ref b), (1, .ref o0), (2, .ref m0), (3, .ref u0), (4, .int (iI ((5 * n : Nat) : Int)))] → L < 5 * (n + j) + 5 → cells + j ≤ 1036 → slots + 6 * j ≤ 8286 → n ≤ 512 → W p l e room_1 s m #[Value.ref b] below meth c H [] cells slots Q (F0 m 23 ls []) := by
  intro j
  induction j with
  | zero =>
    intro n cells slots a0 a1 q K w th g H ls hI hl h1 h2 h3 h4
    obtain ⟨hx, hb, hml, hown, hts, hK, hG0, hN, hX, hbl, hfl⟩ := C
    have hS := hI.2.2.2.2.2.2.2
    have hbA : ¬ LA s b := Nat.not_le.mpr hbl
    refine lv_iload hx hb dL_law_23 (lv_at hl 4 rfl) ?_
    refine lv_aload_n hx hb dL_law_25 rfl (lv_at hl 0 rfl) ?_
    refine va_slen hx hb hX hbl hbA hS dL_law_26 ?_
    refine st_i (y := iI ((L : Nat) : Int)) (iI_nat L).symm ?_
    refine ib_const hx hb dL_law_27 ?_
    refine ib_sub (z := (L : Int) - 5) hx hb dL_law_28 rfl ?_
    refine ib_icmp_gt (tgt := 1839) hx hb dL_law_29 (by decide) ⟨by omega, by omega⟩ ⟨by omega, by omega⟩ (fun _ => ?_) (fun h => absurd h (by omega))
    exact W.widen (k := 1036) (n := 8286) (by omega) (by omega) (kE _ _)
  | succ j ih =>
    intro n cells slots a0 a1 q K w th g H ls hI hl h1 h2 h3 h4
    have C0 := C
    obtain ⟨hx, hb, hml, hown, hts, hK, hG0, hN, hX, hbl, hfl⟩ := C
    have hS := hI.2.2.2.2.2.2.2
    have hbA : ¬ LA s b := Nat.not_le.mpr hbl
    have kk : ∀ (a0 a1 q K : Nat → Nat) (w : Nat) (th : Int32) (g : Nat → Int64) (H : Heap) (ls : Array Slot), LI s (dC, dI) cI cJ o0 u0 m0 t0 k0 p0 a0 a1 q K w th g H → lv_has ls 8 [(0, .ref b), (1, .ref o0), (2, .ref m0), (3, .ref u0), (4, .int (iI ((5 * n : Nat) : Int)))] → 5 * n + 5 ≤ L → W p l e room_1 s m #[Value.ref b] below meth c H [] (cells + 1) (slots + 6) Q (F0 m 1833 ls []) := by
      intro a0 a1 q K w th g H ls hI hl hn
      refine lv_iinc (v := iI ((5 * (n + 1) : Nat) : Int)) (lv' := [(4, .int (iI ((5 * (n + 1) : Nat) : Int))), (0, .ref b), (1, .ref o0), (2, .ref m0), (3, .ref u0)]) hx hb dL_law_1833 hl (k := 4) rfl (iI_inc (by omega)) (by decide) rfl (fun ls hl => ?_)
      refine lv_goto (tgt := 23) hx hb dL_law_1836 (by decide) ?_
      exact ih (n + 1) (cells + 1) (slots + 6) a0 a1 q K w th g H ls hI (lv_sub hl [1, 2, 3, 4, 0] rfl) (by omega) (by omega) (by omega) (by omega)
    refine lv_iload hx hb dL_law_23 (lv_at hl 4 rfl) ?_
    refine lv_aload_n hx hb dL_law_25 rfl (lv_at hl 0 rfl) ?_
    refine va_slen hx hb hX hbl hbA hS dL_law_26 ?_
    refine st_i (y := iI ((L : Nat) : Int)) (iI_nat L).symm ?_
    refine ib_const hx hb dL_law_27 ?_
    refine ib_sub (z := (L : Int) - 5) hx hb dL_law_28 rfl ?_
    refine ib_icmp_gt (tgt := 1839) hx hb dL_law_29 (by decide) ⟨by omega, by omega⟩ ⟨by omega, by omega⟩ (fun _ => ?_) (fun h => ?_)
    · exact W.widen (k := 1036) (n := 8286) (by omega) (by omega) (kE _ _)
    · have hn : 5 * n + 5 ≤ L := by omega
      refine lv_aload_n hx hb dL_law_32 rfl (lv_at hl 0 rfl) ?_
      refine lv_iload hx hb dL_law_33 (lv_at hl 4 rfl) ?_
      refine va_sld (b := b) (L := L) (xs := xs) hx hb hX hbl hbA hS (iI_vp (i := 5 * n) (by omega) (by omega)) dL_law_35 ?_
      refine ib_bi hx hb dL_law_36 (by decide) ?_
      refine lv_iand hx hb dL_law_38 ?_
      obtain ⟨v, hv, ev⟩ := and31 (xs (iI ((5 * n : Nat) : Int)).toNatClampNeg)
      refine st_i (y := iI ((v : Nat) : Int)) ev ?_
      by_cases h25 : 25 ≤ v
      · refine lv_tableOut (tgt := 1833) hx hb dL_law_39 (Or.inr (va_gt v hv h25)) (by decide) ?_
        exact W.widen (k := cells + 1) (n := slots + 6) (by omega) (by omega) (kk a0 a1 q K w th g H ls hI hl hn)
      · rcases (show v = 0 ∨ v = 1 ∨ v = 2 ∨ v = 3 ∨ v = 4 ∨ v = 5 ∨ v = 6 ∨ v = 7 ∨ v = 8 ∨ v = 9 ∨ v = 10 ∨ v = 11 ∨ v = 12 ∨ v = 13 ∨ v = 14 ∨ v = 15 ∨ v = 16 ∨ v = 17 ∨ v = 18 ∨ v = 19 ∨ v = 20 ∨ v = 21 ∨ v = 22 ∨ v = 23 ∨ v = 24 by omega) with rfl | rfl | rfl | rfl | rfl | rfl | rfl | rfl | rfl | rfl | rfl | rfl | rfl | rfl | rfl | rfl | rfl | rfl | rfl | rfl | rfl | rfl | rfl | rfl | rfl
        · refine lv_tableIn (off := 113) (tgt := 152) hx hb dL_law_39 (by decide) (by decide) (by decide) (by decide) ?_
          exact law_c0 C0 hI (by omega) (by omega) hn hL hl (fun a0 a1 q K w th g H ls hI hl => kk a0 a1 q K w th g H ls hI hl hn)
        · refine lv_tableIn (off := 193) (tgt := 232) hx hb dL_law_39 (by decide) (by decide) (by decide) (by decide) ?_
          exact law_c1 C0 hI (by omega) (by omega) hn hL hl (fun a0 a1 q K w th g H ls hI hl => kk a0 a1 q K w th g H ls hI hl hn)
        · refine lv_tableIn (off := 285) (tgt := 324) hx hb dL_law_39 (by decide) (by decide) (by decide) (by decide) ?_
          exact law_c2 C0 hI (by omega) (by omega) hn hL hl (fun a0 a1 q K w th g H ls hI hl => kk a0 a1 q K w th g H ls hI hl hn)
        · refine lv_tableIn (off := 353) (tgt := 392) hx hb dL_law_39 (by decide) (by decide) (by decide) (by decide) ?_
          exact law_c3 C0 hI (by omega) (by omega) hn hL hl (fun a0 a1 q K w th g H ls hI hl => kk a0 a1 q K w th g H ls hI hl hn)
        · refine lv_tableIn (off := 421) (tgt := 460) hx hb dL_law_39 (by decide) (by decide) (by decide) (by decide) ?_
          exact law_c4 C0 hI (by omega) (by omega) hn hL hl (fun a0 a1 q K w th g H ls hI hl => kk a0 a1 q K w th g H ls hI hl hn)
        · refine lv_tableIn (off := 489) (tgt := 528) hx hb dL_law_39 (by decide) (by decide) (by decide) (by decide) ?_
          exact law_c5 C0 hI (by omega) (by omega) hn hL hl (fun a0 a1 q K w th g H ls hI hl => kk a0 a1 q K w th g H ls hI hl hn)
        · refine lv_tableIn (off := 557) (tgt := 596) hx hb dL_law_39 (by decide) (by decide) (by decide) (by decide) ?_
          exact law_c6 C0 hI (by omega) (by omega) hn hL hl (fun a0 a1 q K w th g H ls hI hl => kk a0 a1 q K w th g H ls hI hl hn)
        · refine lv_tableIn (off := 620) (tgt := 659) hx hb dL_law_39 (by decide) (by decide) (by decide) (by decide) ?_
          exact law_c7 C0 hI (by omega) (by omega) hn hL hl (fun a0 a1 q K w th g H ls hI hl => kk a0 a1 q K w th g H ls hI hl hn)
        · refine lv_tableIn (off := 712) (tgt := 751) hx hb dL_law_39 (by decide) (by decide) (by decide) (by decide) ?_
          exact law_c8 C0 hI (by omega) (by omega) hn hL hl (fun a0 a1 q K w th g H ls hI hl => kk a0 a1 q K w th g H ls hI hl hn)
        · refine lv_tableIn (off := 792) (tgt := 831) hx hb dL_law_39 (by decide) (by decide) (by decide) (by decide) ?_
          exact law_c9 C0 hI (by omega) (by omega) hn hL hl (fun a0 a1 q K w th g H ls hI hl => kk a0 a1 q K w th g H ls hI hl hn)
        · refine lv_tableIn (off := 848) (tgt := 887) hx hb dL_law_39 (by decide) (by decide) (by decide) (by decide) ?_
          exact law_c10 C0 hI (by omega) (by omega) hn hL hl (fun a0 a1 q K w th g H ls hI hl => kk a0 a1 q K w th g H ls hI hl hn)
        · refine lv_tableIn (off := 904) (tgt := 943) hx hb dL_law_39 (by decide) (by decide) (by decide) (by decide) ?_
          exact law_c11 C0 hI (by omega) (by omega) hn hL hl (fun a0 a1 q K w th g H ls hI hl => kk a0 a1 q K w th g H ls hI hl hn)
        · refine lv_tableIn (off := 984) (tgt := 1023) hx hb dL_law_39 (by decide) (by decide) (by decide) (by decide) ?_
          exact law_c12 C0 hI (by omega) (by omega) hn hL hl (fun a0 a1 q K w th g H ls hI hl => kk a0 a1 q K w th g H ls hI hl hn)
        · refine lv_tableIn (off := 1040) (tgt := 1079) hx hb dL_law_39 (by decide) (by decide) (by decide) (by decide) ?_
          exact law_c13 C0 hI (by omega) (by omega) hn hL hl (fun a0 a1 q K w th g H ls hI hl => kk a0 a1 q K w th g H ls hI hl hn)
        · refine lv_tableIn (off := 1108) (tgt := 1147) hx hb dL_law_39 (by decide) (by decide) (by decide) (by decide) ?_
          exact law_c14 C0 hI (by omega) (by omega) hn hL hl (fun a0 a1 q K w th g H ls hI hl => kk a0 a1 q K w th g H ls hI hl hn)
        · refine lv_tableIn (off := 1163) (tgt := 1202) hx hb dL_law_39 (by decide) (by decide) (by decide) (by decide) ?_
          exact law_c15 C0 hI (by omega) (by omega) hn hL hl (fun a0 a1 q K w th g H ls hI hl => kk a0 a1 q K w th g H ls hI hl hn)
        · refine lv_tableIn (off := 1238) (tgt := 1277) hx hb dL_law_39 (by decide) (by decide) (by decide) (by decide) ?_
          exact law_c16 C0 hI (by omega) (by omega) hn hL hl (fun a0 a1 q K w th g H ls hI hl => kk a0 a1 q K w th g H ls hI hl hn)
        · refine lv_tableIn (off := 1330) (tgt := 1369) hx hb dL_law_39 (by decide) (by decide) (by decide) (by decide) ?_
          exact law_c17 C0 hI (by omega) (by omega) hn hL hl (fun a0 a1 q K w th g H ls hI hl => kk a0 a1 q K w th g H ls hI hl hn)
        · refine lv_tableIn (off := 1410) (tgt := 1449) hx hb dL_law_39 (by decide) (by decide) (by decide) (by decide) ?_
          exact law_c18 C0 hI (by omega) (by omega) hn hL hl (fun a0 a1 q K w th g H ls hI hl => kk a0 a1 q K w th g H ls hI hl hn)
        · refine lv_tableIn (off := 1478) (tgt := 1517) hx hb dL_law_39 (by decide) (by decide) (by decide) (by decide) ?_
          exact law_c19 C0 hI (by omega) (by omega) hn hL hl (fun a0 a1 q K w th g H ls hI hl => kk a0 a1 q K w th g H ls hI hl hn)
        · refine lv_tableIn (off := 1546) (tgt := 1585) hx hb dL_law_39 (by decide) (by decide) (by decide) (by decide) ?_
          exact law_c20 C0 hI (by omega) (by omega) hn hL hl (fun a0 a1 q K w th g H ls hI hl => kk a0 a1 q K w th g H ls hI hl hn)
        · refine lv_tableIn (off := 1602) (tgt := 1641) hx hb dL_law_39 (by decide) (by decide) (by decide) (by decide) ?_
          exact law_c21 C0 hI (by omega) (by omega) hn hL hl (fun a0 a1 q K w th g H ls hI hl => kk a0 a1 q K w th g H ls hI hl hn)
        · refine lv_tableIn (off := 1615) (tgt := 1654) hx hb dL_law_39 (by decide) (by decide) (by decide) (by decide) ?_
          exact law_c22 C0 hI (by omega) (by omega) hn hL hl (fun a0 a1 q K w th g H ls hI hl => kk a0 a1 q K w th g H ls hI hl hn)
        · refine lv_tableIn (off := 1670) (tgt := 1709) hx hb dL_law_39 (by decide) (by decide) (by decide) (by decide) ?_
          exact law_c23 C0 hI (by omega) (by omega) hn hL hl (fun a0 a1 q K w th g H ls hI hl => kk a0 a1 q K w th g H ls hI hl hn)
        · refine lv_tableIn (off := 1738) (tgt := 1777) hx hb dL_law_39 (by decide) (by decide) (by decide) (by decide) ?_
          exact law_c24 C0 hI (by omega) (by omega) hn hL hl (fun a0 a1 q K w th g H ls hI hl => kk a0 a1 q K w th g H ls hI hl hn)
