theorem hdL_act : yL_act.cls ≠ "java/lang/invoke/MethodHandle" ∧ yL_act.cls ≠ "java/lang/invoke/VarHandle" ∧ (parseMethodDescriptor yL_act.desc).map (fun d => d.parameters.length) = some 2 := by decide +kernel
theorem hdL_areAlike : yL_areAlike.cls ≠ "java/lang/invoke/MethodHandle" ∧ yL_areAlike.cls ≠ "java/lang/invoke/VarHandle" ∧ (parseMethodDescriptor yL_areAlike.desc).map (fun d => d.parameters.length) = some 2 := by decide +kernel
theorem hdL_areKeptSo : yL_areKeptSo.cls ≠ "java/lang/invoke/MethodHandle" ∧ yL_areKeptSo.cls ≠ "java/lang/invoke/VarHandle" ∧ (parseMethodDescriptor yL_areKeptSo.desc).map (fun d => d.parameters.length) = some 5 := by decide +kernel
theorem hdL_cell : yL_cell.cls ≠ "java/lang/invoke/MethodHandle" ∧ yL_cell.cls ≠ "java/lang/invoke/VarHandle" ∧ (parseMethodDescriptor yL_cell.desc).map (fun d => d.parameters.length) = some 2 := by decide +kernel
theorem hdL_isRowSo : yL_isRowSo.cls ≠ "java/lang/invoke/MethodHandle" ∧ yL_isRowSo.cls ≠ "java/lang/invoke/VarHandle" ∧ (parseMethodDescriptor yL_isRowSo.desc).map (fun d => d.parameters.length) = some 3 := by decide +kernel
theorem hdL_isSetSo : yL_isSetSo.cls ≠ "java/lang/invoke/MethodHandle" ∧ yL_isSetSo.cls ≠ "java/lang/invoke/VarHandle" ∧ (parseMethodDescriptor yL_isSetSo.desc).map (fun d => d.parameters.length) = some 2 := by decide +kernel
/-- the law's context: the machine, the code, the words, the script -/
def LC (p : Program) (l : Launch) (s : State) (m : MethodId) (meth : Method) (c : Code) (D : va_G) (b L : Nat) (xs : Nat → Int32) : Prop :=
  p.tables.exec = Jvm.exec ∧ c.code = cL_law ∧ c.maxLocals = 6 ∧ s.vm.findClass RL = some m.cls ∧ (∀ w ∈ wsL_law, w.before #[Value.ref b] s = true) ∧ va_K D vwCl [] s ∧ xG0 s ∧ xN s ∧ va_X b L xs s s.heap ∧ b < s.heap.size ∧ l.stackTraces = false
/-- the law's state: the two objects are alike -/
def LI (s : State) (D : va_G) (o0 p0 : Nat) (a0 a1 q : Nat → Nat) (w : Nat) (H : Heap) : Prop :=
  Gs a0 a1 q w ∧ va_P D vwCl ([oC o0 a0 a1 q w] ++ [oC p0 a0 a1 q w]) H ∧ va_D (LA s) ([oC o0 a0 a1 q w] ++ [oC p0 a0 a1 q w]) ∧ va_S (LA s) s.heap H []
set_option maxHeartbeats 4000000 in
set_option maxRecDepth 100000 in
theorem law_mid {p : Program} {l : Launch} {e : Env} {s : State} {m : MethodId} {below : List Frame} {meth : Method} {c : Code} {Q : State → Prop} {dC : Nat → ClassId} {dI : Nat → Nat → Nat} {b L : Nat} {xs : Nat → Int32} (C : LC p l s m meth c (dC, dI) b L xs) (hL : L ≤ 260) {o0 p0 n cells slots : Nat} {a0 a1 q : Nat → Nat} {w : Nat} {H : Heap} {ls : Array Slot} {x : Int32} (hn : n < 44) (hf0 : cells ≤ room_1.cells ∧ slots ≤ room_1.slots) (hI : LI s (dC, dI) o0 p0 a0 a1 q w H) (hl : lv_has ls 6 [(0, .ref b), (1, .ref o0), (2, .ref p0), (3, .int (iI ((n : Nat) : Int))), (4, .int x)])
    (kk : ∀ ls : Array Slot, lv_has ls 6 [(0, .ref b), (1, .ref o0), (2, .ref p0), (3, .int (iI ((n : Nat) : Int)))] → W p l e room_1 s m #[Value.ref b] below meth c H [] cells slots Q (F0 m 167 ls [])) : W p l e room_1 s m #[Value.ref b] below meth c H [] cells slots Q (F0 m 57 ls []) := by
  obtain ⟨hx, hb, hml, hown, hts, hK, hG0, hN, hX, hbl, hfl⟩ := C
  obtain ⟨⟨hp0, hp1, hw, hq, hqd⟩, hP, hD, hS⟩ := hI
  refine lv_aload_n hx hb dL_law_57 rfl (lv_at hl 1 rfl) ?_
  refine lv_aload_n hx hb dL_law_58 rfl (lv_at hl 2 rfl) ?_
  refine rd_call (va_runS (As := [.ref o0, .ref p0]) (rest := []) ⟨hx, hb, hml, hown, hts⟩ (mL_areAlike l dC dI o0 p0 a0 a1 q w hp0 hp1 hw hq hqd) (va_cwS 2 hts gL_law_L_areAlike rfl rfl rfl hdL_areAlike ⟨Nat.le_of_ble_eq_true rfl, Nat.le_of_ble_eq_true rfl⟩) (bW_preS hK hP) rfl rfl hl.1 rfl (lv_room (Nat.le_of_ble_eq_true rfl)) dL_law_59 hf0) ?_
  refine ib_if_ne (tgt := 67) hx hb dL_law_62 (by decide) ⟨by omega, by omega⟩ (fun c_62 => ?_) (fun c_62 => absurd c_62 (by decide))
  refine lv_iload_n hx hb dL_law_67 rfl (lv_at hl 3 rfl) ?_
  refine ib_const hx hb dL_law_68 ?_
  refine ib_rem (z := ((n % 4 : Nat) : Int)) hx hb dL_law_69 (by omega) (by omega) (by omega) (by omega) (by first | omega | rfl) ?_
  refine ib_const hx hb dL_law_70 ?_
  refine ib_icmp_ne (tgt := 167) hx hb dL_law_71 (by decide) ⟨by omega, by omega⟩ ⟨by omega, by omega⟩ (fun c_71 => ?_) (fun c_71 => ?_)
  · skip
    exact kk ls (lv_sub hl [0, 1, 2, 3] rfl)
  · skip
    refine lv_aload_n hx hb dL_law_74 rfl (lv_at hl 1 rfl) ?_
    refine lv_iload hx hb dL_law_75 (lv_at hl 4 rfl) ?_
    refine ib_const hx hb dL_law_77 ?_
    refine lv_ishr hx hb dL_law_78 ?_
    refine ib_const hx hb dL_law_79 ?_
    refine rd_call (va_runS (As := [.int (x >>> ((iI 5) &&& 31)), .int (iI 2)]) (rest := [.ref o0]) ⟨hx, hb, hml, hown, hts⟩ (mL_low l (x >>> ((iI 5) &&& 31)) 2 (by decide) (by decide)) (va_cwS 2 hts gL_law_L_low rfl rfl rfl hdL_low ⟨Nat.le_of_ble_eq_true rfl, Nat.le_of_ble_eq_true rfl⟩) tt_pre rfl rfl hl.1 rfl (lv_room (Nat.le_of_ble_eq_true rfl)) dL_law_80 hf0) ?_
    have hlo_80 := lo_lt (x >>> ((iI 5) &&& 31)) (n := 2) (by decide)
    refine lv_iload hx hb dL_law_83 (lv_at hl 4 rfl) ?_
    refine ib_bi hx hb dL_law_85 (by decide) ?_
    refine lv_ishr hx hb dL_law_87 ?_
    refine ib_bi hx hb dL_law_88 (by decide) ?_
    refine rd_call (va_runS (As := [.int (x >>> ((iI 8) &&& 31)), .int (iI 12)]) (rest := [.int (iI ((lo (x >>> ((iI 5) &&& 31)) 2 : Nat) : Int)), .ref o0]) ⟨hx, hb, hml, hown, hts⟩ (mL_low l (x >>> ((iI 8) &&& 31)) 12 (by decide) (by decide)) (va_cwS 2 hts gL_law_L_low rfl rfl rfl hdL_low ⟨Nat.le_of_ble_eq_true rfl, Nat.le_of_ble_eq_true rfl⟩) tt_pre rfl rfl hl.1 rfl (lv_room (Nat.le_of_ble_eq_true rfl)) dL_law_90 hf0) ?_
    have hlo_90 := lo_lt (x >>> ((iI 8) &&& 31)) (n := 12) (by decide)
    have hPc := hP.sub (ws' := [(o0, .inr (0, [.long (pk a0), .long (pk a1), .long (pkn q w), .int (iI ((w : Nat) : Int))]))]) [0] rfl
    refine rd_call (va_runS (As := [.ref o0, .int (iI ((lo (x >>> ((iI 5) &&& 31)) 2 : Nat) : Int)), .int (iI ((lo (x >>> ((iI 8) &&& 31)) 12 : Nat) : Int))]) (rest := []) ⟨hx, hb, hml, hown, hts⟩ (mL_isRowSo l dC dI o0 a0 a1 q w hp0 hp1 hw hq hqd (lo (x >>> ((iI 5) &&& 31)) 2) (lo (x >>> ((iI 8) &&& 31)) 12) (by omega) (by omega)) (va_cwS 3 hts gL_law_L_isRowSo rfl rfl rfl hdL_isRowSo ⟨Nat.le_of_ble_eq_true rfl, Nat.le_of_ble_eq_true rfl⟩) (bW_preS hK hPc) rfl rfl hl.1 rfl (lv_room (Nat.le_of_ble_eq_true rfl)) dL_law_93 hf0) ?_
    refine ib_if_eq (tgt := 165) hx hb dL_law_96 (by decide) ⟨by omega, by omega⟩ (fun c_96 => absurd c_96 (by decide)) (fun c_96 => ?_)
    refine lv_aload_n hx hb dL_law_99 rfl (lv_at hl 1 rfl) ?_
    refine lv_iload hx hb dL_law_100 (lv_at hl 4 rfl) ?_
    refine ib_bi hx hb dL_law_102 (by decide) ?_
    refine lv_ishr hx hb dL_law_104 ?_
    refine ib_si hx hb dL_law_105 (by decide) ?_
    refine rd_call (va_runS (As := [.int (x >>> ((iI 6) &&& 31)), .int (iI 4096)]) (rest := [.ref o0]) ⟨hx, hb, hml, hown, hts⟩ (mL_low l (x >>> ((iI 6) &&& 31)) 4096 (by decide) (by decide)) (va_cwS 2 hts gL_law_L_low rfl rfl rfl hdL_low ⟨Nat.le_of_ble_eq_true rfl, Nat.le_of_ble_eq_true rfl⟩) tt_pre rfl rfl hl.1 rfl (lv_room (Nat.le_of_ble_eq_true rfl)) dL_law_108 hf0) ?_
    have hlo_108 := lo_lt (x >>> ((iI 6) &&& 31)) (n := 4096) (by decide)
    have hPc := hP.sub (ws' := [(o0, .inr (0, [.long (pk a0), .long (pk a1), .long (pkn q w), .int (iI ((w : Nat) : Int))]))]) [0] rfl
    refine rd_call (va_runS (As := [.ref o0, .int (iI ((lo (x >>> ((iI 6) &&& 31)) 4096 : Nat) : Int))]) (rest := []) ⟨hx, hb, hml, hown, hts⟩ (mL_isSetSo l dC dI o0 a0 a1 q w hp0 hp1 hw hq hqd (lo (x >>> ((iI 6) &&& 31)) 4096) (by omega)) (va_cwS 2 hts gL_law_L_isSetSo rfl rfl rfl hdL_isSetSo ⟨Nat.le_of_ble_eq_true rfl, Nat.le_of_ble_eq_true rfl⟩) (bW_preS hK hPc) rfl rfl hl.1 rfl (lv_room (Nat.le_of_ble_eq_true rfl)) dL_law_111 hf0) ?_
    refine ib_if_eq (tgt := 165) hx hb dL_law_114 (by decide) ⟨by omega, by omega⟩ (fun c_114 => absurd c_114 (by decide)) (fun c_114 => ?_)
    refine lv_aload_n hx hb dL_law_117 rfl (lv_at hl 1 rfl) ?_
    refine lv_iload hx hb dL_law_118 (lv_at hl 4 rfl) ?_
    refine ib_bi hx hb dL_law_120 (by decide) ?_
    refine lv_ishr hx hb dL_law_122 ?_
    refine ib_const hx hb dL_law_123 ?_
    refine rd_call (va_runS (As := [.int (x >>> ((iI 7) &&& 31)), .int (iI 2)]) (rest := [.ref o0]) ⟨hx, hb, hml, hown, hts⟩ (mL_low l (x >>> ((iI 7) &&& 31)) 2 (by decide) (by decide)) (va_cwS 2 hts gL_law_L_low rfl rfl rfl hdL_low ⟨Nat.le_of_ble_eq_true rfl, Nat.le_of_ble_eq_true rfl⟩) tt_pre rfl rfl hl.1 rfl (lv_room (Nat.le_of_ble_eq_true rfl)) dL_law_124 hf0) ?_
    have hlo_124 := lo_lt (x >>> ((iI 7) &&& 31)) (n := 2) (by decide)
    refine lv_iload hx hb dL_law_127 (lv_at hl 4 rfl) ?_
    refine ib_bi hx hb dL_law_129 (by decide) ?_
    refine lv_ishr hx hb dL_law_131 ?_
    refine ib_bi hx hb dL_law_132 (by decide) ?_
    refine rd_call (va_runS (As := [.int (x >>> ((iI 10) &&& 31)), .int (iI 48)]) (rest := [.int (iI ((lo (x >>> ((iI 7) &&& 31)) 2 : Nat) : Int)), .ref o0]) ⟨hx, hb, hml, hown, hts⟩ (mL_low l (x >>> ((iI 10) &&& 31)) 48 (by decide) (by decide)) (va_cwS 2 hts gL_law_L_low rfl rfl rfl hdL_low ⟨Nat.le_of_ble_eq_true rfl, Nat.le_of_ble_eq_true rfl⟩) tt_pre rfl rfl hl.1 rfl (lv_room (Nat.le_of_ble_eq_true rfl)) dL_law_134 hf0) ?_
    have hlo_134 := lo_lt (x >>> ((iI 10) &&& 31)) (n := 48) (by decide)
    refine lv_iload hx hb dL_law_137 (lv_at hl 4 rfl) ?_
    refine ib_bi hx hb dL_law_139 (by decide) ?_
    refine lv_ishr hx hb dL_law_141 ?_
    refine ib_bi hx hb dL_law_142 (by decide) ?_
    refine rd_call (va_runS (As := [.int (x >>> ((iI 14) &&& 31)), .int (iI 48)]) (rest := [.int (iI ((lo (x >>> ((iI 10) &&& 31)) 48 : Nat) : Int)), .int (iI ((lo (x >>> ((iI 7) &&& 31)) 2 : Nat) : Int)), .ref o0]) ⟨hx, hb, hml, hown, hts⟩ (mL_low l (x >>> ((iI 14) &&& 31)) 48 (by decide) (by decide)) (va_cwS 2 hts gL_law_L_low rfl rfl rfl hdL_low ⟨Nat.le_of_ble_eq_true rfl, Nat.le_of_ble_eq_true rfl⟩) tt_pre rfl rfl hl.1 rfl (lv_room (Nat.le_of_ble_eq_true rfl)) dL_law_144 hf0) ?_
    have hlo_144 := lo_lt (x >>> ((iI 14) &&& 31)) (n := 48) (by decide)
    refine ib_const hx hb dL_law_147 ?_
    refine lv_iload hx hb dL_law_148 (lv_at hl 4 rfl) ?_
    refine ib_bi hx hb dL_law_150 (by decide) ?_
    refine lv_ishr hx hb dL_law_152 ?_
    refine ib_bi hx hb dL_law_153 (by decide) ?_
    refine rd_call (va_runS (As := [.int (x >>> ((iI 17) &&& 31)), .int (iI 12)]) (rest := [.int (iI 1), .int (iI ((lo (x >>> ((iI 14) &&& 31)) 48 : Nat) : Int)), .int (iI ((lo (x >>> ((iI 10) &&& 31)) 48 : Nat) : Int)), .int (iI ((lo (x >>> ((iI 7) &&& 31)) 2 : Nat) : Int)), .ref o0]) ⟨hx, hb, hml, hown, hts⟩ (mL_low l (x >>> ((iI 17) &&& 31)) 12 (by decide) (by decide)) (va_cwS 2 hts gL_law_L_low rfl rfl rfl hdL_low ⟨Nat.le_of_ble_eq_true rfl, Nat.le_of_ble_eq_true rfl⟩) tt_pre rfl rfl hl.1 rfl (lv_room (Nat.le_of_ble_eq_true rfl)) dL_law_155 hf0) ?_
    have hlo_155 := lo_lt (x >>> ((iI 17) &&& 31)) (n := 12) (by decide)
    refine ib_add (z := ((1 + (lo (x >>> ((iI 17) &&& 31)) 12) : Nat) : Int)) hx hb dL_law_158 (by omega) ?_
    have hPc := hP.sub (ws' := [(o0, .inr (0, [.long (pk a0), .long (pk a1), .long (pkn q w), .int (iI ((w : Nat) : Int))]))]) [0] rfl
    refine rd_call (va_runS (As := [.ref o0, .int (iI ((lo (x >>> ((iI 7) &&& 31)) 2 : Nat) : Int)), .int (iI ((lo (x >>> ((iI 10) &&& 31)) 48 : Nat) : Int)), .int (iI ((lo (x >>> ((iI 14) &&& 31)) 48 : Nat) : Int)), .int (iI ((1 + (lo (x >>> ((iI 17) &&& 31)) 12) : Nat) : Int))]) (rest := []) ⟨hx, hb, hml, hown, hts⟩ (mL_areKeptSo l dC dI o0 a0 a1 q w hp0 hp1 hw hq hqd (lo (x >>> ((iI 7) &&& 31)) 2) (lo (x >>> ((iI 10) &&& 31)) 48) (lo (x >>> ((iI 14) &&& 31)) 48) (1 + (lo (x >>> ((iI 17) &&& 31)) 12)) (by omega) (by omega) (by omega) (by omega) (by omega)) (va_cwS 5 hts gL_law_L_areKeptSo rfl rfl rfl hdL_areKeptSo ⟨Nat.le_of_ble_eq_true rfl, Nat.le_of_ble_eq_true rfl⟩) (bW_preS hK hPc) rfl rfl hl.1 rfl (lv_room (Nat.le_of_ble_eq_true rfl)) dL_law_159 hf0) ?_
    refine ib_if_ne (tgt := 167) hx hb dL_law_162 (by decide) ⟨by omega, by omega⟩ (fun c_162 => ?_) (fun c_162 => absurd c_162 (by decide))
    exact kk ls (lv_sub hl [0, 1, 2, 3] rfl)

set_option maxHeartbeats 4000000 in
set_option maxRecDepth 100000 in
theorem law_turn {p : Program} {l : Launch} {e : Env} {s : State} {m : MethodId} {below : List Frame} {meth : Method} {c : Code} {Q : State → Prop} {dC : Nat → ClassId} {dI : Nat → Nat → Nat} {b L : Nat} {xs : Nat → Int32} (C : LC p l s m meth c (dC, dI) b L xs) (hL : L ≤ 260) {o0 p0 n cells slots : Nat} {a0 a1 q : Nat → Nat} {w : Nat} {H : Heap} {ls : Array Slot} (hn : n < 44) (hc : cells + 2 ≤ 112) (hsl : slots + 12 ≤ 876) (hI : LI s (dC, dI) o0 p0 a0 a1 q w H) (hl : lv_has ls 6 [(0, .ref b), (1, .ref o0), (2, .ref p0), (3, .int (iI ((n : Nat) : Int)))])
    (kk : ∀ (a0 a1 q : Nat → Nat) (w : Nat) (H : Heap) (ls : Array Slot), LI s (dC, dI) o0 p0 a0 a1 q w H → lv_has ls 6 [(0, .ref b), (1, .ref o0), (2, .ref p0), (3, .int (iI ((n : Nat) : Int)))] → W p l e room_1 s m #[Value.ref b] below meth c H [] (cells + 2) (slots + 12) Q (F0 m 167 ls [])) : W p l e room_1 s m #[Value.ref b] below meth c H [] cells slots Q (F0 m 24 ls []) := by
  have C0 := C
  obtain ⟨hx, hb, hml, hown, hts, hK, hG0, hN, hX, hbl, hfl⟩ := C
  obtain ⟨hGs, hP, hD, hS⟩ := hI
  have hbA : ¬ LA s b := Nat.not_le.mpr hbl
  have hr1 : room_1.cells = 112 := rfl
  have hr2 : room_1.slots = 876 := rfl
  have hf0 : cells ≤ room_1.cells ∧ slots ≤ room_1.slots := ⟨by omega, by omega⟩
  obtain ⟨v, b0, b1, q', w', hR, hM⟩ := eL_act hGs (cel L xs n)
  obtain ⟨hGb, hv, hkeep⟩ := hR
  have km : ∀ (H : Heap) (ls : Array Slot), LI s (dC, dI) o0 p0 b0 b1 q' w' H → lv_has ls 6 [(0, .ref b), (1, .ref o0), (2, .ref p0), (3, .int (iI ((n : Nat) : Int))), (4, .int (cel L xs n))] → W p l e room_1 s m #[Value.ref b] below meth c H [] (cells + 2) (slots + 12) Q (F0 m 57 ls []) := fun H ls hI hl =>
    law_mid C0 hL hn ⟨by omega, by omega⟩ hI hl (fun ls hl => kk b0 b1 q' w' H ls hI hl)
  refine lv_aload_n hx hb dL_law_24 rfl (lv_at hl 0 rfl) ?_
  refine lv_iload_n hx hb dL_law_25 rfl (lv_at hl 3 rfl) ?_
  refine rd_call (va_runS (As := [.ref b, .int (iI ((n : Nat) : Int))]) (rest := []) ⟨hx, hb, hml, hown, hts⟩ (mL_cell l b L xs n hL hn) (va_cwS 2 hts gL_law_L_cell rfl rfl rfl hdL_cell ⟨Nat.le_of_ble_eq_true rfl, Nat.le_of_ble_eq_true rfl⟩) (bX9_pre hX hbl hS.1 (hS.2.1 b hbl hbA)) rfl rfl hl.1 rfl (lv_room (Nat.le_of_ble_eq_true rfl)) dL_law_26 hf0) ?_
  refine lv_istore (lv' := [(4, .int (cel L xs n)), (0, .ref b), (1, .ref o0), (2, .ref p0), (3, .int (iI ((n : Nat) : Int)))]) hx hb dL_law_29 hl (by decide) rfl (fun ls hl => ?_)
  refine lv_aload_n hx hb dL_law_31 rfl (lv_at hl 2 rfl) ?_
  refine lv_iload hx hb dL_law_32 (lv_at hl 0 rfl) ?_
  have hP1 := va_P_l (w1 := [oC o0 a0 a1 q w]) (w2 := [oC p0 a0 a1 q w]) hP
  have hD1 := va_D_l (w1 := [oC o0 a0 a1 q w]) (w2 := [oC p0 a0 a1 q w]) hD
  refine ax_call (va_runS (As := [.ref o0, .int (cel L xs n)]) (rest := []) ⟨hx, hb, hml, hown, hts⟩ (hM l hfl dC dI o0) (va_cwS 2 hts gL_law_L_act rfl rfl rfl hdL_act ⟨Nat.le_of_ble_eq_true rfl, Nat.le_of_ble_eq_true rfl⟩) (bZ_preS hK hP1 hD1 (hG0.at hS) hN) rfl rfl hl.1 rfl (lv_room (Nat.le_of_ble_eq_true rfl)) dL_law_34 ⟨by omega, by omega⟩) hS (fun q9 h => inW_A hD1 h) (fun H locs hPn hz hk hS => ?_)
  have hP : va_P (dC, dI) vwCl ([oC o0 b0 b1 q' w'] ++ [oC p0 a0 a1 q w]) H := wj_l (w1 := [oC o0 a0 a1 q w]) (w2 := [oC p0 a0 a1 q w]) (w1' := [oC o0 b0 b1 q' w']) hP hD hPn hk
  have hD : va_D (LA s) ([oC o0 b0 b1 q' w'] ++ [oC p0 a0 a1 q w]) := va_D_same (w := [oC o0 a0 a1 q w] ++ [oC p0 a0 a1 q w]) (Eq.trans (b := [o0, p0]) rfl rfl) hD
  refine va_forget hS.2.2 ?_
  have hS := va_S_nil hS
  refine lv_istore (lv' := [(5, .int (iI v)), (4, .int (cel L xs n)), (0, .ref b), (1, .ref o0), (2, .ref p0), (3, .int (iI ((n : Nat) : Int)))]) hx hb dL_law_37 hl (by decide) rfl (fun ls hl => ?_)
  refine lv_iload hx hb dL_law_39 (lv_at hl 0 rfl) ?_
  refine lv_ldc (v := -99999) hx hb hown (hts (.constant RL 16 (-99999)) (by decide +kernel)) dL_law_41 ?_
  refine st_i (y := iI (-99999)) (by decide) ?_
  refine ib_icmp_eq (tgt := 57) hx hb dL_law_43 (by decide) ⟨by omega, by omega⟩ ⟨by omega, by omega⟩ (fun c_43 => ?_) (fun c_43 => ?_)
  · obtain ⟨e1, e2, e3, e4⟩ := hkeep c_43
    refine W.widen (k := cells + 2) (n := slots + 12) (by omega) (by omega) ?_
    subst e1; subst e2; subst e3; subst e4
    exact km H ls ⟨hGb, hP, hD, hS⟩ (lv_sub hl [2, 3, 4, 5, 1] rfl)
  · refine lv_aload_n hx hb dL_law_46 rfl (lv_at hl 4 rfl) ?_
    refine lv_iload hx hb dL_law_47 (lv_at hl 1 rfl) ?_
    have hP1 := va_P_r (w1 := [oC o0 b0 b1 q' w']) (w2 := [oC p0 a0 a1 q w]) hP
    have hD1 := va_D_r (w1 := [oC o0 b0 b1 q' w']) (w2 := [oC p0 a0 a1 q w]) hD
    refine ax_call (va_runS (As := [.ref p0, .int (cel L xs n)]) (rest := []) ⟨hx, hb, hml, hown, hts⟩ (hM l hfl dC dI p0) (va_cwS 2 hts gL_law_L_act rfl rfl rfl hdL_act ⟨Nat.le_of_ble_eq_true rfl, Nat.le_of_ble_eq_true rfl⟩) (bZ_preS hK hP1 hD1 (hG0.at hS) hN) rfl rfl hl.1 rfl (lv_room (Nat.le_of_ble_eq_true rfl)) dL_law_49 ⟨by omega, by omega⟩) hS (fun q9 h => inW_A hD1 h) (fun H locs hPn hz hk hS => ?_)
    have hP : va_P (dC, dI) vwCl ([oC o0 b0 b1 q' w'] ++ [oC p0 b0 b1 q' w']) H := wj_r (w1 := [oC o0 b0 b1 q' w']) (w2 := [oC p0 a0 a1 q w]) (w2' := [oC p0 b0 b1 q' w']) hP hD hPn hk
    have hD : va_D (LA s) ([oC o0 b0 b1 q' w'] ++ [oC p0 b0 b1 q' w']) := va_D_same (w := [oC o0 b0 b1 q' w'] ++ [oC p0 a0 a1 q w]) (Eq.trans (b := [o0, p0]) rfl rfl) hD
    refine va_forget hS.2.2 ?_
    have hS := va_S_nil hS
    refine lv_iload hx hb dL_law_52 (lv_at hl 0 rfl) ?_
    refine ib_icmp_ne (tgt := 65) hx hb dL_law_54 (by decide) ⟨by omega, by omega⟩ ⟨by omega, by omega⟩ (fun c_54 => absurd rfl c_54) (fun _ => ?_)
    exact km H ls ⟨hGb, hP, hD, hS⟩ (lv_sub hl [2, 3, 4, 5, 1] rfl)

set_option maxHeartbeats 4000000 in
set_option maxRecDepth 100000 in
theorem law_loop {p : Program} {l : Launch} {e : Env} {s : State} {m : MethodId} {below : List Frame} {meth : Method} {c : Code} {Q : State → Prop} {dC : Nat → ClassId} {dI : Nat → Nat → Nat} {b L : Nat} {xs : Nat → Int32} (C : LC p l s m meth c (dC, dI) b L xs) (hL : L ≤ 260) {o0 p0 : Nat} (kE : ∀ (H : Heap) (ls : Array Slot), W p l e room_1 s m #[Value.ref b] below meth c H [] 112 876 Q (F0 m 173 ls [])) : ∀ (j n cells slots : Nat) (a0 a1 q : Nat → Nat) (w : Nat) (H : Heap) (ls : Array Slot), LI s (dC, dI) o0 p0 a0 a1 q w H → lv_has ls 6 [(0, .ref b), (1, .ref o0), (2, .ref p0), (3, .int (iI ((n : Nat) : Int)))] → n + j = 44 → cells + 2 * j ≤ 112 → slots + 12 * j ≤ 876 → W p l e room_1 s m #[Value.ref b] below meth c H [] cells slots Q (F0 m 18 ls []) := by
  intro j
  induction j with
  | zero =>
    intro n cells slots a0 a1 q w H ls hI hl h1 h2 h3
    obtain ⟨hx, hb, hml, hown, hts, hK, hG0, hN, hX, hbl, hfl⟩ := C
    refine lv_iload_n hx hb dL_law_18 rfl (lv_at hl 3 rfl) ?_
    refine ib_bi hx hb dL_law_19 (by decide) ?_
    refine ib_icmp_ge (tgt := 173) hx hb dL_law_21 (by decide) ⟨by omega, by omega⟩ ⟨by omega, by omega⟩ (fun _ => ?_) (fun h => absurd h (by omega))
    exact W.widen (k := 112) (n := 876) (by omega) (by omega) (kE _ _)
  | succ j ih =>
    intro n cells slots a0 a1 q w H ls hI hl h1 h2 h3
    have C0 := C
    obtain ⟨hx, hb, hml, hown, hts, hK, hG0, hN, hX, hbl, hfl⟩ := C
    refine lv_iload_n hx hb dL_law_18 rfl (lv_at hl 3 rfl) ?_
    refine ib_bi hx hb dL_law_19 (by decide) ?_
    refine ib_icmp_ge (tgt := 173) hx hb dL_law_21 (by decide) ⟨by omega, by omega⟩ ⟨by omega, by omega⟩ (fun h => absurd h (by omega)) (fun _ => ?_)
    refine law_turn C0 hL (by omega) (by omega) (by omega) hI hl (fun a0 a1 q w H ls hI hl => ?_)
    refine lv_iinc (v := iI ((n + 1 : Nat) : Int)) (lv' := [(3, .int (iI ((n + 1 : Nat) : Int))), (0, .ref b), (1, .ref o0), (2, .ref p0)]) hx hb dL_law_167 hl (k := 3) rfl (iI_inc (by omega)) (by decide) rfl (fun ls hl => ?_)
    refine lv_goto (tgt := 18) hx hb dL_law_170 (by decide) ?_
    exact ih (n + 1) (cells + 2) (slots + 12) a0 a1 q w H ls hI (lv_sub hl [1, 2, 3, 0] rfl) (by omega) (by omega) (by omega)
