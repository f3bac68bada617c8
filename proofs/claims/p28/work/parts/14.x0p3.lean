set_option maxHeartbeats 4000000 in
set_option maxRecDepth 100000 in
theorem mX0_isDerived_ok6 (l : Launch) (dC : Nat → ClassId) (dI : Nat → Nat → Nat) (o0 : Nat) (a0 a1 q : Nat → Nat) (w : Nat) (hp0 : Pm a0) (hp1 : Pm a1) (hw : w ≤ 12) (hq : ∀ i, i < w → q i < 12) (hqd : ∀ i j, i < w → j < w → q i = q j → i = j) (r : Nat) (hr9 : r < 2) : rd l yX0_isDerived wsX0_isDerived { frames := 4, cells := 0, slots := 0, locals := 87 } [.ref o0, .int (iI ((r : Nat) : Int)), .int (iI 6)] (bW (dC, dI) [(o0, .inr (0, [.long (pk a0), .long (pk a1), .long (pkn q w), .int (iI ((w : Nat) : Int))]))] []) (some (.int (iI (bI (alN (deB (rw_ r a0 a1) 6) 2 = true))))) := by
  refine Met.ofW (cc := cX0_isDerived) (maxL := 8) (ret := (some .boolean)) (by decide) rfl ?_
  intro P0 e s m args below meth c s₁ B hml hv
  obtain ⟨rfl, hP, hK⟩ := hv
  have hx := B.exec
  have hb := B.bytes
  have hr := B.returns
  have hts := atoms_spec (ws := wsX0_isDerived) B.pre
  have hown : s.vm.findClass RX0 = some m.cls := findClass_of_methodNamed B.named
  have hlocks := B.notSynchronized
  have hl := lv_entry ([.ref o0, .int (iI ((r : Nat) : Int)), .int (iI 6)]) (n := 8) (Nat.le_of_ble_eq_true rfl)
  rw [lg_entry_eq]
  generalize (lg_sl ([.ref o0, .int (iI ((r : Nat) : Int)), .int (iI 6)]) ++ List.replicate (8 - (lg_sl ([.ref o0, .int (iI ((r : Nat) : Int)), .int (iI 6)])).length) Slot.unset).toArray = ls at hl ⊢
  have hl : lv_has ls 8 [(0, .ref o0), (1, .int (iI ((r : Nat) : Int))), (2, .int (iI 6))] := hl
  have hR := rw_Pm hp0 hp1 r
  have hR1 := hR.1
  refine lv_iload_n hx hb dX0_isDerived_0 rfl (lv_at hl 1 rfl) ?_
  refine rd_call (va_runS (As := [.int (iI ((r : Nat) : Int))]) (rest := []) ⟨hx, hb, hml, hown, hts⟩ (mX0_requireRow l ((r : Nat) : Int) ⟨by omega, by omega⟩ (by omega)) (va_cwS 1 hts gX0_isDerived_X0_requireRow rfl rfl rfl hdX0_requireRow ⟨Nat.le_of_ble_eq_true rfl, Nat.le_of_ble_eq_true rfl⟩) tt_pre rfl rfl hl.1 rfl (lv_room (Nat.le_of_ble_eq_true rfl)) dX0_isDerived_1 ⟨Nat.le_of_ble_eq_true rfl, Nat.le_of_ble_eq_true rfl⟩) ?_
  refine lv_iload_n hx hb dX0_isDerived_4 rfl (lv_at hl 2 rfl) ?_
  refine rd_call (va_runS (As := [.int (iI 6)]) (rest := []) ⟨hx, hb, hml, hown, hts⟩ (mX0_requireSize l 6 ⟨by omega, by omega⟩ (by omega)) (va_cwS 1 hts gX0_isDerived_X0_requireSize rfl rfl rfl hdX0_requireSize ⟨Nat.le_of_ble_eq_true rfl, Nat.le_of_ble_eq_true rfl⟩) tt_pre rfl rfl hl.1 rfl (lv_room (Nat.le_of_ble_eq_true rfl)) dX0_isDerived_5 ⟨Nat.le_of_ble_eq_true rfl, Nat.le_of_ble_eq_true rfl⟩) ?_
  refine lv_aload_n hx hb dX0_isDerived_8 rfl (lv_at hl 0 rfl) ?_
  refine lv_iload_n hx hb dX0_isDerived_9 rfl (lv_at hl 1 rfl) ?_
  refine rd_call (va_runV (As := [.int (iI ((r : Nat) : Int))]) (rest := []) ⟨hx, hb, hml, hown, hts⟩ (mX0_rowAt l dC dI o0 a0 a1 q w hp0 hp1 hw hq hqd r (by omega)) (cwV 1 hts gX0_isDerived_X0_rowAt rfl rfl rfl hvX0_rowAt ⟨Nat.le_of_ble_eq_true rfl, Nat.le_of_ble_eq_true rfl⟩) (bW_pre (ci := 0) (q0 := 0) hK hP rfl rfl rfl) rfl rfl hl.1 rfl (lv_room (Nat.le_of_ble_eq_true rfl)) dX0_isDerived_10 ⟨Nat.le_of_ble_eq_true rfl, Nat.le_of_ble_eq_true rfl⟩) ?_
  refine lv_lstore_n (lv' := [(3, .long (pk (rw_ r a0 a1))), (0, .ref o0), (1, .int (iI ((r : Nat) : Int))), (2, .int (iI 6))]) hx hb dX0_isDerived_13 rfl hl (by decide) rfl (fun ls hl => ?_)
  refine lv_lload_n hx hb dX0_isDerived_14 rfl (lv_at hl 0 rfl) ?_
  refine ib_const hx hb dX0_isDerived_15 ?_
  refine lv_iload_n hx hb dX0_isDerived_16 rfl (lv_at hl 3 rfl) ?_
  refine rd_call (va_runS (As := [.long (pk (rw_ r a0 a1)), .int (iI 0), .int (iI 6)]) (rest := []) ⟨hx, hb, hml, hown, hts⟩ (mX0_setOf l (pk (rw_ r a0 a1)) 0 6 (by omega)) (va_cwS 3 hts gX0_isDerived_X0_setOf rfl rfl rfl hdX0_setOf ⟨Nat.le_of_ble_eq_true rfl, Nat.le_of_ble_eq_true rfl⟩) tt_pre rfl rfl hl.1 rfl (lv_room (Nat.le_of_ble_eq_true rfl)) dX0_isDerived_17 ⟨Nat.le_of_ble_eq_true rfl, Nat.le_of_ble_eq_true rfl⟩) ?_
  have hs_17 := setN_lt (pk (rw_ r a0 a1)) 0 6
  refine st_i (y := iI ((setF (fm (rw_ r a0 a1) (rw_ r a0 a1 0)) 0 6 : Nat) : Int)) (congrArg (fun z : Nat => iI ((z : Nat) : Int)) (sg_pk hR1 (by decide))) ?_
  have hs_a := setF_lt (fm_lt (rw_ r a0 a1) (rw_ r a0 a1 0)) 0 6
  refine rd_call (va_runS (As := [.int (iI ((setF (fm (rw_ r a0 a1) (rw_ r a0 a1 0)) 0 6 : Nat) : Int))]) (rest := []) ⟨hx, hb, hml, hown, hts⟩ (mX0_leastLike l (setF (fm (rw_ r a0 a1) (rw_ r a0 a1 0)) 0 6) (by omega)) (va_cwS 1 hts gX0_isDerived_X0_leastLike rfl rfl rfl hdX0_leastLike ⟨Nat.le_of_ble_eq_true rfl, Nat.le_of_ble_eq_true rfl⟩) tt_pre rfl rfl hl.1 rfl (lv_room (Nat.le_of_ble_eq_true rfl)) dX0_isDerived_20 ⟨Nat.le_of_ble_eq_true rfl, Nat.le_of_ble_eq_true rfl⟩) ?_
  have hl_20 := llN_le (setF (fm (rw_ r a0 a1) (rw_ r a0 a1 0)) 0 6) 12
  refine st_i (y := iI ((lsN (setF (fm (rw_ r a0 a1) (rw_ r a0 a1 0)) 0 6) 12 : Nat) : Int)) (congrArg (fun z : Nat => iI ((z : Nat) : Int)) (ll_ls (setF_lt (fm_lt _ _) _ _))) ?_
  refine lv_istore (lv' := [(5, .int (iI ((lsN (setF (fm (rw_ r a0 a1) (rw_ r a0 a1 0)) 0 6) 12 : Nat) : Int))), (3, .long (pk (rw_ r a0 a1))), (0, .ref o0), (1, .int (iI ((r : Nat) : Int))), (2, .int (iI 6))]) hx hb dX0_isDerived_23 hl (by decide) rfl (fun ls hl => ?_)
  refine ib_const hx hb dX0_isDerived_25 ?_
  refine lv_istore (lv' := [(6, .int (iI 1)), (5, .int (iI ((lsN (setF (fm (rw_ r a0 a1) (rw_ r a0 a1 0)) 0 6) 12 : Nat) : Int))), (3, .long (pk (rw_ r a0 a1))), (0, .ref o0), (1, .int (iI ((r : Nat) : Int))), (2, .int (iI 6))]) hx hb dX0_isDerived_26 hl (by decide) rfl (fun ls hl => ?_)
  have lp_28_1 : ∀ (j n : Nat), n + j = 12 → 1 ≤ n → (∀ i, i < n → i * 6 < 12 → deB (rw_ r a0 a1) 6 i = true) → ∀ ls : Array Slot, lv_has ls 8 [(0, .ref o0), (1, .int (iI ((r : Nat) : Int))), (2, .int (iI 6)), (3, .long (pk (rw_ r a0 a1))), (5, .int (iI ((lsN (setF (fm (rw_ r a0 a1) (rw_ r a0 a1 0)) 0 6) 12 : Nat) : Int))), (6, .int (iI ((n : Nat) : Int)))] → W P0 l e (headSpec wsX0_isDerived { frames := 4, cells := 0, slots := 0, locals := 87 }).room s m ([.ref o0, .int (iI ((r : Nat) : Int)), .int (iI 6)] : List Value).toArray below meth c s.heap [] 0 0 (MQ below (rdQ (some (.int (iI (bI (alN (deB (rw_ r a0 a1) 6) 2 = true)))))) ([.ref o0, .int (iI ((r : Nat) : Int)), .int (iI 6)] : List Value).toArray s 0 0 (fun _ => False)) (F0 m 28 ls []) := by
    intro j
    induction j with
    | zero =>
      intro n hn_28 hn1 hdr ls hl
      have hla := lsN_le (setF (fm (rw_ r a0 a1) (rw_ r a0 a1 0)) 0 6) 12
      have hsa := setF_lt (fm_lt (rw_ r a0 a1) (rw_ r a0 a1 0)) 0 6
      refine lv_iload hx hb dX0_isDerived_28 (lv_at hl 5 rfl) ?_
      refine ib_bi hx hb dX0_isDerived_30 (by decide) ?_
      refine ib_icmp_ge (tgt := 71) hx hb dX0_isDerived_32 (by decide) ⟨by omega, by omega⟩ ⟨by omega, by omega⟩ (fun c_32 => ?_) (fun c_32 => absurd c_32 (by omega))
      refine ib_const hx hb dX0_isDerived_71 ?_
      refine st_i (y := iI (bI (alN (deB (rw_ r a0 a1) 6) 2 = true))) (congrArg iI (bI_t (al_of (fun i hi => hdr i (by omega) (by omega)))).symm) ?_
      exact W.zret hx hb hr (bI_nar _) (fun t ht _ => ⟨rfl, ht⟩) (fun _ h => nomatch h) dX0_isDerived_72
    | succ j ih_28_1 =>
      intro n hn_28 hn1 hdr ls hl
      have hla := lsN_le (setF (fm (rw_ r a0 a1) (rw_ r a0 a1 0)) 0 6) 12
      have hsa := setF_lt (fm_lt (rw_ r a0 a1) (rw_ r a0 a1 0)) 0 6
      refine lv_iload hx hb dX0_isDerived_28 (lv_at hl 5 rfl) ?_
      refine ib_bi hx hb dX0_isDerived_30 (by decide) ?_
      refine ib_icmp_ge (tgt := 71) hx hb dX0_isDerived_32 (by decide) ⟨by omega, by omega⟩ ⟨by omega, by omega⟩ (fun c_32 => absurd c_32 (by omega)) (fun c_32 => ?_)
      refine lv_iload hx hb dX0_isDerived_35 (lv_at hl 5 rfl) ?_
      refine lv_iload_n hx hb dX0_isDerived_37 rfl (lv_at hl 2 rfl) ?_
      refine ib_mul (z := ((n * 6 : Nat) : Int)) hx hb dX0_isDerived_38 (by first | omega | rfl | (push_cast; rfl)) ?_
      refine lv_istore (lv' := [(7, .int (iI ((n * 6 : Nat) : Int))), (0, .ref o0), (1, .int (iI ((r : Nat) : Int))), (2, .int (iI 6)), (3, .long (pk (rw_ r a0 a1))), (5, .int (iI ((lsN (setF (fm (rw_ r a0 a1) (rw_ r a0 a1 0)) 0 6) 12 : Nat) : Int))), (6, .int (iI ((n : Nat) : Int)))]) hx hb dX0_isDerived_39 hl (by decide) rfl (fun ls hl => ?_)
      refine lv_iload hx hb dX0_isDerived_41 (lv_at hl 0 rfl) ?_
      refine ib_bi hx hb dX0_isDerived_43 (by decide) ?_
      refine ib_icmp_ge (tgt := 65) hx hb dX0_isDerived_45 (by decide) ⟨by omega, by omega⟩ ⟨by omega, by omega⟩ (fun c_45 => ?_) (fun c_45 => ?_)
      · skip
        refine lv_iinc (v := iI ((n + 1 : Nat) : Int)) (lv' := [(6, .int (iI ((n + 1 : Nat) : Int))), (7, .int (iI ((n * 6 : Nat) : Int))), (0, .ref o0), (1, .int (iI ((r : Nat) : Int))), (2, .int (iI 6)), (3, .long (pk (rw_ r a0 a1))), (5, .int (iI ((lsN (setF (fm (rw_ r a0 a1) (rw_ r a0 a1 0)) 0 6) 12 : Nat) : Int)))]) hx hb dX0_isDerived_65 hl (k := 6) rfl (iI_inc (by omega)) (by decide) rfl (fun ls hl => ?_)
        refine lv_goto (tgt := 28) hx hb dX0_isDerived_68 (by decide) ?_
        exact ih_28_1 (n + 1) (by omega) (by omega) (fun i hi hz9 => by rcases (show i < n ∨ i = n by omega) with h9 | h9; exact hdr i h9 hz9; omega) _ (lv_sub hl [2, 3, 4, 5, 6, 0] rfl)
      · skip
        refine lv_lload_n hx hb dX0_isDerived_48 rfl (lv_at hl 4 rfl) ?_
        refine lv_iload hx hb dX0_isDerived_49 (lv_at hl 0 rfl) ?_
        refine lv_iload_n hx hb dX0_isDerived_51 rfl (lv_at hl 3 rfl) ?_
        refine rd_call (va_runS (As := [.long (pk (rw_ r a0 a1)), .int (iI ((n * 6 : Nat) : Int)), .int (iI 6)]) (rest := []) ⟨hx, hb, hml, hown, hts⟩ (mX0_setOf l (pk (rw_ r a0 a1)) (n * 6) 6 (by omega)) (va_cwS 3 hts gX0_isDerived_X0_setOf rfl rfl rfl hdX0_setOf ⟨Nat.le_of_ble_eq_true rfl, Nat.le_of_ble_eq_true rfl⟩) tt_pre rfl rfl hl.1 rfl (lv_room (Nat.le_of_ble_eq_true rfl)) dX0_isDerived_52 ⟨Nat.le_of_ble_eq_true rfl, Nat.le_of_ble_eq_true rfl⟩) ?_
        have hs_52 := setN_lt (pk (rw_ r a0 a1)) (n * 6) 6
        refine st_i (y := iI ((setF (fm (rw_ r a0 a1) (rw_ r a0 a1 0)) (n * 6) 6 : Nat) : Int)) (congrArg (fun z : Nat => iI ((z : Nat) : Int)) (sg_pk hR1 (by omega))) ?_
        have hs_b := setF_lt (fm_lt (rw_ r a0 a1) (rw_ r a0 a1 0)) (n * 6) 6
        refine rd_call (va_runS (As := [.int (iI ((setF (fm (rw_ r a0 a1) (rw_ r a0 a1 0)) (n * 6) 6 : Nat) : Int))]) (rest := []) ⟨hx, hb, hml, hown, hts⟩ (mX0_leastLike l (setF (fm (rw_ r a0 a1) (rw_ r a0 a1 0)) (n * 6) 6) (by omega)) (va_cwS 1 hts gX0_isDerived_X0_leastLike rfl rfl rfl hdX0_leastLike ⟨Nat.le_of_ble_eq_true rfl, Nat.le_of_ble_eq_true rfl⟩) tt_pre rfl rfl hl.1 rfl (lv_room (Nat.le_of_ble_eq_true rfl)) dX0_isDerived_55 ⟨Nat.le_of_ble_eq_true rfl, Nat.le_of_ble_eq_true rfl⟩) ?_
        have hl_55 := llN_le (setF (fm (rw_ r a0 a1) (rw_ r a0 a1 0)) (n * 6) 6) 12
        refine st_i (y := iI ((lsN (setF (fm (rw_ r a0 a1) (rw_ r a0 a1 0)) (n * 6) 6) 12 : Nat) : Int)) (congrArg (fun z : Nat => iI ((z : Nat) : Int)) (ll_ls (setF_lt (fm_lt _ _) _ _))) ?_
        refine lv_iload hx hb dX0_isDerived_58 (lv_at hl 5 rfl) ?_
        have hlb := lsN_le (setF (fm (rw_ r a0 a1) (rw_ r a0 a1 0)) (n * 6) 6) 12
        refine ib_icmp_eq (tgt := 65) hx hb dX0_isDerived_60 (by decide) ⟨by omega, by omega⟩ ⟨by omega, by omega⟩ (fun c_60 => ?_) (fun c_60 => ?_)
        · skip
          refine lv_iinc (v := iI ((n + 1 : Nat) : Int)) (lv' := [(6, .int (iI ((n + 1 : Nat) : Int))), (7, .int (iI ((n * 6 : Nat) : Int))), (0, .ref o0), (1, .int (iI ((r : Nat) : Int))), (2, .int (iI 6)), (3, .long (pk (rw_ r a0 a1))), (5, .int (iI ((lsN (setF (fm (rw_ r a0 a1) (rw_ r a0 a1 0)) 0 6) 12 : Nat) : Int)))]) hx hb dX0_isDerived_65 hl (k := 6) rfl (iI_inc (by omega)) (by decide) rfl (fun ls hl => ?_)
          refine lv_goto (tgt := 28) hx hb dX0_isDerived_68 (by decide) ?_
          exact ih_28_1 (n + 1) (by omega) (by omega) (fun i hi hz9 => by rcases (show i < n ∨ i = n by omega) with h9 | h9; exact hdr i h9 hz9; exact de_eq h9 (by omega)) _ (lv_sub hl [2, 3, 4, 5, 6, 0] rfl)
        · skip
          refine ib_const hx hb dX0_isDerived_63 ?_
          refine st_i (y := iI (bI (alN (deB (rw_ r a0 a1) 6) 2 = true))) (congrArg iI (bI_f (de_no (n := n) (show n < 2 by omega) (by omega))).symm) ?_
          exact W.zret hx hb hr (bI_nar _) (fun t ht _ => ⟨rfl, ht⟩) (fun _ h => nomatch h) dX0_isDerived_64
  exact lp_28_1 11 1 (by omega) (Nat.le_refl 1) (fun i hi _ => by rw [show i = 0 by omega]; exact decide_eq_true rfl) _ (lv_sub hl [3, 4, 5, 2, 1, 0] rfl)

set_option maxHeartbeats 4000000 in
set_option maxRecDepth 100000 in
theorem mX0_isDerived_ok12 (l : Launch) (dC : Nat → ClassId) (dI : Nat → Nat → Nat) (o0 : Nat) (a0 a1 q : Nat → Nat) (w : Nat) (hp0 : Pm a0) (hp1 : Pm a1) (hw : w ≤ 12) (hq : ∀ i, i < w → q i < 12) (hqd : ∀ i j, i < w → j < w → q i = q j → i = j) (r : Nat) (hr9 : r < 2) : rd l yX0_isDerived wsX0_isDerived { frames := 4, cells := 0, slots := 0, locals := 87 } [.ref o0, .int (iI ((r : Nat) : Int)), .int (iI 12)] (bW (dC, dI) [(o0, .inr (0, [.long (pk a0), .long (pk a1), .long (pkn q w), .int (iI ((w : Nat) : Int))]))] []) (some (.int (iI (bI (alN (deB (rw_ r a0 a1) 12) 1 = true))))) := by
  refine Met.ofW (cc := cX0_isDerived) (maxL := 8) (ret := (some .boolean)) (by decide) rfl ?_
  intro P0 e s m args below meth c s₁ B hml hv
  obtain ⟨rfl, hP, hK⟩ := hv
  have hx := B.exec
  have hb := B.bytes
  have hr := B.returns
  have hts := atoms_spec (ws := wsX0_isDerived) B.pre
  have hown : s.vm.findClass RX0 = some m.cls := findClass_of_methodNamed B.named
  have hlocks := B.notSynchronized
  have hl := lv_entry ([.ref o0, .int (iI ((r : Nat) : Int)), .int (iI 12)]) (n := 8) (Nat.le_of_ble_eq_true rfl)
  rw [lg_entry_eq]
  generalize (lg_sl ([.ref o0, .int (iI ((r : Nat) : Int)), .int (iI 12)]) ++ List.replicate (8 - (lg_sl ([.ref o0, .int (iI ((r : Nat) : Int)), .int (iI 12)])).length) Slot.unset).toArray = ls at hl ⊢
  have hl : lv_has ls 8 [(0, .ref o0), (1, .int (iI ((r : Nat) : Int))), (2, .int (iI 12))] := hl
  have hR := rw_Pm hp0 hp1 r
  have hR1 := hR.1
  refine lv_iload_n hx hb dX0_isDerived_0 rfl (lv_at hl 1 rfl) ?_
  refine rd_call (va_runS (As := [.int (iI ((r : Nat) : Int))]) (rest := []) ⟨hx, hb, hml, hown, hts⟩ (mX0_requireRow l ((r : Nat) : Int) ⟨by omega, by omega⟩ (by omega)) (va_cwS 1 hts gX0_isDerived_X0_requireRow rfl rfl rfl hdX0_requireRow ⟨Nat.le_of_ble_eq_true rfl, Nat.le_of_ble_eq_true rfl⟩) tt_pre rfl rfl hl.1 rfl (lv_room (Nat.le_of_ble_eq_true rfl)) dX0_isDerived_1 ⟨Nat.le_of_ble_eq_true rfl, Nat.le_of_ble_eq_true rfl⟩) ?_
  refine lv_iload_n hx hb dX0_isDerived_4 rfl (lv_at hl 2 rfl) ?_
  refine rd_call (va_runS (As := [.int (iI 12)]) (rest := []) ⟨hx, hb, hml, hown, hts⟩ (mX0_requireSize l 12 ⟨by omega, by omega⟩ (by omega)) (va_cwS 1 hts gX0_isDerived_X0_requireSize rfl rfl rfl hdX0_requireSize ⟨Nat.le_of_ble_eq_true rfl, Nat.le_of_ble_eq_true rfl⟩) tt_pre rfl rfl hl.1 rfl (lv_room (Nat.le_of_ble_eq_true rfl)) dX0_isDerived_5 ⟨Nat.le_of_ble_eq_true rfl, Nat.le_of_ble_eq_true rfl⟩) ?_
  refine lv_aload_n hx hb dX0_isDerived_8 rfl (lv_at hl 0 rfl) ?_
  refine lv_iload_n hx hb dX0_isDerived_9 rfl (lv_at hl 1 rfl) ?_
  refine rd_call (va_runV (As := [.int (iI ((r : Nat) : Int))]) (rest := []) ⟨hx, hb, hml, hown, hts⟩ (mX0_rowAt l dC dI o0 a0 a1 q w hp0 hp1 hw hq hqd r (by omega)) (cwV 1 hts gX0_isDerived_X0_rowAt rfl rfl rfl hvX0_rowAt ⟨Nat.le_of_ble_eq_true rfl, Nat.le_of_ble_eq_true rfl⟩) (bW_pre (ci := 0) (q0 := 0) hK hP rfl rfl rfl) rfl rfl hl.1 rfl (lv_room (Nat.le_of_ble_eq_true rfl)) dX0_isDerived_10 ⟨Nat.le_of_ble_eq_true rfl, Nat.le_of_ble_eq_true rfl⟩) ?_
  refine lv_lstore_n (lv' := [(3, .long (pk (rw_ r a0 a1))), (0, .ref o0), (1, .int (iI ((r : Nat) : Int))), (2, .int (iI 12))]) hx hb dX0_isDerived_13 rfl hl (by decide) rfl (fun ls hl => ?_)
  refine lv_lload_n hx hb dX0_isDerived_14 rfl (lv_at hl 0 rfl) ?_
  refine ib_const hx hb dX0_isDerived_15 ?_
  refine lv_iload_n hx hb dX0_isDerived_16 rfl (lv_at hl 3 rfl) ?_
  refine rd_call (va_runS (As := [.long (pk (rw_ r a0 a1)), .int (iI 0), .int (iI 12)]) (rest := []) ⟨hx, hb, hml, hown, hts⟩ (mX0_setOf l (pk (rw_ r a0 a1)) 0 12 (by omega)) (va_cwS 3 hts gX0_isDerived_X0_setOf rfl rfl rfl hdX0_setOf ⟨Nat.le_of_ble_eq_true rfl, Nat.le_of_ble_eq_true rfl⟩) tt_pre rfl rfl hl.1 rfl (lv_room (Nat.le_of_ble_eq_true rfl)) dX0_isDerived_17 ⟨Nat.le_of_ble_eq_true rfl, Nat.le_of_ble_eq_true rfl⟩) ?_
  have hs_17 := setN_lt (pk (rw_ r a0 a1)) 0 12
  refine st_i (y := iI ((setF (fm (rw_ r a0 a1) (rw_ r a0 a1 0)) 0 12 : Nat) : Int)) (congrArg (fun z : Nat => iI ((z : Nat) : Int)) (sg_pk hR1 (by decide))) ?_
  have hs_a := setF_lt (fm_lt (rw_ r a0 a1) (rw_ r a0 a1 0)) 0 12
  refine rd_call (va_runS (As := [.int (iI ((setF (fm (rw_ r a0 a1) (rw_ r a0 a1 0)) 0 12 : Nat) : Int))]) (rest := []) ⟨hx, hb, hml, hown, hts⟩ (mX0_leastLike l (setF (fm (rw_ r a0 a1) (rw_ r a0 a1 0)) 0 12) (by omega)) (va_cwS 1 hts gX0_isDerived_X0_leastLike rfl rfl rfl hdX0_leastLike ⟨Nat.le_of_ble_eq_true rfl, Nat.le_of_ble_eq_true rfl⟩) tt_pre rfl rfl hl.1 rfl (lv_room (Nat.le_of_ble_eq_true rfl)) dX0_isDerived_20 ⟨Nat.le_of_ble_eq_true rfl, Nat.le_of_ble_eq_true rfl⟩) ?_
  have hl_20 := llN_le (setF (fm (rw_ r a0 a1) (rw_ r a0 a1 0)) 0 12) 12
  refine st_i (y := iI ((lsN (setF (fm (rw_ r a0 a1) (rw_ r a0 a1 0)) 0 12) 12 : Nat) : Int)) (congrArg (fun z : Nat => iI ((z : Nat) : Int)) (ll_ls (setF_lt (fm_lt _ _) _ _))) ?_
  refine lv_istore (lv' := [(5, .int (iI ((lsN (setF (fm (rw_ r a0 a1) (rw_ r a0 a1 0)) 0 12) 12 : Nat) : Int))), (3, .long (pk (rw_ r a0 a1))), (0, .ref o0), (1, .int (iI ((r : Nat) : Int))), (2, .int (iI 12))]) hx hb dX0_isDerived_23 hl (by decide) rfl (fun ls hl => ?_)
  refine ib_const hx hb dX0_isDerived_25 ?_
  refine lv_istore (lv' := [(6, .int (iI 1)), (5, .int (iI ((lsN (setF (fm (rw_ r a0 a1) (rw_ r a0 a1 0)) 0 12) 12 : Nat) : Int))), (3, .long (pk (rw_ r a0 a1))), (0, .ref o0), (1, .int (iI ((r : Nat) : Int))), (2, .int (iI 12))]) hx hb dX0_isDerived_26 hl (by decide) rfl (fun ls hl => ?_)
  have lp_28_1 : ∀ (j n : Nat), n + j = 12 → 1 ≤ n → (∀ i, i < n → i * 12 < 12 → deB (rw_ r a0 a1) 12 i = true) → ∀ ls : Array Slot, lv_has ls 8 [(0, .ref o0), (1, .int (iI ((r : Nat) : Int))), (2, .int (iI 12)), (3, .long (pk (rw_ r a0 a1))), (5, .int (iI ((lsN (setF (fm (rw_ r a0 a1) (rw_ r a0 a1 0)) 0 12) 12 : Nat) : Int))), (6, .int (iI ((n : Nat) : Int)))] → W P0 l e (headSpec wsX0_isDerived { frames := 4, cells := 0, slots := 0, locals := 87 }).room s m ([.ref o0, .int (iI ((r : Nat) : Int)), .int (iI 12)] : List Value).toArray below meth c s.heap [] 0 0 (MQ below (rdQ (some (.int (iI (bI (alN (deB (rw_ r a0 a1) 12) 1 = true)))))) ([.ref o0, .int (iI ((r : Nat) : Int)), .int (iI 12)] : List Value).toArray s 0 0 (fun _ => False)) (F0 m 28 ls []) := by
    intro j
    induction j with
    | zero =>
      intro n hn_28 hn1 hdr ls hl
      have hla := lsN_le (setF (fm (rw_ r a0 a1) (rw_ r a0 a1 0)) 0 12) 12
      have hsa := setF_lt (fm_lt (rw_ r a0 a1) (rw_ r a0 a1 0)) 0 12
      refine lv_iload hx hb dX0_isDerived_28 (lv_at hl 5 rfl) ?_
      refine ib_bi hx hb dX0_isDerived_30 (by decide) ?_
      refine ib_icmp_ge (tgt := 71) hx hb dX0_isDerived_32 (by decide) ⟨by omega, by omega⟩ ⟨by omega, by omega⟩ (fun c_32 => ?_) (fun c_32 => absurd c_32 (by omega))
      refine ib_const hx hb dX0_isDerived_71 ?_
      refine st_i (y := iI (bI (alN (deB (rw_ r a0 a1) 12) 1 = true))) (congrArg iI (bI_t (al_of (fun i hi => hdr i (by omega) (by omega)))).symm) ?_
      exact W.zret hx hb hr (bI_nar _) (fun t ht _ => ⟨rfl, ht⟩) (fun _ h => nomatch h) dX0_isDerived_72
    | succ j ih_28_1 =>
      intro n hn_28 hn1 hdr ls hl
      have hla := lsN_le (setF (fm (rw_ r a0 a1) (rw_ r a0 a1 0)) 0 12) 12
      have hsa := setF_lt (fm_lt (rw_ r a0 a1) (rw_ r a0 a1 0)) 0 12
      refine lv_iload hx hb dX0_isDerived_28 (lv_at hl 5 rfl) ?_
      refine ib_bi hx hb dX0_isDerived_30 (by decide) ?_
      refine ib_icmp_ge (tgt := 71) hx hb dX0_isDerived_32 (by decide) ⟨by omega, by omega⟩ ⟨by omega, by omega⟩ (fun c_32 => absurd c_32 (by omega)) (fun c_32 => ?_)
      refine lv_iload hx hb dX0_isDerived_35 (lv_at hl 5 rfl) ?_
      refine lv_iload_n hx hb dX0_isDerived_37 rfl (lv_at hl 2 rfl) ?_
      refine ib_mul (z := ((n * 12 : Nat) : Int)) hx hb dX0_isDerived_38 (by first | omega | rfl | (push_cast; rfl)) ?_
      refine lv_istore (lv' := [(7, .int (iI ((n * 12 : Nat) : Int))), (0, .ref o0), (1, .int (iI ((r : Nat) : Int))), (2, .int (iI 12)), (3, .long (pk (rw_ r a0 a1))), (5, .int (iI ((lsN (setF (fm (rw_ r a0 a1) (rw_ r a0 a1 0)) 0 12) 12 : Nat) : Int))), (6, .int (iI ((n : Nat) : Int)))]) hx hb dX0_isDerived_39 hl (by decide) rfl (fun ls hl => ?_)
      refine lv_iload hx hb dX0_isDerived_41 (lv_at hl 0 rfl) ?_
      refine ib_bi hx hb dX0_isDerived_43 (by decide) ?_
      refine ib_icmp_ge (tgt := 65) hx hb dX0_isDerived_45 (by decide) ⟨by omega, by omega⟩ ⟨by omega, by omega⟩ (fun c_45 => ?_) (fun c_45 => ?_)
      · skip
        refine lv_iinc (v := iI ((n + 1 : Nat) : Int)) (lv' := [(6, .int (iI ((n + 1 : Nat) : Int))), (7, .int (iI ((n * 12 : Nat) : Int))), (0, .ref o0), (1, .int (iI ((r : Nat) : Int))), (2, .int (iI 12)), (3, .long (pk (rw_ r a0 a1))), (5, .int (iI ((lsN (setF (fm (rw_ r a0 a1) (rw_ r a0 a1 0)) 0 12) 12 : Nat) : Int)))]) hx hb dX0_isDerived_65 hl (k := 6) rfl (iI_inc (by omega)) (by decide) rfl (fun ls hl => ?_)
        refine lv_goto (tgt := 28) hx hb dX0_isDerived_68 (by decide) ?_
        exact ih_28_1 (n + 1) (by omega) (by omega) (fun i hi hz9 => by rcases (show i < n ∨ i = n by omega) with h9 | h9; exact hdr i h9 hz9; omega) _ (lv_sub hl [2, 3, 4, 5, 6, 0] rfl)
      · skip
        refine lv_lload_n hx hb dX0_isDerived_48 rfl (lv_at hl 4 rfl) ?_
        refine lv_iload hx hb dX0_isDerived_49 (lv_at hl 0 rfl) ?_
        refine lv_iload_n hx hb dX0_isDerived_51 rfl (lv_at hl 3 rfl) ?_
        refine rd_call (va_runS (As := [.long (pk (rw_ r a0 a1)), .int (iI ((n * 12 : Nat) : Int)), .int (iI 12)]) (rest := []) ⟨hx, hb, hml, hown, hts⟩ (mX0_setOf l (pk (rw_ r a0 a1)) (n * 12) 12 (by omega)) (va_cwS 3 hts gX0_isDerived_X0_setOf rfl rfl rfl hdX0_setOf ⟨Nat.le_of_ble_eq_true rfl, Nat.le_of_ble_eq_true rfl⟩) tt_pre rfl rfl hl.1 rfl (lv_room (Nat.le_of_ble_eq_true rfl)) dX0_isDerived_52 ⟨Nat.le_of_ble_eq_true rfl, Nat.le_of_ble_eq_true rfl⟩) ?_
        have hs_52 := setN_lt (pk (rw_ r a0 a1)) (n * 12) 12
        refine st_i (y := iI ((setF (fm (rw_ r a0 a1) (rw_ r a0 a1 0)) (n * 12) 12 : Nat) : Int)) (congrArg (fun z : Nat => iI ((z : Nat) : Int)) (sg_pk hR1 (by omega))) ?_
        have hs_b := setF_lt (fm_lt (rw_ r a0 a1) (rw_ r a0 a1 0)) (n * 12) 12
        refine rd_call (va_runS (As := [.int (iI ((setF (fm (rw_ r a0 a1) (rw_ r a0 a1 0)) (n * 12) 12 : Nat) : Int))]) (rest := []) ⟨hx, hb, hml, hown, hts⟩ (mX0_leastLike l (setF (fm (rw_ r a0 a1) (rw_ r a0 a1 0)) (n * 12) 12) (by omega)) (va_cwS 1 hts gX0_isDerived_X0_leastLike rfl rfl rfl hdX0_leastLike ⟨Nat.le_of_ble_eq_true rfl, Nat.le_of_ble_eq_true rfl⟩) tt_pre rfl rfl hl.1 rfl (lv_room (Nat.le_of_ble_eq_true rfl)) dX0_isDerived_55 ⟨Nat.le_of_ble_eq_true rfl, Nat.le_of_ble_eq_true rfl⟩) ?_
        have hl_55 := llN_le (setF (fm (rw_ r a0 a1) (rw_ r a0 a1 0)) (n * 12) 12) 12
        refine st_i (y := iI ((lsN (setF (fm (rw_ r a0 a1) (rw_ r a0 a1 0)) (n * 12) 12) 12 : Nat) : Int)) (congrArg (fun z : Nat => iI ((z : Nat) : Int)) (ll_ls (setF_lt (fm_lt _ _) _ _))) ?_
        refine lv_iload hx hb dX0_isDerived_58 (lv_at hl 5 rfl) ?_
        have hlb := lsN_le (setF (fm (rw_ r a0 a1) (rw_ r a0 a1 0)) (n * 12) 12) 12
        refine ib_icmp_eq (tgt := 65) hx hb dX0_isDerived_60 (by decide) ⟨by omega, by omega⟩ ⟨by omega, by omega⟩ (fun c_60 => ?_) (fun c_60 => ?_)
        · skip
          refine lv_iinc (v := iI ((n + 1 : Nat) : Int)) (lv' := [(6, .int (iI ((n + 1 : Nat) : Int))), (7, .int (iI ((n * 12 : Nat) : Int))), (0, .ref o0), (1, .int (iI ((r : Nat) : Int))), (2, .int (iI 12)), (3, .long (pk (rw_ r a0 a1))), (5, .int (iI ((lsN (setF (fm (rw_ r a0 a1) (rw_ r a0 a1 0)) 0 12) 12 : Nat) : Int)))]) hx hb dX0_isDerived_65 hl (k := 6) rfl (iI_inc (by omega)) (by decide) rfl (fun ls hl => ?_)
          refine lv_goto (tgt := 28) hx hb dX0_isDerived_68 (by decide) ?_
          exact ih_28_1 (n + 1) (by omega) (by omega) (fun i hi hz9 => by rcases (show i < n ∨ i = n by omega) with h9 | h9; exact hdr i h9 hz9; exact de_eq h9 (by omega)) _ (lv_sub hl [2, 3, 4, 5, 6, 0] rfl)
        · skip
          refine ib_const hx hb dX0_isDerived_63 ?_
          refine st_i (y := iI (bI (alN (deB (rw_ r a0 a1) 12) 1 = true))) (congrArg iI (bI_f (de_no (n := n) (show n < 1 by omega) (by omega))).symm) ?_
          exact W.zret hx hb hr (bI_nar _) (fun t ht _ => ⟨rfl, ht⟩) (fun _ h => nomatch h) dX0_isDerived_64
  exact lp_28_1 11 1 (by omega) (Nat.le_refl 1) (fun i hi _ => by rw [show i = 0 by omega]; exact decide_eq_true rfl) _ (lv_sub hl [3, 4, 5, 2, 1, 0] rfl)

set_option maxHeartbeats 4000000 in
set_option maxRecDepth 100000 in
theorem mX0_keptSets_ok (l : Launch) (dC : Nat → ClassId) (dI : Nat → Nat → Nat) (o0 : Nat) (a0 a1 q : Nat → Nat) (w : Nat) (hp0 : Pm a0) (hp1 : Pm a1) (hw : w ≤ 12) (hq : ∀ i, i < w → q i < 12) (hqd : ∀ i j, i < w → j < w → q i = q j → i = j) (r k i len : Nat) (hr9 : r < 2) (hk : k < 4) (hi : i < 12) (hl1 : 1 ≤ len) (hl2 : len ≤ 12) : rd l yX0_keptSets wsX0_keptSets { frames := 4, cells := 0, slots := 0, locals := 99 } [.ref o0, .int (iI ((r : Nat) : Int)), .int (iI ((k : Nat) : Int)), .int (iI ((i : Nat) : Int)), .int (iI ((len : Nat) : Int))] (bW (dC, dI) [(o0, .inr (0, [.long (pk a0), .long (pk a1), .long (pkn q w), .int (iI ((w : Nat) : Int))]))] []) (some (.int (iI ((skN (rw_ r a0 a1) (12 * k + i) len (13 - len) : Nat) : Int)))) := by
  refine Met.ofW (cc := cX0_keptSets) (maxL := 7) (ret := (some .int)) (by decide) rfl ?_
  intro P0 e s m args below meth c s₁ B hml hv
  obtain ⟨rfl, hP, hK⟩ := hv
  have hx := B.exec
  have hb := B.bytes
  have hr := B.returns
  have hts := atoms_spec (ws := wsX0_keptSets) B.pre
  have hown : s.vm.findClass RX0 = some m.cls := findClass_of_methodNamed B.named
  have hlocks := B.notSynchronized
  have hl := lv_entry ([.ref o0, .int (iI ((r : Nat) : Int)), .int (iI ((k : Nat) : Int)), .int (iI ((i : Nat) : Int)), .int (iI ((len : Nat) : Int))]) (n := 7) (Nat.le_of_ble_eq_true rfl)
  rw [lg_entry_eq]
  generalize (lg_sl ([.ref o0, .int (iI ((r : Nat) : Int)), .int (iI ((k : Nat) : Int)), .int (iI ((i : Nat) : Int)), .int (iI ((len : Nat) : Int))]) ++ List.replicate (7 - (lg_sl ([.ref o0, .int (iI ((r : Nat) : Int)), .int (iI ((k : Nat) : Int)), .int (iI ((i : Nat) : Int)), .int (iI ((len : Nat) : Int))])).length) Slot.unset).toArray = ls at hl ⊢
  have hl : lv_has ls 7 [(0, .ref o0), (1, .int (iI ((r : Nat) : Int))), (2, .int (iI ((k : Nat) : Int))), (3, .int (iI ((i : Nat) : Int))), (4, .int (iI ((len : Nat) : Int)))] := hl
  have hR := rw_Pm hp0 hp1 r
  have hR1 := hR.1
  have hall := hasAll_fm hR (show 12 * k + i < 48 by omega)
  refine lv_iload_n hx hb dX0_keptSets_0 rfl (lv_at hl 1 rfl) ?_
  refine rd_call (va_runS (As := [.int (iI ((r : Nat) : Int))]) (rest := []) ⟨hx, hb, hml, hown, hts⟩ (mX0_requireRow l ((r : Nat) : Int) ⟨by omega, by omega⟩ (by omega)) (va_cwS 1 hts gX0_keptSets_X0_requireRow rfl rfl rfl hdX0_requireRow ⟨Nat.le_of_ble_eq_true rfl, Nat.le_of_ble_eq_true rfl⟩) tt_pre rfl rfl hl.1 rfl (lv_room (Nat.le_of_ble_eq_true rfl)) dX0_keptSets_1 ⟨Nat.le_of_ble_eq_true rfl, Nat.le_of_ble_eq_true rfl⟩) ?_
  refine lv_iload_n hx hb dX0_keptSets_4 rfl (lv_at hl 2 rfl) ?_
  refine lv_iload_n hx hb dX0_keptSets_5 rfl (lv_at hl 3 rfl) ?_
  refine rd_call (va_runS (As := [.int (iI ((k : Nat) : Int)), .int (iI ((i : Nat) : Int))]) (rest := []) ⟨hx, hb, hml, hown, hts⟩ (mX0_requireForm l ((k : Nat) : Int) ((i : Nat) : Int) ⟨by omega, by omega⟩ ⟨by omega, by omega⟩ (by omega)) (va_cwS 2 hts gX0_keptSets_X0_requireForm rfl rfl rfl hdX0_requireForm ⟨Nat.le_of_ble_eq_true rfl, Nat.le_of_ble_eq_true rfl⟩) tt_pre rfl rfl hl.1 rfl (lv_room (Nat.le_of_ble_eq_true rfl)) dX0_keptSets_6 ⟨Nat.le_of_ble_eq_true rfl, Nat.le_of_ble_eq_true rfl⟩) ?_
  refine lv_iload hx hb dX0_keptSets_9 (lv_at hl 4 rfl) ?_
  refine ib_const hx hb dX0_keptSets_11 ?_
  refine ib_bi hx hb dX0_keptSets_12 (by decide) ?_
  refine rd_call (va_runS (As := [.int (iI ((len : Nat) : Int)), .int (iI 1), .int (iI 12)]) (rest := []) ⟨hx, hb, hml, hown, hts⟩ (mX0_requireRange l ((len : Nat) : Int) 1 12 ⟨by omega, by omega⟩ ⟨by omega, by omega⟩ ⟨by omega, by omega⟩ (by omega)) (va_cwS 3 hts gX0_keptSets_X0_requireRange rfl rfl rfl hdX0_requireRange ⟨Nat.le_of_ble_eq_true rfl, Nat.le_of_ble_eq_true rfl⟩) tt_pre rfl rfl hl.1 rfl (lv_room (Nat.le_of_ble_eq_true rfl)) dX0_keptSets_14 ⟨Nat.le_of_ble_eq_true rfl, Nat.le_of_ble_eq_true rfl⟩) ?_
  refine lv_aload_n hx hb dX0_keptSets_17 rfl (lv_at hl 0 rfl) ?_
  refine lv_iload_n hx hb dX0_keptSets_18 rfl (lv_at hl 1 rfl) ?_
  refine rd_call (va_runV (As := [.int (iI ((r : Nat) : Int))]) (rest := []) ⟨hx, hb, hml, hown, hts⟩ (mX0_rowAt l dC dI o0 a0 a1 q w hp0 hp1 hw hq hqd r (by omega)) (cwV 1 hts gX0_keptSets_X0_rowAt rfl rfl rfl hvX0_rowAt ⟨Nat.le_of_ble_eq_true rfl, Nat.le_of_ble_eq_true rfl⟩) (bW_pre (ci := 0) (q0 := 0) hK hP rfl rfl rfl) rfl rfl hl.1 rfl (lv_room (Nat.le_of_ble_eq_true rfl)) dX0_keptSets_19 ⟨Nat.le_of_ble_eq_true rfl, Nat.le_of_ble_eq_true rfl⟩) ?_
  refine lv_lstore (lv' := [(5, .long (pk (rw_ r a0 a1))), (0, .ref o0), (1, .int (iI ((r : Nat) : Int))), (2, .int (iI ((k : Nat) : Int))), (3, .int (iI ((i : Nat) : Int))), (4, .int (iI ((len : Nat) : Int)))]) hx hb dX0_keptSets_22 hl (by decide) rfl (fun ls hl => ?_)
  refine lv_lload hx hb dX0_keptSets_24 (lv_at hl 0 rfl) ?_
  refine lv_lload hx hb dX0_keptSets_26 (lv_at hl 0 rfl) ?_
  refine lv_iload_n hx hb dX0_keptSets_28 rfl (lv_at hl 3 rfl) ?_
  refine lv_iload_n hx hb dX0_keptSets_29 rfl (lv_at hl 4 rfl) ?_
  refine rd_call (va_runS (As := [.int (iI ((k : Nat) : Int)), .int (iI ((i : Nat) : Int))]) (rest := [.long (pk (rw_ r a0 a1)), .long (pk (rw_ r a0 a1))]) ⟨hx, hb, hml, hown, hts⟩ (mX0_codeOf l k i) (va_cwS 2 hts gX0_keptSets_X0_codeOf rfl rfl rfl hdX0_codeOf ⟨Nat.le_of_ble_eq_true rfl, Nat.le_of_ble_eq_true rfl⟩) tt_pre rfl rfl hl.1 rfl (lv_room (Nat.le_of_ble_eq_true rfl)) dX0_keptSets_30 ⟨Nat.le_of_ble_eq_true rfl, Nat.le_of_ble_eq_true rfl⟩) ?_
  refine rd_call (va_runS (As := [.long (pk (rw_ r a0 a1)), .int (iI ((12 * k + i : Nat) : Int))]) (rest := [.long (pk (rw_ r a0 a1))]) ⟨hx, hb, hml, hown, hts⟩ (mX0_formWith l (pk (rw_ r a0 a1)) (12 * k + i) (by omega)) (va_cwS 2 hts gX0_keptSets_X0_formWith rfl rfl rfl hdX0_formWith ⟨Nat.le_of_ble_eq_true rfl, Nat.le_of_ble_eq_true rfl⟩) tt_pre rfl rfl hl.1 rfl (lv_room (Nat.le_of_ble_eq_true rfl)) dX0_keptSets_33 ⟨Nat.le_of_ble_eq_true rfl, Nat.le_of_ble_eq_true rfl⟩) ?_
  refine st_l (y := pk (fm (rw_ r a0 a1) (12 * k + i))) (fw_pk hR1 (by omega)) ?_
  refine lv_iload hx hb dX0_keptSets_36 (lv_at hl 5 rfl) ?_
  refine rd_call (va_runS (As := [.long (pk (rw_ r a0 a1)), .long (pk (fm (rw_ r a0 a1) (12 * k + i))), .int (iI ((len : Nat) : Int))]) (rest := []) ⟨hx, hb, hml, hown, hts⟩ (mX0_countKept l (pk (rw_ r a0 a1)) (pk (fm (rw_ r a0 a1) (12 * k + i))) len hall (by omega) (by omega)) (va_cwS 3 hts gX0_keptSets_X0_countKept rfl rfl rfl hdX0_countKept ⟨Nat.le_of_ble_eq_true rfl, Nat.le_of_ble_eq_true rfl⟩) tt_pre rfl rfl hl.1 rfl (lv_room (Nat.le_of_ble_eq_true rfl)) dX0_keptSets_38 ⟨Nat.le_of_ble_eq_true rfl, Nat.le_of_ble_eq_true rfl⟩) ?_
  have hc_38 := ckN_le (plcN (pk (rw_ r a0 a1)) (pk (fm (rw_ r a0 a1) (12 * k + i))) 12) len (13 - len)
  refine st_i (y := iI ((skN (rw_ r a0 a1) (12 * k + i) len (13 - len) : Nat) : Int)) (congrArg (fun z : Nat => iI ((z : Nat) : Int)) (ck_sk hR (by omega) hl1 hl2)) ?_
  exact W.iret hx hb hr (fun t ht _ => ⟨rfl, ht⟩) (fun _ h => nomatch h) dX0_keptSets_41

set_option maxHeartbeats 4000000 in
set_option maxRecDepth 100000 in
theorem mX0_longestKept_ok (l : Launch) (dC : Nat → ClassId) (dI : Nat → Nat → Nat) (o0 : Nat) (a0 a1 q : Nat → Nat) (w : Nat) (hp0 : Pm a0) (hp1 : Pm a1) (hw : w ≤ 12) (hq : ∀ i, i < w → q i < 12) (hqd : ∀ i j, i < w → j < w → q i = q j → i = j) (r k i : Nat) (hr9 : r < 2) (hk : k < 4) (hi : i < 12) : rd l yX0_longestKept wsX0_longestKept { frames := 3, cells := 0, slots := 0, locals := 74 } [.ref o0, .int (iI ((r : Nat) : Int)), .int (iI ((k : Nat) : Int)), .int (iI ((i : Nat) : Int))] (bW (dC, dI) [(o0, .inr (0, [.long (pk a0), .long (pk a1), .long (pkn q w), .int (iI ((w : Nat) : Int))]))] []) (some (.int (iI ((lkO (rw_ r a0 a1) (fm (rw_ r a0 a1) (12 * k + i)) 12 : Nat) : Int)))) := by
  refine Met.ofW (cc := cX0_longestKept) (maxL := 12) (ret := (some .int)) (by decide) rfl ?_
  intro P0 e s m args below meth c s₁ B hml hv
  obtain ⟨rfl, hP, hK⟩ := hv
  have hx := B.exec
  have hb := B.bytes
  have hr := B.returns
  have hts := atoms_spec (ws := wsX0_longestKept) B.pre
  have hown : s.vm.findClass RX0 = some m.cls := findClass_of_methodNamed B.named
  have hlocks := B.notSynchronized
  have hl := lv_entry ([.ref o0, .int (iI ((r : Nat) : Int)), .int (iI ((k : Nat) : Int)), .int (iI ((i : Nat) : Int))]) (n := 12) (Nat.le_of_ble_eq_true rfl)
  rw [lg_entry_eq]
  generalize (lg_sl ([.ref o0, .int (iI ((r : Nat) : Int)), .int (iI ((k : Nat) : Int)), .int (iI ((i : Nat) : Int))]) ++ List.replicate (12 - (lg_sl ([.ref o0, .int (iI ((r : Nat) : Int)), .int (iI ((k : Nat) : Int)), .int (iI ((i : Nat) : Int))])).length) Slot.unset).toArray = ls at hl ⊢
  have hl : lv_has ls 12 [(0, .ref o0), (1, .int (iI ((r : Nat) : Int))), (2, .int (iI ((k : Nat) : Int))), (3, .int (iI ((i : Nat) : Int)))] := hl
  have hR := rw_Pm hp0 hp1 r
  have hR1 := hR.1
  have hall := hasAll_fm hR (show 12 * k + i < 48 by omega)
  refine lv_iload_n hx hb dX0_longestKept_0 rfl (lv_at hl 1 rfl) ?_
  refine rd_call (va_runS (As := [.int (iI ((r : Nat) : Int))]) (rest := []) ⟨hx, hb, hml, hown, hts⟩ (mX0_requireRow l ((r : Nat) : Int) ⟨by omega, by omega⟩ (by omega)) (va_cwS 1 hts gX0_longestKept_X0_requireRow rfl rfl rfl hdX0_requireRow ⟨Nat.le_of_ble_eq_true rfl, Nat.le_of_ble_eq_true rfl⟩) tt_pre rfl rfl hl.1 rfl (lv_room (Nat.le_of_ble_eq_true rfl)) dX0_longestKept_1 ⟨Nat.le_of_ble_eq_true rfl, Nat.le_of_ble_eq_true rfl⟩) ?_
  refine lv_iload_n hx hb dX0_longestKept_4 rfl (lv_at hl 2 rfl) ?_
  refine lv_iload_n hx hb dX0_longestKept_5 rfl (lv_at hl 3 rfl) ?_
  refine rd_call (va_runS (As := [.int (iI ((k : Nat) : Int)), .int (iI ((i : Nat) : Int))]) (rest := []) ⟨hx, hb, hml, hown, hts⟩ (mX0_requireForm l ((k : Nat) : Int) ((i : Nat) : Int) ⟨by omega, by omega⟩ ⟨by omega, by omega⟩ (by omega)) (va_cwS 2 hts gX0_longestKept_X0_requireForm rfl rfl rfl hdX0_requireForm ⟨Nat.le_of_ble_eq_true rfl, Nat.le_of_ble_eq_true rfl⟩) tt_pre rfl rfl hl.1 rfl (lv_room (Nat.le_of_ble_eq_true rfl)) dX0_longestKept_6 ⟨Nat.le_of_ble_eq_true rfl, Nat.le_of_ble_eq_true rfl⟩) ?_
  refine lv_aload_n hx hb dX0_longestKept_9 rfl (lv_at hl 0 rfl) ?_
  refine lv_iload_n hx hb dX0_longestKept_10 rfl (lv_at hl 1 rfl) ?_
  refine rd_call (va_runV (As := [.int (iI ((r : Nat) : Int))]) (rest := []) ⟨hx, hb, hml, hown, hts⟩ (mX0_rowAt l dC dI o0 a0 a1 q w hp0 hp1 hw hq hqd r (by omega)) (cwV 1 hts gX0_longestKept_X0_rowAt rfl rfl rfl hvX0_rowAt ⟨Nat.le_of_ble_eq_true rfl, Nat.le_of_ble_eq_true rfl⟩) (bW_pre (ci := 0) (q0 := 0) hK hP rfl rfl rfl) rfl rfl hl.1 rfl (lv_room (Nat.le_of_ble_eq_true rfl)) dX0_longestKept_11 ⟨Nat.le_of_ble_eq_true rfl, Nat.le_of_ble_eq_true rfl⟩) ?_
  refine lv_lstore (lv' := [(4, .long (pk (rw_ r a0 a1))), (0, .ref o0), (1, .int (iI ((r : Nat) : Int))), (2, .int (iI ((k : Nat) : Int))), (3, .int (iI ((i : Nat) : Int)))]) hx hb dX0_longestKept_14 hl (by decide) rfl (fun ls hl => ?_)
  refine lv_lload hx hb dX0_longestKept_16 (lv_at hl 0 rfl) ?_
  refine lv_lload hx hb dX0_longestKept_18 (lv_at hl 0 rfl) ?_
  refine lv_iload_n hx hb dX0_longestKept_20 rfl (lv_at hl 3 rfl) ?_
  refine lv_iload_n hx hb dX0_longestKept_21 rfl (lv_at hl 4 rfl) ?_
  refine rd_call (va_runS (As := [.int (iI ((k : Nat) : Int)), .int (iI ((i : Nat) : Int))]) (rest := [.long (pk (rw_ r a0 a1)), .long (pk (rw_ r a0 a1))]) ⟨hx, hb, hml, hown, hts⟩ (mX0_codeOf l k i) (va_cwS 2 hts gX0_longestKept_X0_codeOf rfl rfl rfl hdX0_codeOf ⟨Nat.le_of_ble_eq_true rfl, Nat.le_of_ble_eq_true rfl⟩) tt_pre rfl rfl hl.1 rfl (lv_room (Nat.le_of_ble_eq_true rfl)) dX0_longestKept_22 ⟨Nat.le_of_ble_eq_true rfl, Nat.le_of_ble_eq_true rfl⟩) ?_
  refine rd_call (va_runS (As := [.long (pk (rw_ r a0 a1)), .int (iI ((12 * k + i : Nat) : Int))]) (rest := [.long (pk (rw_ r a0 a1))]) ⟨hx, hb, hml, hown, hts⟩ (mX0_formWith l (pk (rw_ r a0 a1)) (12 * k + i) (by omega)) (va_cwS 2 hts gX0_longestKept_X0_formWith rfl rfl rfl hdX0_formWith ⟨Nat.le_of_ble_eq_true rfl, Nat.le_of_ble_eq_true rfl⟩) tt_pre rfl rfl hl.1 rfl (lv_room (Nat.le_of_ble_eq_true rfl)) dX0_longestKept_25 ⟨Nat.le_of_ble_eq_true rfl, Nat.le_of_ble_eq_true rfl⟩) ?_
  refine st_l (y := pk (fm (rw_ r a0 a1) (12 * k + i))) (fw_pk hR1 (by omega)) ?_
  refine rd_call (va_runS (As := [.long (pk (rw_ r a0 a1)), .long (pk (fm (rw_ r a0 a1) (12 * k + i)))]) (rest := []) ⟨hx, hb, hml, hown, hts⟩ (mX0_placesOf l (pk (rw_ r a0 a1)) (pk (fm (rw_ r a0 a1) (12 * k + i))) hall) (va_cwS 2 hts gX0_longestKept_X0_placesOf rfl rfl rfl hdX0_placesOf ⟨Nat.le_of_ble_eq_true rfl, Nat.le_of_ble_eq_true rfl⟩) tt_pre rfl rfl hl.1 rfl (lv_room (Nat.le_of_ble_eq_true rfl)) dX0_longestKept_28 ⟨Nat.le_of_ble_eq_true rfl, Nat.le_of_ble_eq_true rfl⟩) ?_
  refine lv_lstore (lv' := [(6, .long (plcN (pk (rw_ r a0 a1)) (pk (fm (rw_ r a0 a1) (12 * k + i))) 12)), (4, .long (pk (rw_ r a0 a1))), (0, .ref o0), (1, .int (iI ((r : Nat) : Int))), (2, .int (iI ((k : Nat) : Int))), (3, .int (iI ((i : Nat) : Int)))]) hx hb dX0_longestKept_31 hl (by decide) rfl (fun ls hl => ?_)
  refine ib_const hx hb dX0_longestKept_33 ?_
  refine lv_istore (lv' := [(8, .int (iI 1)), (6, .long (plcN (pk (rw_ r a0 a1)) (pk (fm (rw_ r a0 a1) (12 * k + i))) 12)), (4, .long (pk (rw_ r a0 a1))), (0, .ref o0), (1, .int (iI ((r : Nat) : Int))), (2, .int (iI ((k : Nat) : Int))), (3, .int (iI ((i : Nat) : Int)))]) hx hb dX0_longestKept_34 hl (by decide) rfl (fun ls hl => ?_)
  refine ib_const hx hb dX0_longestKept_36 ?_
  refine lv_istore (lv' := [(9, .int (iI 1)), (8, .int (iI 1)), (6, .long (plcN (pk (rw_ r a0 a1)) (pk (fm (rw_ r a0 a1) (12 * k + i))) 12)), (4, .long (pk (rw_ r a0 a1))), (0, .ref o0), (1, .int (iI ((r : Nat) : Int))), (2, .int (iI ((k : Nat) : Int))), (3, .int (iI ((i : Nat) : Int)))]) hx hb dX0_longestKept_37 hl (by decide) rfl (fun ls hl => ?_)
  refine ib_const hx hb dX0_longestKept_39 ?_
  refine lv_istore (lv' := [(10, .int (iI 1)), (9, .int (iI 1)), (8, .int (iI 1)), (6, .long (plcN (pk (rw_ r a0 a1)) (pk (fm (rw_ r a0 a1) (12 * k + i))) 12)), (4, .long (pk (rw_ r a0 a1))), (0, .ref o0), (1, .int (iI ((r : Nat) : Int))), (2, .int (iI ((k : Nat) : Int))), (3, .int (iI ((i : Nat) : Int)))]) hx hb dX0_longestKept_40 hl (by decide) rfl (fun ls hl => ?_)
  have lp_42_1 : ∀ (j n : Nat), n + j = 12 → 1 ≤ n → ∀ ls : Array Slot, lv_has ls 12 [(0, .ref o0), (1, .int (iI ((r : Nat) : Int))), (2, .int (iI ((k : Nat) : Int))), (3, .int (iI ((i : Nat) : Int))), (6, .long (plcN (pk (rw_ r a0 a1)) (pk (fm (rw_ r a0 a1) (12 * k + i))) 12)), (8, .int (iI ((lgM (plcN (pk (rw_ r a0 a1)) (pk (fm (rw_ r a0 a1) (12 * k + i))) 12) n : Nat) : Int))), (9, .int (iI ((lgL (plcN (pk (rw_ r a0 a1)) (pk (fm (rw_ r a0 a1) (12 * k + i))) 12) n : Nat) : Int))), (10, .int (iI ((n : Nat) : Int)))] → W P0 l e (headSpec wsX0_longestKept { frames := 3, cells := 0, slots := 0, locals := 74 }).room s m ([.ref o0, .int (iI ((r : Nat) : Int)), .int (iI ((k : Nat) : Int)), .int (iI ((i : Nat) : Int))] : List Value).toArray below meth c s.heap [] 0 0 (MQ below (rdQ (some (.int (iI ((lkO (rw_ r a0 a1) (fm (rw_ r a0 a1) (12 * k + i)) 12 : Nat) : Int))))) ([.ref o0, .int (iI ((r : Nat) : Int)), .int (iI ((k : Nat) : Int)), .int (iI ((i : Nat) : Int))] : List Value).toArray s 0 0 (fun _ => False)) (F0 m 42 ls []) := by
    intro j
    induction j with
    | zero =>
      intro n hn_42 hn1 ls hl
      have hlm := lgM_le (plcN (pk (rw_ r a0 a1)) (pk (fm (rw_ r a0 a1) (12 * k + i))) 12) n
      have hll := lgL_le (plcN (pk (rw_ r a0 a1)) (pk (fm (rw_ r a0 a1) (12 * k + i))) 12) n
      refine lv_iload hx hb dX0_longestKept_42 (lv_at hl 7 rfl) ?_
      refine ib_bi hx hb dX0_longestKept_44 (by decide) ?_
      refine ib_icmp_ge (tgt := 107) hx hb dX0_longestKept_46 (by decide) ⟨by omega, by omega⟩ ⟨by omega, by omega⟩ (fun c_46 => ?_) (fun c_46 => absurd c_46 (by omega))
      refine lv_iload hx hb dX0_longestKept_107 (lv_at hl 5 rfl) ?_
      refine st_i (y := iI ((lkO (rw_ r a0 a1) (fm (rw_ r a0 a1) (12 * k + i)) 12 : Nat) : Int)) (congrArg (fun z : Nat => iI ((z : Nat) : Int)) (lg_lk hR (show 12 * k + i < 48 by omega) (show n = 12 by omega))) ?_
      exact W.iret hx hb hr (fun t ht _ => ⟨rfl, ht⟩) (fun _ h => nomatch h) dX0_longestKept_109
    | succ j ih_42_1 =>
      intro n hn_42 hn1 ls hl
      have hlm := lgM_le (plcN (pk (rw_ r a0 a1)) (pk (fm (rw_ r a0 a1) (12 * k + i))) 12) n
      have hll := lgL_le (plcN (pk (rw_ r a0 a1)) (pk (fm (rw_ r a0 a1) (12 * k + i))) 12) n
      refine lv_iload hx hb dX0_longestKept_42 (lv_at hl 7 rfl) ?_
      refine ib_bi hx hb dX0_longestKept_44 (by decide) ?_
      refine ib_icmp_ge (tgt := 107) hx hb dX0_longestKept_46 (by decide) ⟨by omega, by omega⟩ ⟨by omega, by omega⟩ (fun c_46 => absurd c_46 (by omega)) (fun c_46 => ?_)
      refine lv_lload hx hb dX0_longestKept_49 (lv_at hl 4 rfl) ?_
      refine lv_iload hx hb dX0_longestKept_51 (lv_at hl 7 rfl) ?_
      refine rd_call (va_runS (As := [.long (plcN (pk (rw_ r a0 a1)) (pk (fm (rw_ r a0 a1) (12 * k + i))) 12), .int (iI ((n : Nat) : Int))]) (rest := []) ⟨hx, hb, hml, hown, hts⟩ (mX0_entryAt l (plcN (pk (rw_ r a0 a1)) (pk (fm (rw_ r a0 a1) (12 * k + i))) 12) n (by omega)) (va_cwS 2 hts gX0_longestKept_X0_entryAt rfl rfl rfl hdX0_entryAt ⟨Nat.le_of_ble_eq_true rfl, Nat.le_of_ble_eq_true rfl⟩) tt_pre rfl rfl hl.1 rfl (lv_room (Nat.le_of_ble_eq_true rfl)) dX0_longestKept_53 ⟨Nat.le_of_ble_eq_true rfl, Nat.le_of_ble_eq_true rfl⟩) ?_
      have he_53 := ent_lt (plcN (pk (rw_ r a0 a1)) (pk (fm (rw_ r a0 a1) (12 * k + i))) 12) n
      refine lv_lload hx hb dX0_longestKept_56 (lv_at hl 4 rfl) ?_
      refine lv_iload hx hb dX0_longestKept_58 (lv_at hl 7 rfl) ?_
      refine ib_const hx hb dX0_longestKept_60 ?_
      refine ib_sub (z := ((n - 1 : Nat) : Int)) hx hb dX0_longestKept_61 (by omega) ?_
      refine rd_call (va_runS (As := [.long (plcN (pk (rw_ r a0 a1)) (pk (fm (rw_ r a0 a1) (12 * k + i))) 12), .int (iI ((n - 1 : Nat) : Int))]) (rest := [.int (iI ((ent (plcN (pk (rw_ r a0 a1)) (pk (fm (rw_ r a0 a1) (12 * k + i))) 12) n : Nat) : Int))]) ⟨hx, hb, hml, hown, hts⟩ (mX0_entryAt l (plcN (pk (rw_ r a0 a1)) (pk (fm (rw_ r a0 a1) (12 * k + i))) 12) (n - 1) (by omega)) (va_cwS 2 hts gX0_longestKept_X0_entryAt rfl rfl rfl hdX0_entryAt ⟨Nat.le_of_ble_eq_true rfl, Nat.le_of_ble_eq_true rfl⟩) tt_pre rfl rfl hl.1 rfl (lv_room (Nat.le_of_ble_eq_true rfl)) dX0_longestKept_62 ⟨Nat.le_of_ble_eq_true rfl, Nat.le_of_ble_eq_true rfl⟩) ?_
      have he_62 := ent_lt (plcN (pk (rw_ r a0 a1)) (pk (fm (rw_ r a0 a1) (12 * k + i))) 12) (n - 1)
      refine ib_const hx hb dX0_longestKept_65 ?_
      refine ib_add (z := (((ent (plcN (pk (rw_ r a0 a1)) (pk (fm (rw_ r a0 a1) (12 * k + i))) 12) (n - 1)) + 1 : Nat) : Int)) hx hb dX0_longestKept_66 (by omega) ?_
      have hea := ent_lt (plcN (pk (rw_ r a0 a1)) (pk (fm (rw_ r a0 a1) (12 * k + i))) 12) n
      have heb := ent_lt (plcN (pk (rw_ r a0 a1)) (pk (fm (rw_ r a0 a1) (12 * k + i))) 12) (n - 1)
      refine ib_icmp_ne (tgt := 74) hx hb dX0_longestKept_67 (by decide) ⟨by omega, by omega⟩ ⟨by omega, by omega⟩ (fun c_67 => ?_) (fun c_67 => ?_)
      · skip
        refine ib_const hx hb dX0_longestKept_74 ?_
        refine lv_istore (lv' := [(11, .int (iI 0)), (0, .ref o0), (1, .int (iI ((r : Nat) : Int))), (2, .int (iI ((k : Nat) : Int))), (3, .int (iI ((i : Nat) : Int))), (6, .long (plcN (pk (rw_ r a0 a1)) (pk (fm (rw_ r a0 a1) (12 * k + i))) 12)), (8, .int (iI ((lgM (plcN (pk (rw_ r a0 a1)) (pk (fm (rw_ r a0 a1) (12 * k + i))) 12) n : Nat) : Int))), (9, .int (iI ((lgL (plcN (pk (rw_ r a0 a1)) (pk (fm (rw_ r a0 a1) (12 * k + i))) 12) n : Nat) : Int))), (10, .int (iI ((n : Nat) : Int)))]) hx hb dX0_longestKept_75 hl (by decide) rfl (fun ls hl => ?_)
        refine lv_iload hx hb dX0_longestKept_77 (lv_at hl 0 rfl) ?_
        refine ib_if_eq (tgt := 89) hx hb dX0_longestKept_79 (by decide) ⟨by omega, by omega⟩ (fun c_79 => ?_) (fun c_79 => absurd c_79 (by decide))
        refine ib_const hx hb dX0_longestKept_89 ?_
        refine st_i (y := iI ((lgL (plcN (pk (rw_ r a0 a1)) (pk (fm (rw_ r a0 a1) (12 * k + i))) 12) (n + 1) : Nat) : Int)) (congrArg (fun z : Nat => iI ((z : Nat) : Int)) (lgL_f hn1 (by omega))) ?_
        have hl9 := lgL_le (plcN (pk (rw_ r a0 a1)) (pk (fm (rw_ r a0 a1) (12 * k + i))) 12) (n + 1)
        refine lv_istore (lv' := [(9, .int (iI ((lgL (plcN (pk (rw_ r a0 a1)) (pk (fm (rw_ r a0 a1) (12 * k + i))) 12) (n + 1) : Nat) : Int))), (11, .int (iI 0)), (0, .ref o0), (1, .int (iI ((r : Nat) : Int))), (2, .int (iI ((k : Nat) : Int))), (3, .int (iI ((i : Nat) : Int))), (6, .long (plcN (pk (rw_ r a0 a1)) (pk (fm (rw_ r a0 a1) (12 * k + i))) 12)), (8, .int (iI ((lgM (plcN (pk (rw_ r a0 a1)) (pk (fm (rw_ r a0 a1) (12 * k + i))) 12) n : Nat) : Int))), (10, .int (iI ((n : Nat) : Int)))]) hx hb dX0_longestKept_90 hl (by decide) rfl (fun ls hl => ?_)
        refine lv_iload hx hb dX0_longestKept_92 (lv_at hl 7 rfl) ?_
        refine lv_iload hx hb dX0_longestKept_94 (lv_at hl 0 rfl) ?_
        refine va_mmax hx hb (hml.trans hl.1.symm) hown (hts (.methodLink RX0 98 Lib.Math.max.name) (by decide +kernel)) (hts (.static Lib.Math.max.name) (by decide +kernel)) (hts (.initialized "java/lang/Math") (by decide +kernel)) (hts (.code Lib.Math.max.name Lib.Math.max.code 2 (some .int)) (by decide +kernel)) (Nat.le_of_ble_eq_true rfl) (Nat.le_of_ble_eq_true rfl) (Nat.le_of_ble_eq_true rfl) (Nat.le_of_ble_eq_true rfl) dX0_longestKept_96 ?_
        refine st_i (y := iI ((max (lgM (plcN (pk (rw_ r a0 a1)) (pk (fm (rw_ r a0 a1) (12 * k + i))) 12) n) (lgL (plcN (pk (rw_ r a0 a1)) (pk (fm (rw_ r a0 a1) (12 * k + i))) 12) (n + 1)) : Nat) : Int)) ((iI_max ⟨by omega, by omega⟩ ⟨by omega, by omega⟩).trans (congrArg iI (by omega))) ?_
        refine st_i (y := iI ((lgM (plcN (pk (rw_ r a0 a1)) (pk (fm (rw_ r a0 a1) (12 * k + i))) 12) (n + 1) : Nat) : Int)) (congrArg (fun z : Nat => iI ((z : Nat) : Int)) (lgM_s hn1)) ?_
        refine lv_istore (lv' := [(8, .int (iI ((lgM (plcN (pk (rw_ r a0 a1)) (pk (fm (rw_ r a0 a1) (12 * k + i))) 12) (n + 1) : Nat) : Int))), (9, .int (iI ((lgL (plcN (pk (rw_ r a0 a1)) (pk (fm (rw_ r a0 a1) (12 * k + i))) 12) (n + 1) : Nat) : Int))), (11, .int (iI 0)), (0, .ref o0), (1, .int (iI ((r : Nat) : Int))), (2, .int (iI ((k : Nat) : Int))), (3, .int (iI ((i : Nat) : Int))), (6, .long (plcN (pk (rw_ r a0 a1)) (pk (fm (rw_ r a0 a1) (12 * k + i))) 12)), (10, .int (iI ((n : Nat) : Int)))]) hx hb dX0_longestKept_99 hl (by decide) rfl (fun ls hl => ?_)
        refine lv_iinc (v := iI ((n + 1 : Nat) : Int)) (lv' := [(10, .int (iI ((n + 1 : Nat) : Int))), (8, .int (iI ((lgM (plcN (pk (rw_ r a0 a1)) (pk (fm (rw_ r a0 a1) (12 * k + i))) 12) (n + 1) : Nat) : Int))), (9, .int (iI ((lgL (plcN (pk (rw_ r a0 a1)) (pk (fm (rw_ r a0 a1) (12 * k + i))) 12) (n + 1) : Nat) : Int))), (11, .int (iI 0)), (0, .ref o0), (1, .int (iI ((r : Nat) : Int))), (2, .int (iI ((k : Nat) : Int))), (3, .int (iI ((i : Nat) : Int))), (6, .long (plcN (pk (rw_ r a0 a1)) (pk (fm (rw_ r a0 a1) (12 * k + i))) 12))]) hx hb dX0_longestKept_101 hl (k := 8) rfl (iI_inc (by omega)) (by decide) rfl (fun ls hl => ?_)
        refine lv_goto (tgt := 42) hx hb dX0_longestKept_104 (by decide) ?_
        exact ih_42_1 (n + 1) (by omega) (by omega) _ (lv_sub hl [4, 5, 6, 7, 8, 1, 2, 0] rfl)
      · skip
        refine ib_const hx hb dX0_longestKept_70 ?_
        refine lv_goto (tgt := 75) hx hb dX0_longestKept_71 (by decide) ?_
        refine lv_istore (lv' := [(11, .int (iI 1)), (0, .ref o0), (1, .int (iI ((r : Nat) : Int))), (2, .int (iI ((k : Nat) : Int))), (3, .int (iI ((i : Nat) : Int))), (6, .long (plcN (pk (rw_ r a0 a1)) (pk (fm (rw_ r a0 a1) (12 * k + i))) 12)), (8, .int (iI ((lgM (plcN (pk (rw_ r a0 a1)) (pk (fm (rw_ r a0 a1) (12 * k + i))) 12) n : Nat) : Int))), (9, .int (iI ((lgL (plcN (pk (rw_ r a0 a1)) (pk (fm (rw_ r a0 a1) (12 * k + i))) 12) n : Nat) : Int))), (10, .int (iI ((n : Nat) : Int)))]) hx hb dX0_longestKept_75 hl (by decide) rfl (fun ls hl => ?_)
        refine lv_iload hx hb dX0_longestKept_77 (lv_at hl 0 rfl) ?_
        refine ib_if_eq (tgt := 89) hx hb dX0_longestKept_79 (by decide) ⟨by omega, by omega⟩ (fun c_79 => absurd c_79 (by decide)) (fun c_79 => ?_)
        refine lv_iload hx hb dX0_longestKept_82 (lv_at hl 7 rfl) ?_
        refine ib_const hx hb dX0_longestKept_84 ?_
        refine ib_add (z := (((lgL (plcN (pk (rw_ r a0 a1)) (pk (fm (rw_ r a0 a1) (12 * k + i))) 12) n) + 1 : Nat) : Int)) hx hb dX0_longestKept_85 (by omega) ?_
        refine lv_goto (tgt := 90) hx hb dX0_longestKept_86 (by decide) ?_
        refine st_i (y := iI ((lgL (plcN (pk (rw_ r a0 a1)) (pk (fm (rw_ r a0 a1) (12 * k + i))) 12) (n + 1) : Nat) : Int)) (congrArg (fun z : Nat => iI ((z : Nat) : Int)) (lgL_t hn1 (by omega))) ?_
        have hl9 := lgL_le (plcN (pk (rw_ r a0 a1)) (pk (fm (rw_ r a0 a1) (12 * k + i))) 12) (n + 1)
        refine lv_istore (lv' := [(9, .int (iI ((lgL (plcN (pk (rw_ r a0 a1)) (pk (fm (rw_ r a0 a1) (12 * k + i))) 12) (n + 1) : Nat) : Int))), (11, .int (iI 1)), (0, .ref o0), (1, .int (iI ((r : Nat) : Int))), (2, .int (iI ((k : Nat) : Int))), (3, .int (iI ((i : Nat) : Int))), (6, .long (plcN (pk (rw_ r a0 a1)) (pk (fm (rw_ r a0 a1) (12 * k + i))) 12)), (8, .int (iI ((lgM (plcN (pk (rw_ r a0 a1)) (pk (fm (rw_ r a0 a1) (12 * k + i))) 12) n : Nat) : Int))), (10, .int (iI ((n : Nat) : Int)))]) hx hb dX0_longestKept_90 hl (by decide) rfl (fun ls hl => ?_)
        refine lv_iload hx hb dX0_longestKept_92 (lv_at hl 7 rfl) ?_
        refine lv_iload hx hb dX0_longestKept_94 (lv_at hl 0 rfl) ?_
        refine va_mmax hx hb (hml.trans hl.1.symm) hown (hts (.methodLink RX0 98 Lib.Math.max.name) (by decide +kernel)) (hts (.static Lib.Math.max.name) (by decide +kernel)) (hts (.initialized "java/lang/Math") (by decide +kernel)) (hts (.code Lib.Math.max.name Lib.Math.max.code 2 (some .int)) (by decide +kernel)) (Nat.le_of_ble_eq_true rfl) (Nat.le_of_ble_eq_true rfl) (Nat.le_of_ble_eq_true rfl) (Nat.le_of_ble_eq_true rfl) dX0_longestKept_96 ?_
        refine st_i (y := iI ((max (lgM (plcN (pk (rw_ r a0 a1)) (pk (fm (rw_ r a0 a1) (12 * k + i))) 12) n) (lgL (plcN (pk (rw_ r a0 a1)) (pk (fm (rw_ r a0 a1) (12 * k + i))) 12) (n + 1)) : Nat) : Int)) ((iI_max ⟨by omega, by omega⟩ ⟨by omega, by omega⟩).trans (congrArg iI (by omega))) ?_
        refine st_i (y := iI ((lgM (plcN (pk (rw_ r a0 a1)) (pk (fm (rw_ r a0 a1) (12 * k + i))) 12) (n + 1) : Nat) : Int)) (congrArg (fun z : Nat => iI ((z : Nat) : Int)) (lgM_s hn1)) ?_
        refine lv_istore (lv' := [(8, .int (iI ((lgM (plcN (pk (rw_ r a0 a1)) (pk (fm (rw_ r a0 a1) (12 * k + i))) 12) (n + 1) : Nat) : Int))), (9, .int (iI ((lgL (plcN (pk (rw_ r a0 a1)) (pk (fm (rw_ r a0 a1) (12 * k + i))) 12) (n + 1) : Nat) : Int))), (11, .int (iI 1)), (0, .ref o0), (1, .int (iI ((r : Nat) : Int))), (2, .int (iI ((k : Nat) : Int))), (3, .int (iI ((i : Nat) : Int))), (6, .long (plcN (pk (rw_ r a0 a1)) (pk (fm (rw_ r a0 a1) (12 * k + i))) 12)), (10, .int (iI ((n : Nat) : Int)))]) hx hb dX0_longestKept_99 hl (by decide) rfl (fun ls hl => ?_)
        refine lv_iinc (v := iI ((n + 1 : Nat) : Int)) (lv' := [(10, .int (iI ((n + 1 : Nat) : Int))), (8, .int (iI ((lgM (plcN (pk (rw_ r a0 a1)) (pk (fm (rw_ r a0 a1) (12 * k + i))) 12) (n + 1) : Nat) : Int))), (9, .int (iI ((lgL (plcN (pk (rw_ r a0 a1)) (pk (fm (rw_ r a0 a1) (12 * k + i))) 12) (n + 1) : Nat) : Int))), (11, .int (iI 1)), (0, .ref o0), (1, .int (iI ((r : Nat) : Int))), (2, .int (iI ((k : Nat) : Int))), (3, .int (iI ((i : Nat) : Int))), (6, .long (plcN (pk (rw_ r a0 a1)) (pk (fm (rw_ r a0 a1) (12 * k + i))) 12))]) hx hb dX0_longestKept_101 hl (k := 8) rfl (iI_inc (by omega)) (by decide) rfl (fun ls hl => ?_)
        refine lv_goto (tgt := 42) hx hb dX0_longestKept_104 (by decide) ?_
        exact ih_42_1 (n + 1) (by omega) (by omega) _ (lv_sub hl [4, 5, 6, 7, 8, 1, 2, 0] rfl)
  exact lp_42_1 11 1 (by omega) (Nat.le_refl 1) _ (lv_sub hl [5, 6, 7, 8, 3, 2, 1, 0] rfl)

set_option maxHeartbeats 4000000 in
set_option maxRecDepth 100000 in
theorem mX0_mostKept_ok (l : Launch) (dC : Nat → ClassId) (dI : Nat → Nat → Nat) (o0 : Nat) (a0 a1 q : Nat → Nat) (w : Nat) (hp0 : Pm a0) (hp1 : Pm a1) (hw : w ≤ 12) (hq : ∀ i, i < w → q i < 12) (hqd : ∀ i j, i < w → j < w → q i = q j → i = j) (r k : Nat) (hr9 : r < 2) (hk1 : 2 ≤ k) (hk2 : k ≤ 11) : rd l yX0_mostKept wsX0_mostKept { frames := 4, cells := 0, slots := 0, locals := 99 } [.ref o0, .int (iI ((r : Nat) : Int)), .int (iI ((k : Nat) : Int))] (bW (dC, dI) [(o0, .inr (0, [.long (pk a0), .long (pk a1), .long (pkn q w), .int (iI ((w : Nat) : Int))]))] []) (some (.int (iI (mkC (rw_ r a0 a1) k 48)))) := by
  refine Met.ofW (cc := cX0_mostKept) (maxL := 10) (ret := (some .int)) (by decide) rfl ?_
  intro P0 e s m args below meth c s₁ B hml hv
  obtain ⟨rfl, hP, hK⟩ := hv
  have hx := B.exec
  have hb := B.bytes
  have hr := B.returns
  have hts := atoms_spec (ws := wsX0_mostKept) B.pre
  have hown : s.vm.findClass RX0 = some m.cls := findClass_of_methodNamed B.named
  have hlocks := B.notSynchronized
  have hl := lv_entry ([.ref o0, .int (iI ((r : Nat) : Int)), .int (iI ((k : Nat) : Int))]) (n := 10) (Nat.le_of_ble_eq_true rfl)
  rw [lg_entry_eq]
  generalize (lg_sl ([.ref o0, .int (iI ((r : Nat) : Int)), .int (iI ((k : Nat) : Int))]) ++ List.replicate (10 - (lg_sl ([.ref o0, .int (iI ((r : Nat) : Int)), .int (iI ((k : Nat) : Int))])).length) Slot.unset).toArray = ls at hl ⊢
  have hl : lv_has ls 10 [(0, .ref o0), (1, .int (iI ((r : Nat) : Int))), (2, .int (iI ((k : Nat) : Int)))] := hl
  have hR := rw_Pm hp0 hp1 r
  have hR1 := hR.1
  have h9a := hR1 0 (by decide)
  refine lv_iload_n hx hb dX0_mostKept_0 rfl (lv_at hl 1 rfl) ?_
  refine rd_call (va_runS (As := [.int (iI ((r : Nat) : Int))]) (rest := []) ⟨hx, hb, hml, hown, hts⟩ (mX0_requireRow l ((r : Nat) : Int) ⟨by omega, by omega⟩ (by omega)) (va_cwS 1 hts gX0_mostKept_X0_requireRow rfl rfl rfl hdX0_requireRow ⟨Nat.le_of_ble_eq_true rfl, Nat.le_of_ble_eq_true rfl⟩) tt_pre rfl rfl hl.1 rfl (lv_room (Nat.le_of_ble_eq_true rfl)) dX0_mostKept_1 ⟨Nat.le_of_ble_eq_true rfl, Nat.le_of_ble_eq_true rfl⟩) ?_
  refine lv_iload_n hx hb dX0_mostKept_4 rfl (lv_at hl 2 rfl) ?_
  refine ib_const hx hb dX0_mostKept_5 ?_
  refine ib_bi hx hb dX0_mostKept_6 (by decide) ?_
  refine rd_call (va_runS (As := [.int (iI ((k : Nat) : Int)), .int (iI 2), .int (iI 11)]) (rest := []) ⟨hx, hb, hml, hown, hts⟩ (mX0_requireRange l ((k : Nat) : Int) 2 11 ⟨by omega, by omega⟩ ⟨by omega, by omega⟩ ⟨by omega, by omega⟩ (by omega)) (va_cwS 3 hts gX0_mostKept_X0_requireRange rfl rfl rfl hdX0_requireRange ⟨Nat.le_of_ble_eq_true rfl, Nat.le_of_ble_eq_true rfl⟩) tt_pre rfl rfl hl.1 rfl (lv_room (Nat.le_of_ble_eq_true rfl)) dX0_mostKept_8 ⟨Nat.le_of_ble_eq_true rfl, Nat.le_of_ble_eq_true rfl⟩) ?_
  refine lv_aload_n hx hb dX0_mostKept_11 rfl (lv_at hl 0 rfl) ?_
  refine lv_iload_n hx hb dX0_mostKept_12 rfl (lv_at hl 1 rfl) ?_
  refine rd_call (va_runV (As := [.int (iI ((r : Nat) : Int))]) (rest := []) ⟨hx, hb, hml, hown, hts⟩ (mX0_rowAt l dC dI o0 a0 a1 q w hp0 hp1 hw hq hqd r (by omega)) (cwV 1 hts gX0_mostKept_X0_rowAt rfl rfl rfl hvX0_rowAt ⟨Nat.le_of_ble_eq_true rfl, Nat.le_of_ble_eq_true rfl⟩) (bW_pre (ci := 0) (q0 := 0) hK hP rfl rfl rfl) rfl rfl hl.1 rfl (lv_room (Nat.le_of_ble_eq_true rfl)) dX0_mostKept_13 ⟨Nat.le_of_ble_eq_true rfl, Nat.le_of_ble_eq_true rfl⟩) ?_
  refine lv_lstore_n (lv' := [(3, .long (pk (rw_ r a0 a1))), (0, .ref o0), (1, .int (iI ((r : Nat) : Int))), (2, .int (iI ((k : Nat) : Int)))]) hx hb dX0_mostKept_16 rfl hl (by decide) rfl (fun ls hl => ?_)
  refine ib_const hx hb dX0_mostKept_17 ?_
  refine lv_lload_n hx hb dX0_mostKept_18 rfl (lv_at hl 0 rfl) ?_
  refine ib_const hx hb dX0_mostKept_19 ?_
  refine rd_call (va_runS (As := [.long (pk (rw_ r a0 a1)), .int (iI 0)]) (rest := [.int (iI 0)]) ⟨hx, hb, hml, hown, hts⟩ (mX0_entryAt l (pk (rw_ r a0 a1)) 0 (by omega)) (va_cwS 2 hts gX0_mostKept_X0_entryAt rfl rfl rfl hdX0_entryAt ⟨Nat.le_of_ble_eq_true rfl, Nat.le_of_ble_eq_true rfl⟩) tt_pre rfl rfl hl.1 rfl (lv_room (Nat.le_of_ble_eq_true rfl)) dX0_mostKept_20 ⟨Nat.le_of_ble_eq_true rfl, Nat.le_of_ble_eq_true rfl⟩) ?_
  have he_20 := ent_lt (pk (rw_ r a0 a1)) 0
  refine st_i (y := iI ((rw_ r a0 a1 0 : Nat) : Int)) (congrArg (fun z : Nat => iI ((z : Nat) : Int)) (ent_pk hR1 (by decide))) ?_
  refine rd_call (va_runS (As := [.int (iI 0), .int (iI ((rw_ r a0 a1 0 : Nat) : Int))]) (rest := []) ⟨hx, hb, hml, hown, hts⟩ (mX0_codeOf l 0 (rw_ r a0 a1 0)) (va_cwS 2 hts gX0_mostKept_X0_codeOf rfl rfl rfl hdX0_codeOf ⟨Nat.le_of_ble_eq_true rfl, Nat.le_of_ble_eq_true rfl⟩) tt_pre rfl rfl hl.1 rfl (lv_room (Nat.le_of_ble_eq_true rfl)) dX0_mostKept_23 ⟨Nat.le_of_ble_eq_true rfl, Nat.le_of_ble_eq_true rfl⟩) ?_
  refine lv_istore (lv' := [(5, .int (iI ((12 * 0 + (rw_ r a0 a1 0) : Nat) : Int))), (3, .long (pk (rw_ r a0 a1))), (0, .ref o0), (1, .int (iI ((r : Nat) : Int))), (2, .int (iI ((k : Nat) : Int)))]) hx hb dX0_mostKept_26 hl (by decide) rfl (fun ls hl => ?_)
  refine ib_const hx hb dX0_mostKept_28 ?_
  refine lv_istore (lv' := [(6, .int (iI (-1))), (5, .int (iI ((12 * 0 + (rw_ r a0 a1 0) : Nat) : Int))), (3, .long (pk (rw_ r a0 a1))), (0, .ref o0), (1, .int (iI ((r : Nat) : Int))), (2, .int (iI ((k : Nat) : Int)))]) hx hb dX0_mostKept_29 hl (by decide) rfl (fun ls hl => ?_)
  refine ib_const hx hb dX0_mostKept_31 ?_
  refine lv_istore (lv' := [(7, .int (iI (-1))), (6, .int (iI (-1))), (5, .int (iI ((12 * 0 + (rw_ r a0 a1 0) : Nat) : Int))), (3, .long (pk (rw_ r a0 a1))), (0, .ref o0), (1, .int (iI ((r : Nat) : Int))), (2, .int (iI ((k : Nat) : Int)))]) hx hb dX0_mostKept_32 hl (by decide) rfl (fun ls hl => ?_)
  refine ib_const hx hb dX0_mostKept_34 ?_
  refine lv_istore (lv' := [(8, .int (iI 0)), (7, .int (iI (-1))), (6, .int (iI (-1))), (5, .int (iI ((12 * 0 + (rw_ r a0 a1 0) : Nat) : Int))), (3, .long (pk (rw_ r a0 a1))), (0, .ref o0), (1, .int (iI ((r : Nat) : Int))), (2, .int (iI ((k : Nat) : Int)))]) hx hb dX0_mostKept_35 hl (by decide) rfl (fun ls hl => ?_)
  have lp_37_1 : ∀ (j n : Nat), n + j = 48 → ∀ ls : Array Slot, lv_has ls 10 [(0, .ref o0), (1, .int (iI ((r : Nat) : Int))), (2, .int (iI ((k : Nat) : Int))), (3, .long (pk (rw_ r a0 a1))), (5, .int (iI ((12 * 0 + rw_ r a0 a1 0 : Nat) : Int))), (6, .int (iI (mkC (rw_ r a0 a1) k n))), (7, .int (iI (mkM (rw_ r a0 a1) k n))), (8, .int (iI ((n : Nat) : Int)))] → W P0 l e (headSpec wsX0_mostKept { frames := 4, cells := 0, slots := 0, locals := 99 }).room s m ([.ref o0, .int (iI ((r : Nat) : Int)), .int (iI ((k : Nat) : Int))] : List Value).toArray below meth c s.heap [] 0 0 (MQ below (rdQ (some (.int (iI (mkC (rw_ r a0 a1) k 48))))) ([.ref o0, .int (iI ((r : Nat) : Int)), .int (iI ((k : Nat) : Int))] : List Value).toArray s 0 0 (fun _ => False)) (F0 m 37 ls []) := by
    intro j
    induction j with
    | zero =>
      intro n hn_37  ls hl
      have hmm := mkM_in (rw_ r a0 a1) k n
      have hmc := mkC_in (rw_ r a0 a1) k n
      refine lv_iload hx hb dX0_mostKept_37 (lv_at hl 7 rfl) ?_
      refine ib_bi hx hb dX0_mostKept_39 (by decide) ?_
      refine ib_icmp_ge (tgt := 85) hx hb dX0_mostKept_41 (by decide) ⟨by omega, by omega⟩ ⟨by omega, by omega⟩ (fun c_41 => ?_) (fun c_41 => absurd c_41 (by omega))
      refine lv_iload hx hb dX0_mostKept_85 (lv_at hl 5 rfl) ?_
      refine st_i (y := iI (mkC (rw_ r a0 a1) k 48)) (congrArg (fun z => iI (mkC (rw_ r a0 a1) k z)) (show n = 48 by omega)) ?_
      exact W.iret hx hb hr (fun t ht _ => ⟨rfl, ht⟩) (fun _ h => nomatch h) dX0_mostKept_87
    | succ j ih_37_1 =>
      intro n hn_37  ls hl
      have hmm := mkM_in (rw_ r a0 a1) k n
      have hmc := mkC_in (rw_ r a0 a1) k n
      refine lv_iload hx hb dX0_mostKept_37 (lv_at hl 7 rfl) ?_
      refine ib_bi hx hb dX0_mostKept_39 (by decide) ?_
      refine ib_icmp_ge (tgt := 85) hx hb dX0_mostKept_41 (by decide) ⟨by omega, by omega⟩ ⟨by omega, by omega⟩ (fun c_41 => absurd c_41 (by omega)) (fun c_41 => ?_)
      refine lv_lload_n hx hb dX0_mostKept_44 rfl (lv_at hl 3 rfl) ?_
      refine lv_lload_n hx hb dX0_mostKept_45 rfl (lv_at hl 3 rfl) ?_
      refine lv_iload hx hb dX0_mostKept_46 (lv_at hl 7 rfl) ?_
      refine rd_call (va_runS (As := [.long (pk (rw_ r a0 a1)), .int (iI ((n : Nat) : Int))]) (rest := [.long (pk (rw_ r a0 a1))]) ⟨hx, hb, hml, hown, hts⟩ (mX0_formWith l (pk (rw_ r a0 a1)) n (by omega)) (va_cwS 2 hts gX0_mostKept_X0_formWith rfl rfl rfl hdX0_formWith ⟨Nat.le_of_ble_eq_true rfl, Nat.le_of_ble_eq_true rfl⟩) tt_pre rfl rfl hl.1 rfl (lv_room (Nat.le_of_ble_eq_true rfl)) dX0_mostKept_48 ⟨Nat.le_of_ble_eq_true rfl, Nat.le_of_ble_eq_true rfl⟩) ?_
      refine st_l (y := pk (fm (rw_ r a0 a1) n)) (fw_pk hR1 (by omega)) ?_
      refine lv_iload_n hx hb dX0_mostKept_51 rfl (lv_at hl 2 rfl) ?_
      have hall := hasAll_fm hR (show n < 48 by omega)
      refine rd_call (va_runS (As := [.long (pk (rw_ r a0 a1)), .long (pk (fm (rw_ r a0 a1) n)), .int (iI ((k : Nat) : Int))]) (rest := []) ⟨hx, hb, hml, hown, hts⟩ (mX0_countKept l (pk (rw_ r a0 a1)) (pk (fm (rw_ r a0 a1) n)) k hall (by omega) (by omega)) (va_cwS 3 hts gX0_mostKept_X0_countKept rfl rfl rfl hdX0_countKept ⟨Nat.le_of_ble_eq_true rfl, Nat.le_of_ble_eq_true rfl⟩) tt_pre rfl rfl hl.1 rfl (lv_room (Nat.le_of_ble_eq_true rfl)) dX0_mostKept_52 ⟨Nat.le_of_ble_eq_true rfl, Nat.le_of_ble_eq_true rfl⟩) ?_
      have hc_52 := ckN_le (plcN (pk (rw_ r a0 a1)) (pk (fm (rw_ r a0 a1) n)) 12) k (13 - k)
      refine st_i (y := iI ((skN (rw_ r a0 a1) n k (13 - k) : Nat) : Int)) (congrArg (fun z : Nat => iI ((z : Nat) : Int)) (ck_sk hR (by omega) (by omega) (by omega))) ?_
      refine lv_istore (lv' := [(9, .int (iI ((skN (rw_ r a0 a1) n k (13 - k) : Nat) : Int))), (0, .ref o0), (1, .int (iI ((r : Nat) : Int))), (2, .int (iI ((k : Nat) : Int))), (3, .long (pk (rw_ r a0 a1))), (5, .int (iI ((12 * 0 + rw_ r a0 a1 0 : Nat) : Int))), (6, .int (iI (mkC (rw_ r a0 a1) k n))), (7, .int (iI (mkM (rw_ r a0 a1) k n))), (8, .int (iI ((n : Nat) : Int)))]) hx hb dX0_mostKept_55 hl (by decide) rfl (fun ls hl => ?_)
      have hsk := skN_le (rw_ r a0 a1) n k (13 - k)
      refine lv_iload hx hb dX0_mostKept_57 (lv_at hl 8 rfl) ?_
      refine lv_iload hx hb dX0_mostKept_59 (lv_at hl 5 rfl) ?_
      refine ib_icmp_eq (tgt := 79) hx hb dX0_mostKept_61 (by decide) ⟨by omega, by omega⟩ ⟨by omega, by omega⟩ (fun c_61 => ?_) (fun c_61 => ?_)
      · skip
        refine lv_iinc (v := iI ((n + 1 : Nat) : Int)) (lv' := [(8, .int (iI ((n + 1 : Nat) : Int))), (9, .int (iI ((skN (rw_ r a0 a1) n k (13 - k) : Nat) : Int))), (0, .ref o0), (1, .int (iI ((r : Nat) : Int))), (2, .int (iI ((k : Nat) : Int))), (3, .long (pk (rw_ r a0 a1))), (5, .int (iI ((12 * 0 + rw_ r a0 a1 0 : Nat) : Int))), (6, .int (iI (mkC (rw_ r a0 a1) k n))), (7, .int (iI (mkM (rw_ r a0 a1) k n)))]) hx hb dX0_mostKept_79 hl (k := 8) rfl (iI_inc (by omega)) (by decide) rfl (fun ls hl => ?_)
        refine lv_goto (tgt := 37) hx hb dX0_mostKept_82 (by decide) ?_
        have hl : lv_has ls 10 [(8, .int (iI ((n + 1 : Nat) : Int))), (9, .int (iI ((skN (rw_ r a0 a1) n k (13 - k) : Nat) : Int))), (0, .ref o0), (1, .int (iI ((r : Nat) : Int))), (2, .int (iI ((k : Nat) : Int))), (3, .long (pk (rw_ r a0 a1))), (5, .int (iI ((12 * 0 + rw_ r a0 a1 0 : Nat) : Int))), (6, .int (iI (mkC (rw_ r a0 a1) k (n + 1)))), (7, .int (iI (mkM (rw_ r a0 a1) k n)))] := by
          have e9 : iI (mkC (rw_ r a0 a1) k n) = iI (mkC (rw_ r a0 a1) k (n + 1)) := congrArg iI (mk_s hmm.1 (by omega)).2
          rw [← e9]; exact hl
        have hl : lv_has ls 10 [(8, .int (iI ((n + 1 : Nat) : Int))), (9, .int (iI ((skN (rw_ r a0 a1) n k (13 - k) : Nat) : Int))), (0, .ref o0), (1, .int (iI ((r : Nat) : Int))), (2, .int (iI ((k : Nat) : Int))), (3, .long (pk (rw_ r a0 a1))), (5, .int (iI ((12 * 0 + rw_ r a0 a1 0 : Nat) : Int))), (6, .int (iI (mkC (rw_ r a0 a1) k (n + 1)))), (7, .int (iI (mkM (rw_ r a0 a1) k (n + 1))))] := by
          have e9 : iI (mkM (rw_ r a0 a1) k n) = iI (mkM (rw_ r a0 a1) k (n + 1)) := congrArg iI (mk_s hmm.1 (by omega)).1
          rw [← e9]; exact hl
        exact ih_37_1 (n + 1) (by omega)  _ (lv_sub hl [2, 3, 4, 5, 6, 7, 8, 0] rfl)
      · skip
        refine lv_iload hx hb dX0_mostKept_64 (lv_at hl 0 rfl) ?_
        refine lv_iload hx hb dX0_mostKept_66 (lv_at hl 7 rfl) ?_
        refine ib_icmp_le (tgt := 79) hx hb dX0_mostKept_68 (by decide) ⟨by omega, by omega⟩ ⟨by omega, by omega⟩ (fun c_68 => ?_) (fun c_68 => ?_)
        · skip
          refine lv_iinc (v := iI ((n + 1 : Nat) : Int)) (lv' := [(8, .int (iI ((n + 1 : Nat) : Int))), (9, .int (iI ((skN (rw_ r a0 a1) n k (13 - k) : Nat) : Int))), (0, .ref o0), (1, .int (iI ((r : Nat) : Int))), (2, .int (iI ((k : Nat) : Int))), (3, .long (pk (rw_ r a0 a1))), (5, .int (iI ((12 * 0 + rw_ r a0 a1 0 : Nat) : Int))), (6, .int (iI (mkC (rw_ r a0 a1) k n))), (7, .int (iI (mkM (rw_ r a0 a1) k n)))]) hx hb dX0_mostKept_79 hl (k := 8) rfl (iI_inc (by omega)) (by decide) rfl (fun ls hl => ?_)
          refine lv_goto (tgt := 37) hx hb dX0_mostKept_82 (by decide) ?_
          have hl : lv_has ls 10 [(8, .int (iI ((n + 1 : Nat) : Int))), (9, .int (iI ((skN (rw_ r a0 a1) n k (13 - k) : Nat) : Int))), (0, .ref o0), (1, .int (iI ((r : Nat) : Int))), (2, .int (iI ((k : Nat) : Int))), (3, .long (pk (rw_ r a0 a1))), (5, .int (iI ((12 * 0 + rw_ r a0 a1 0 : Nat) : Int))), (6, .int (iI (mkC (rw_ r a0 a1) k (n + 1)))), (7, .int (iI (mkM (rw_ r a0 a1) k n)))] := by
            have e9 : iI (mkC (rw_ r a0 a1) k n) = iI (mkC (rw_ r a0 a1) k (n + 1)) := congrArg iI (mk_f (by omega) (by omega)).2
            rw [← e9]; exact hl
          have hl : lv_has ls 10 [(8, .int (iI ((n + 1 : Nat) : Int))), (9, .int (iI ((skN (rw_ r a0 a1) n k (13 - k) : Nat) : Int))), (0, .ref o0), (1, .int (iI ((r : Nat) : Int))), (2, .int (iI ((k : Nat) : Int))), (3, .long (pk (rw_ r a0 a1))), (5, .int (iI ((12 * 0 + rw_ r a0 a1 0 : Nat) : Int))), (6, .int (iI (mkC (rw_ r a0 a1) k (n + 1)))), (7, .int (iI (mkM (rw_ r a0 a1) k (n + 1))))] := by
            have e9 : iI (mkM (rw_ r a0 a1) k n) = iI (mkM (rw_ r a0 a1) k (n + 1)) := congrArg iI (mk_f (by omega) (by omega)).1
            rw [← e9]; exact hl
          exact ih_37_1 (n + 1) (by omega)  _ (lv_sub hl [2, 3, 4, 5, 6, 7, 8, 0] rfl)
        · skip
          refine lv_iload hx hb dX0_mostKept_71 (lv_at hl 0 rfl) ?_
          refine lv_istore (lv' := [(7, .int (iI ((skN (rw_ r a0 a1) n k (13 - k) : Nat) : Int))), (9, .int (iI ((skN (rw_ r a0 a1) n k (13 - k) : Nat) : Int))), (0, .ref o0), (1, .int (iI ((r : Nat) : Int))), (2, .int (iI ((k : Nat) : Int))), (3, .long (pk (rw_ r a0 a1))), (5, .int (iI ((12 * 0 + rw_ r a0 a1 0 : Nat) : Int))), (6, .int (iI (mkC (rw_ r a0 a1) k n))), (8, .int (iI ((n : Nat) : Int)))]) hx hb dX0_mostKept_73 hl (by decide) rfl (fun ls hl => ?_)
          refine lv_iload hx hb dX0_mostKept_75 (lv_at hl 8 rfl) ?_
          refine lv_istore (lv' := [(6, .int (iI ((n : Nat) : Int))), (7, .int (iI ((skN (rw_ r a0 a1) n k (13 - k) : Nat) : Int))), (9, .int (iI ((skN (rw_ r a0 a1) n k (13 - k) : Nat) : Int))), (0, .ref o0), (1, .int (iI ((r : Nat) : Int))), (2, .int (iI ((k : Nat) : Int))), (3, .long (pk (rw_ r a0 a1))), (5, .int (iI ((12 * 0 + rw_ r a0 a1 0 : Nat) : Int))), (8, .int (iI ((n : Nat) : Int)))]) hx hb dX0_mostKept_77 hl (by decide) rfl (fun ls hl => ?_)
          refine lv_iinc (v := iI ((n + 1 : Nat) : Int)) (lv' := [(8, .int (iI ((n + 1 : Nat) : Int))), (6, .int (iI ((n : Nat) : Int))), (7, .int (iI ((skN (rw_ r a0 a1) n k (13 - k) : Nat) : Int))), (9, .int (iI ((skN (rw_ r a0 a1) n k (13 - k) : Nat) : Int))), (0, .ref o0), (1, .int (iI ((r : Nat) : Int))), (2, .int (iI ((k : Nat) : Int))), (3, .long (pk (rw_ r a0 a1))), (5, .int (iI ((12 * 0 + rw_ r a0 a1 0 : Nat) : Int)))]) hx hb dX0_mostKept_79 hl (k := 8) rfl (iI_inc (by omega)) (by decide) rfl (fun ls hl => ?_)
          refine lv_goto (tgt := 37) hx hb dX0_mostKept_82 (by decide) ?_
          have hl : lv_has ls 10 [(8, .int (iI ((n + 1 : Nat) : Int))), (6, .int (iI (mkC (rw_ r a0 a1) k (n + 1)))), (7, .int (iI ((skN (rw_ r a0 a1) n k (13 - k) : Nat) : Int))), (9, .int (iI ((skN (rw_ r a0 a1) n k (13 - k) : Nat) : Int))), (0, .ref o0), (1, .int (iI ((r : Nat) : Int))), (2, .int (iI ((k : Nat) : Int))), (3, .long (pk (rw_ r a0 a1))), (5, .int (iI ((12 * 0 + rw_ r a0 a1 0 : Nat) : Int)))] := by
            have e9 : iI ((n : Nat) : Int) = iI (mkC (rw_ r a0 a1) k (n + 1)) := congrArg iI (mk_t (by omega) (by omega)).2
            rw [← e9]; exact hl
          have hl : lv_has ls 10 [(8, .int (iI ((n + 1 : Nat) : Int))), (6, .int (iI (mkC (rw_ r a0 a1) k (n + 1)))), (7, .int (iI (mkM (rw_ r a0 a1) k (n + 1)))), (9, .int (iI ((skN (rw_ r a0 a1) n k (13 - k) : Nat) : Int))), (0, .ref o0), (1, .int (iI ((r : Nat) : Int))), (2, .int (iI ((k : Nat) : Int))), (3, .long (pk (rw_ r a0 a1))), (5, .int (iI ((12 * 0 + rw_ r a0 a1 0 : Nat) : Int)))] := by
            have e9 : iI ((skN (rw_ r a0 a1) n k (13 - k) : Nat) : Int) = iI (mkM (rw_ r a0 a1) k (n + 1)) := congrArg iI (mk_t (by omega) (by omega)).1
            rw [← e9]; exact hl
          exact ih_37_1 (n + 1) (by omega)  _ (lv_sub hl [4, 5, 6, 7, 8, 1, 2, 0] rfl)
  exact lp_37_1 48 0 (by omega)  _ (lv_sub hl [5, 6, 7, 4, 3, 2, 1, 0] rfl)

set_option maxHeartbeats 4000000 in
set_option maxRecDepth 100000 in
theorem mX0_cuts_ok (l : Launch) (dC : Nat → ClassId) (dI : Nat → Nat → Nat) (o0 : Nat) (a0 a1 q : Nat → Nat) (w : Nat) (hp0 : Pm a0) (hp1 : Pm a1) (hw : w ≤ 12) (hq : ∀ i, i < w → q i < 12) (hqd : ∀ i j, i < w → j < w → q i = q j → i = j) (c1 c2 : Nat) (hc1 : c1 < 48) (hc2 : c2 < 48) : rd l yX0_cuts wsX0_cuts { frames := 3, cells := 0, slots := 0, locals := 74 } [.ref o0, .int (iI ((c1 : Nat) : Int)), .int (iI ((c2 : Nat) : Int))] (bW (dC, dI) [(o0, .inr (0, [.long (pk a0), .long (pk a1), .long (pkn q w), .int (iI ((w : Nat) : Int))]))] []) (some (.int (iI ((ctN (fm (rw_ 0 a0 a1) c1) (fm (rw_ 1 a0 a1) c2) 13 : Nat) : Int)))) := by
  refine Met.ofW (cc := cX0_cuts) (maxL := 9) (ret := (some .int)) (by decide) rfl ?_
  intro P0 e s m args below meth c s₁ B hml hv
  obtain ⟨rfl, hP, hK⟩ := hv
  have hx := B.exec
  have hb := B.bytes
  have hr := B.returns
  have hts := atoms_spec (ws := wsX0_cuts) B.pre
  have hown : s.vm.findClass RX0 = some m.cls := findClass_of_methodNamed B.named
  have hlocks := B.notSynchronized
  have hinX : ∀ w ∈ u_ws RX0 TX0 4, w ∈ wsX0_cuts := by decide +kernel
  have hl := lv_entry ([.ref o0, .int (iI ((c1 : Nat) : Int)), .int (iI ((c2 : Nat) : Int))]) (n := 9) (Nat.le_of_ble_eq_true rfl)
  rw [lg_entry_eq]
  generalize (lg_sl ([.ref o0, .int (iI ((c1 : Nat) : Int)), .int (iI ((c2 : Nat) : Int))]) ++ List.replicate (9 - (lg_sl ([.ref o0, .int (iI ((c1 : Nat) : Int)), .int (iI ((c2 : Nat) : Int))])).length) Slot.unset).toArray = ls at hl ⊢
  have hl : lv_has ls 9 [(0, .ref o0), (1, .int (iI ((c1 : Nat) : Int))), (2, .int (iI ((c2 : Nat) : Int)))] := hl
  refine lv_iload_n hx hb dX0_cuts_0 rfl (lv_at hl 1 rfl) ?_
  refine ib_const hx hb dX0_cuts_1 ?_
  refine ib_bi hx hb dX0_cuts_2 (by decide) ?_
  refine rd_call (va_runS (As := [.int (iI ((c1 : Nat) : Int)), .int (iI 0), .int (iI 47)]) (rest := []) ⟨hx, hb, hml, hown, hts⟩ (mX0_requireRange l ((c1 : Nat) : Int) 0 47 ⟨by omega, by omega⟩ ⟨by omega, by omega⟩ ⟨by omega, by omega⟩ (by omega)) (va_cwS 3 hts gX0_cuts_X0_requireRange rfl rfl rfl hdX0_requireRange ⟨Nat.le_of_ble_eq_true rfl, Nat.le_of_ble_eq_true rfl⟩) tt_pre rfl rfl hl.1 rfl (lv_room (Nat.le_of_ble_eq_true rfl)) dX0_cuts_4 ⟨Nat.le_of_ble_eq_true rfl, Nat.le_of_ble_eq_true rfl⟩) ?_
  refine lv_iload_n hx hb dX0_cuts_7 rfl (lv_at hl 2 rfl) ?_
  refine ib_const hx hb dX0_cuts_8 ?_
  refine ib_bi hx hb dX0_cuts_9 (by decide) ?_
  refine rd_call (va_runS (As := [.int (iI ((c2 : Nat) : Int)), .int (iI 0), .int (iI 47)]) (rest := []) ⟨hx, hb, hml, hown, hts⟩ (mX0_requireRange l ((c2 : Nat) : Int) 0 47 ⟨by omega, by omega⟩ ⟨by omega, by omega⟩ ⟨by omega, by omega⟩ (by omega)) (va_cwS 3 hts gX0_cuts_X0_requireRange rfl rfl rfl hdX0_requireRange ⟨Nat.le_of_ble_eq_true rfl, Nat.le_of_ble_eq_true rfl⟩) tt_pre rfl rfl hl.1 rfl (lv_room (Nat.le_of_ble_eq_true rfl)) dX0_cuts_11 ⟨Nat.le_of_ble_eq_true rfl, Nat.le_of_ble_eq_true rfl⟩) ?_
  refine lv_aload_n hx hb dX0_cuts_14 rfl (lv_at hl 0 rfl) ?_
  refine va_get (D := (dC, dI)) (ci := 0) (v := .long (pk a0)) (C := RX0) (T := TX0) (N := 4) hx hb hts hinX hown hK hP 0 rfl rfl 0 (by decide) (hts (.fieldLink RX0 13 "ToneRows" "row0" "J") (by decide +kernel)) (fun _ h9 => h9) rfl dX0_cuts_15 ?_
  refine lv_iload_n hx hb dX0_cuts_18 rfl (lv_at hl 1 rfl) ?_
  refine rd_call (va_runS (As := [.long (pk a0), .int (iI ((c1 : Nat) : Int))]) (rest := []) ⟨hx, hb, hml, hown, hts⟩ (mX0_formWith l (pk a0) c1 (by omega)) (va_cwS 2 hts gX0_cuts_X0_formWith rfl rfl rfl hdX0_formWith ⟨Nat.le_of_ble_eq_true rfl, Nat.le_of_ble_eq_true rfl⟩) tt_pre rfl rfl hl.1 rfl (lv_room (Nat.le_of_ble_eq_true rfl)) dX0_cuts_19 ⟨Nat.le_of_ble_eq_true rfl, Nat.le_of_ble_eq_true rfl⟩) ?_
  refine st_l (y := pk (fm (rw_ 0 a0 a1) c1)) (fw_pk (a := rw_ 0 a0 a1) hp0.1 hc1) ?_
  refine lv_lstore_n (lv' := [(3, .long (pk (fm (rw_ 0 a0 a1) c1))), (0, .ref o0), (1, .int (iI ((c1 : Nat) : Int))), (2, .int (iI ((c2 : Nat) : Int)))]) hx hb dX0_cuts_22 rfl hl (by decide) rfl (fun ls hl => ?_)
  refine lv_aload_n hx hb dX0_cuts_23 rfl (lv_at hl 1 rfl) ?_
  refine va_get (D := (dC, dI)) (ci := 0) (v := .long (pk a1)) (C := RX0) (T := TX0) (N := 4) hx hb hts hinX hown hK hP 0 rfl rfl 1 (by decide) (hts (.fieldLink RX0 17 "ToneRows" "row1" "J") (by decide +kernel)) (fun _ h9 => h9) rfl dX0_cuts_24 ?_
  refine lv_iload_n hx hb dX0_cuts_27 rfl (lv_at hl 3 rfl) ?_
  refine rd_call (va_runS (As := [.long (pk a1), .int (iI ((c2 : Nat) : Int))]) (rest := []) ⟨hx, hb, hml, hown, hts⟩ (mX0_formWith l (pk a1) c2 (by omega)) (va_cwS 2 hts gX0_cuts_X0_formWith rfl rfl rfl hdX0_formWith ⟨Nat.le_of_ble_eq_true rfl, Nat.le_of_ble_eq_true rfl⟩) tt_pre rfl rfl hl.1 rfl (lv_room (Nat.le_of_ble_eq_true rfl)) dX0_cuts_28 ⟨Nat.le_of_ble_eq_true rfl, Nat.le_of_ble_eq_true rfl⟩) ?_
  refine st_l (y := pk (fm (rw_ 1 a0 a1) c2)) (fw_pk (a := rw_ 1 a0 a1) hp1.1 hc2) ?_
  refine lv_lstore (lv' := [(5, .long (pk (fm (rw_ 1 a0 a1) c2))), (3, .long (pk (fm (rw_ 0 a0 a1) c1))), (0, .ref o0), (1, .int (iI ((c1 : Nat) : Int))), (2, .int (iI ((c2 : Nat) : Int)))]) hx hb dX0_cuts_31 hl (by decide) rfl (fun ls hl => ?_)
  refine ib_const hx hb dX0_cuts_33 ?_
  refine lv_istore (lv' := [(7, .int (iI 0)), (5, .long (pk (fm (rw_ 1 a0 a1) c2))), (3, .long (pk (fm (rw_ 0 a0 a1) c1))), (0, .ref o0), (1, .int (iI ((c1 : Nat) : Int))), (2, .int (iI ((c2 : Nat) : Int)))]) hx hb dX0_cuts_34 hl (by decide) rfl (fun ls hl => ?_)
  refine ib_const hx hb dX0_cuts_36 ?_
  refine lv_istore (lv' := [(8, .int (iI 0)), (7, .int (iI 0)), (5, .long (pk (fm (rw_ 1 a0 a1) c2))), (3, .long (pk (fm (rw_ 0 a0 a1) c1))), (0, .ref o0), (1, .int (iI ((c1 : Nat) : Int))), (2, .int (iI ((c2 : Nat) : Int)))]) hx hb dX0_cuts_37 hl (by decide) rfl (fun ls hl => ?_)
  have lp_39_1 : ∀ (j n : Nat), n + j = 13 → ∀ ls : Array Slot, lv_has ls 9 [(0, .ref o0), (1, .int (iI ((c1 : Nat) : Int))), (2, .int (iI ((c2 : Nat) : Int))), (3, .long (pk (fm (rw_ 0 a0 a1) c1))), (5, .long (pk (fm (rw_ 1 a0 a1) c2))), (7, .int (iI ((ctN (fm (rw_ 0 a0 a1) c1) (fm (rw_ 1 a0 a1) c2) n : Nat) : Int))), (8, .int (iI ((n : Nat) : Int)))] → W P0 l e (headSpec wsX0_cuts { frames := 3, cells := 0, slots := 0, locals := 74 }).room s m ([.ref o0, .int (iI ((c1 : Nat) : Int)), .int (iI ((c2 : Nat) : Int))] : List Value).toArray below meth c s.heap [] 0 0 (MQ below (rdQ (some (.int (iI ((ctN (fm (rw_ 0 a0 a1) c1) (fm (rw_ 1 a0 a1) c2) 13 : Nat) : Int))))) ([.ref o0, .int (iI ((c1 : Nat) : Int)), .int (iI ((c2 : Nat) : Int))] : List Value).toArray s 0 0 (fun _ => False)) (F0 m 39 ls []) := by
    intro j
    induction j with
    | zero =>
      intro n hn_39  ls hl
      have hct := ctN_lt (fm (rw_ 0 a0 a1) c1) (fm (rw_ 1 a0 a1) c2) n (by omega)
      refine lv_iload hx hb dX0_cuts_39 (lv_at hl 6 rfl) ?_
      refine ib_bi hx hb dX0_cuts_41 (by decide) ?_
      refine ib_icmp_gt (tgt := 86) hx hb dX0_cuts_43 (by decide) ⟨by omega, by omega⟩ ⟨by omega, by omega⟩ (fun c_43 => ?_) (fun c_43 => absurd c_43 (by omega))
      refine lv_iload hx hb dX0_cuts_86 (lv_at hl 5 rfl) ?_
      refine st_i (y := iI ((ctN (fm (rw_ 0 a0 a1) c1) (fm (rw_ 1 a0 a1) c2) 13 : Nat) : Int)) (congrArg (fun z : Nat => iI ((z : Nat) : Int)) (show ctN (fm (rw_ 0 a0 a1) c1) (fm (rw_ 1 a0 a1) c2) n = ctN (fm (rw_ 0 a0 a1) c1) (fm (rw_ 1 a0 a1) c2) 13 by rw [show n = 13 by omega])) ?_
      exact W.iret hx hb hr (fun t ht _ => ⟨rfl, ht⟩) (fun _ h => nomatch h) dX0_cuts_88
    | succ j ih_39_1 =>
      intro n hn_39  ls hl
      have hct := ctN_lt (fm (rw_ 0 a0 a1) c1) (fm (rw_ 1 a0 a1) c2) n (by omega)
      refine lv_iload hx hb dX0_cuts_39 (lv_at hl 6 rfl) ?_
      refine ib_bi hx hb dX0_cuts_41 (by decide) ?_
      refine ib_icmp_gt (tgt := 86) hx hb dX0_cuts_43 (by decide) ⟨by omega, by omega⟩ ⟨by omega, by omega⟩ (fun c_43 => absurd c_43 (by omega)) (fun c_43 => ?_)
      refine lv_lload_n hx hb dX0_cuts_46 rfl (lv_at hl 3 rfl) ?_
      refine ib_const hx hb dX0_cuts_47 ?_
      refine lv_iload hx hb dX0_cuts_48 (lv_at hl 6 rfl) ?_
      refine rd_call (va_runS (As := [.long (pk (fm (rw_ 0 a0 a1) c1)), .int (iI 0), .int (iI ((n : Nat) : Int))]) (rest := []) ⟨hx, hb, hml, hown, hts⟩ (mX0_setOf l (pk (fm (rw_ 0 a0 a1) c1)) 0 n (by omega)) (va_cwS 3 hts gX0_cuts_X0_setOf rfl rfl rfl hdX0_setOf ⟨Nat.le_of_ble_eq_true rfl, Nat.le_of_ble_eq_true rfl⟩) tt_pre rfl rfl hl.1 rfl (lv_room (Nat.le_of_ble_eq_true rfl)) dX0_cuts_50 ⟨Nat.le_of_ble_eq_true rfl, Nat.le_of_ble_eq_true rfl⟩) ?_
      have hs_50 := setN_lt (pk (fm (rw_ 0 a0 a1) c1)) 0 n
      refine st_i (y := iI ((setF (fm (rw_ 0 a0 a1) c1) 0 n : Nat) : Int)) (congrArg (fun z : Nat => iI ((z : Nat) : Int)) (setN_pk (fm_lt12 _ _) (by omega))) ?_
      refine lv_lload hx hb dX0_cuts_53 (lv_at hl 4 rfl) ?_
      refine ib_const hx hb dX0_cuts_55 ?_
      refine ib_bi hx hb dX0_cuts_56 (by decide) ?_
      refine lv_iload hx hb dX0_cuts_58 (lv_at hl 6 rfl) ?_
      refine ib_sub (z := ((12 - n : Nat) : Int)) hx hb dX0_cuts_60 (by omega) ?_
      refine rd_call (va_runS (As := [.long (pk (fm (rw_ 1 a0 a1) c2)), .int (iI 0), .int (iI ((12 - n : Nat) : Int))]) (rest := [.int (iI ((setF (fm (rw_ 0 a0 a1) c1) 0 n : Nat) : Int))]) ⟨hx, hb, hml, hown, hts⟩ (mX0_setOf l (pk (fm (rw_ 1 a0 a1) c2)) 0 (12 - n) (by omega)) (va_cwS 3 hts gX0_cuts_X0_setOf rfl rfl rfl hdX0_setOf ⟨Nat.le_of_ble_eq_true rfl, Nat.le_of_ble_eq_true rfl⟩) tt_pre rfl rfl hl.1 rfl (lv_room (Nat.le_of_ble_eq_true rfl)) dX0_cuts_61 ⟨Nat.le_of_ble_eq_true rfl, Nat.le_of_ble_eq_true rfl⟩) ?_
      have hs_61 := setN_lt (pk (fm (rw_ 1 a0 a1) c2)) 0 (12 - n)
      refine st_i (y := iI ((setF (fm (rw_ 1 a0 a1) c2) 0 (12 - n) : Nat) : Int)) (congrArg (fun z : Nat => iI ((z : Nat) : Int)) (setN_pk (fm_lt12 _ _) (by omega))) ?_
      refine lv_ior hx hb dX0_cuts_64 ?_
      refine st_i (y := iI ((setF (fm (rw_ 0 a0 a1) c1) 0 n ||| setF (fm (rw_ 1 a0 a1) c2) 0 (12 - n) : Nat) : Int)) (ir_or _ _) ?_
      refine ib_si hx hb dX0_cuts_65 (by decide) ?_
      have hor : setF (fm (rw_ 0 a0 a1) c1) 0 n ||| setF (fm (rw_ 1 a0 a1) c2) 0 (12 - n) < 2 ^ 12 := Nat.or_lt_two_pow (setF_lt (fm_lt (rw_ 0 a0 a1) c1) 0 n) (setF_lt (fm_lt (rw_ 1 a0 a1) c2) 0 (12 - n))
      refine ib_icmp_ne (tgt := 80) hx hb dX0_cuts_68 (by decide) ⟨by omega, by omega⟩ ⟨by omega, by omega⟩ (fun c_68 => ?_) (fun c_68 => ?_)
      · skip
        refine lv_iinc (v := iI ((n + 1 : Nat) : Int)) (lv' := [(8, .int (iI ((n + 1 : Nat) : Int))), (0, .ref o0), (1, .int (iI ((c1 : Nat) : Int))), (2, .int (iI ((c2 : Nat) : Int))), (3, .long (pk (fm (rw_ 0 a0 a1) c1))), (5, .long (pk (fm (rw_ 1 a0 a1) c2))), (7, .int (iI ((ctN (fm (rw_ 0 a0 a1) c1) (fm (rw_ 1 a0 a1) c2) n : Nat) : Int)))]) hx hb dX0_cuts_80 hl (k := 6) rfl (iI_inc (by omega)) (by decide) rfl (fun ls hl => ?_)
        refine lv_goto (tgt := 39) hx hb dX0_cuts_83 (by decide) ?_
        have hl : lv_has ls 9 [(8, .int (iI ((n + 1 : Nat) : Int))), (0, .ref o0), (1, .int (iI ((c1 : Nat) : Int))), (2, .int (iI ((c2 : Nat) : Int))), (3, .long (pk (fm (rw_ 0 a0 a1) c1))), (5, .long (pk (fm (rw_ 1 a0 a1) c2))), (7, .int (iI ((ctN (fm (rw_ 0 a0 a1) c1) (fm (rw_ 1 a0 a1) c2) (n + 1) : Nat) : Int)))] := by
          have e9 : iI ((ctN (fm (rw_ 0 a0 a1) c1) (fm (rw_ 1 a0 a1) c2) n : Nat) : Int) = iI ((ctN (fm (rw_ 0 a0 a1) c1) (fm (rw_ 1 a0 a1) c2) (n + 1) : Nat) : Int) := congrArg (fun z : Nat => iI ((z : Nat) : Int)) (ct_f (by omega))
          rw [← e9]; exact hl
        exact ih_39_1 (n + 1) (by omega)  _ (lv_sub hl [1, 2, 3, 4, 5, 6, 0] rfl)
      · skip
        refine lv_iload hx hb dX0_cuts_71 (lv_at hl 5 rfl) ?_
        refine ib_const hx hb dX0_cuts_73 ?_
        refine lv_iload hx hb dX0_cuts_74 (lv_at hl 6 rfl) ?_
        refine lv_ishl hx hb dX0_cuts_76 ?_
        refine st_i (y := iI ((2 ^ n : Nat) : Int)) (ir_shl1 (by omega)) ?_
        refine lv_ior hx hb dX0_cuts_77 ?_
        refine st_i (y := iI ((ctN (fm (rw_ 0 a0 a1) c1) (fm (rw_ 1 a0 a1) c2) n ||| 2 ^ n : Nat) : Int)) (ir_or _ _) ?_
        refine lv_istore (lv' := [(7, .int (iI ((ctN (fm (rw_ 0 a0 a1) c1) (fm (rw_ 1 a0 a1) c2) n ||| 2 ^ n : Nat) : Int))), (0, .ref o0), (1, .int (iI ((c1 : Nat) : Int))), (2, .int (iI ((c2 : Nat) : Int))), (3, .long (pk (fm (rw_ 0 a0 a1) c1))), (5, .long (pk (fm (rw_ 1 a0 a1) c2))), (8, .int (iI ((n : Nat) : Int)))]) hx hb dX0_cuts_78 hl (by decide) rfl (fun ls hl => ?_)
        refine lv_iinc (v := iI ((n + 1 : Nat) : Int)) (lv' := [(8, .int (iI ((n + 1 : Nat) : Int))), (7, .int (iI ((ctN (fm (rw_ 0 a0 a1) c1) (fm (rw_ 1 a0 a1) c2) n ||| 2 ^ n : Nat) : Int))), (0, .ref o0), (1, .int (iI ((c1 : Nat) : Int))), (2, .int (iI ((c2 : Nat) : Int))), (3, .long (pk (fm (rw_ 0 a0 a1) c1))), (5, .long (pk (fm (rw_ 1 a0 a1) c2)))]) hx hb dX0_cuts_80 hl (k := 6) rfl (iI_inc (by omega)) (by decide) rfl (fun ls hl => ?_)
        refine lv_goto (tgt := 39) hx hb dX0_cuts_83 (by decide) ?_
        have hl : lv_has ls 9 [(8, .int (iI ((n + 1 : Nat) : Int))), (7, .int (iI ((ctN (fm (rw_ 0 a0 a1) c1) (fm (rw_ 1 a0 a1) c2) (n + 1) : Nat) : Int))), (0, .ref o0), (1, .int (iI ((c1 : Nat) : Int))), (2, .int (iI ((c2 : Nat) : Int))), (3, .long (pk (fm (rw_ 0 a0 a1) c1))), (5, .long (pk (fm (rw_ 1 a0 a1) c2)))] := by
          have e9 : iI ((ctN (fm (rw_ 0 a0 a1) c1) (fm (rw_ 1 a0 a1) c2) n ||| 2 ^ n : Nat) : Int) = iI ((ctN (fm (rw_ 0 a0 a1) c1) (fm (rw_ 1 a0 a1) c2) (n + 1) : Nat) : Int) := congrArg (fun z : Nat => iI ((z : Nat) : Int)) (if_pos (by omega)).symm
          rw [← e9]; exact hl
        exact ih_39_1 (n + 1) (by omega)  _ (lv_sub hl [2, 3, 4, 5, 6, 1, 0] rfl)
  exact lp_39_1 13 0 (by omega)  _ (lv_sub hl [4, 5, 6, 3, 2, 1, 0] rfl)

set_option maxHeartbeats 4000000 in
set_option maxRecDepth 100000 in
theorem mX0_write_ok (l : Launch) (dC : Nat → ClassId) (dI : Nat → Nat → Nat) (o0 : Nat) (a0 a1 q : Nat → Nat) (w : Nat) (hp0 : Pm a0) (hp1 : Pm a1) (hw : w ≤ 12) (hq : ∀ i, i < w → q i < 12) (hqd : ∀ i j, i < w → j < w → q i = q j → i = j) (t : Nat) (ht : t < 12) (hnw : ¬ orN (wtB q t) w = true) (hw12 : w < 12) : wr l yX0_write wsX0_write { frames := 3, cells := 0, slots := 0, locals := 68 } [.ref o0, .int (iI ((t : Nat) : Int))] (dC, dI) [(o0, .inr (0, [.long (pk a0), .long (pk a1), .long (pkn q w), .int (iI ((w : Nat) : Int))]))] [] [(o0, .inr (0, [.long (pk a0), .long (pk a1), .long (pkn (upq q w t) (w + 1)), .int (iI ((w + 1 : Nat) : Int))]))] (some (.int (iI ((w + 1 : Nat) : Int)))) := by
  refine Met.ofW (cc := cX0_write) (maxL := 2) (ret := (some .int)) (by decide) rfl ?_
  intro P0 e s m args below meth c s₁ B hml hv
  obtain ⟨rfl, hP, hK, hD0⟩ := hv
  have hx := B.exec
  have hb := B.bytes
  have hr := B.returns
  have hts := atoms_spec (ws := wsX0_write) B.pre
  have hown : s.vm.findClass RX0 = some m.cls := findClass_of_methodNamed B.named
  have hlocks := B.notSynchronized
  have hinX : ∀ w ∈ u_ws RX0 TX0 4, w ∈ wsX0_write := by decide +kernel
  have hD : va_D (inW [(o0, .inr (0, [.long (pk a0), .long (pk a1), .long (pkn q w), .int (iI ((w : Nat) : Int))]))]) [(o0, .inr (0, [.long (pk a0), .long (pk a1), .long (pkn q w), .int (iI ((w : Nat) : Int))]))] := va_D_in hD0
  have hS : va_S (inW [(o0, .inr (0, [.long (pk a0), .long (pk a1), .long (pkn q w), .int (iI ((w : Nat) : Int))]))]) s.heap s.heap [] := va_S.rf
  have hl := lv_entry ([.ref o0, .int (iI ((t : Nat) : Int))]) (n := 2) (Nat.le_of_ble_eq_true rfl)
  rw [lg_entry_eq]
  generalize (lg_sl ([.ref o0, .int (iI ((t : Nat) : Int))]) ++ List.replicate (2 - (lg_sl ([.ref o0, .int (iI ((t : Nat) : Int))])).length) Slot.unset).toArray = ls at hl ⊢
  have hl : lv_has ls 2 [(0, .ref o0), (1, .int (iI ((t : Nat) : Int)))] := hl
  refine lv_iload_n hx hb dX0_write_0 rfl (lv_at hl 1 rfl) ?_
  refine ib_const hx hb dX0_write_1 ?_
  refine ib_bi hx hb dX0_write_2 (by decide) ?_
  refine rd_call (va_runS (As := [.int (iI ((t : Nat) : Int)), .int (iI 0), .int (iI 11)]) (rest := []) ⟨hx, hb, hml, hown, hts⟩ (mX0_requireRange l ((t : Nat) : Int) 0 11 ⟨by omega, by omega⟩ ⟨by omega, by omega⟩ ⟨by omega, by omega⟩ (by omega)) (va_cwS 3 hts gX0_write_X0_requireRange rfl rfl rfl hdX0_requireRange ⟨Nat.le_of_ble_eq_true rfl, Nat.le_of_ble_eq_true rfl⟩) tt_pre rfl rfl hl.1 rfl (lv_room (Nat.le_of_ble_eq_true rfl)) dX0_write_4 ⟨Nat.le_of_ble_eq_true rfl, Nat.le_of_ble_eq_true rfl⟩) ?_
  refine lv_aload_n hx hb dX0_write_7 rfl (lv_at hl 0 rfl) ?_
  refine lv_iload_n hx hb dX0_write_8 rfl (lv_at hl 1 rfl) ?_
  refine rd_call (va_runV (As := [.int (iI ((t : Nat) : Int))]) (rest := []) ⟨hx, hb, hml, hown, hts⟩ (mX0_phraseHas l dC dI o0 a0 a1 q w hp0 hp1 hw hq hqd t (by omega)) (cwV 1 hts gX0_write_X0_phraseHas rfl rfl rfl hvX0_phraseHas ⟨Nat.le_of_ble_eq_true rfl, Nat.le_of_ble_eq_true rfl⟩) (bW_pre (ci := 0) (q0 := 0) hK hP rfl rfl rfl) rfl rfl hl.1 rfl (lv_room (Nat.le_of_ble_eq_true rfl)) dX0_write_9 ⟨Nat.le_of_ble_eq_true rfl, Nat.le_of_ble_eq_true rfl⟩) ?_
  refine bb_eq (tgt := 25) hx hb dX0_write_12 (by decide) (fun c_12 => ?_) (fun c_12 => absurd c_12 (hnw))
  refine lv_aload_n hx hb dX0_write_25 rfl (lv_at hl 0 rfl) ?_
  refine lv_aload_n hx hb dX0_write_26 rfl (lv_at hl 0 rfl) ?_
  refine va_get (D := (dC, dI)) (ci := 0) (v := .long (pkn q w)) (C := RX0) (T := TX0) (N := 4) hx hb hts hinX hown hK hP 0 rfl rfl 2 (by decide) (hts (.fieldLink RX0 114 "ToneRows" "phrase" "J") (by decide +kernel)) (fun _ h9 => h9) rfl dX0_write_27 ?_
  refine lv_aload_n hx hb dX0_write_30 rfl (lv_at hl 0 rfl) ?_
  refine va_get (D := (dC, dI)) (ci := 0) (v := .int (iI ((w : Nat) : Int))) (C := RX0) (T := TX0) (N := 4) hx hb hts hinX hown hK hP 0 rfl rfl 3 (by decide) (hts (.fieldLink RX0 117 "ToneRows" "phraseLength" "I") (by decide +kernel)) (fun _ h9 => h9) rfl dX0_write_31 ?_
  refine lv_iload_n hx hb dX0_write_34 rfl (lv_at hl 1 rfl) ?_
  refine rd_call (va_runS (As := [.long (pkn q w), .int (iI ((w : Nat) : Int)), .int (iI ((t : Nat) : Int))]) (rest := [.ref o0]) ⟨hx, hb, hml, hown, hts⟩ (mX0_withEntry l (pkn q w) w t (by omega)) (va_cwS 3 hts gX0_write_X0_withEntry rfl rfl rfl hdX0_withEntry ⟨Nat.le_of_ble_eq_true rfl, Nat.le_of_ble_eq_true rfl⟩) tt_pre rfl rfl hl.1 rfl (lv_room (Nat.le_of_ble_eq_true rfl)) dX0_write_35 ⟨Nat.le_of_ble_eq_true rfl, Nat.le_of_ble_eq_true rfl⟩) ?_
  refine st_l (y := pkn (upq q w t) (w + 1)) (pkn_up q w t) ?_
  refine va_put (D := (dC, dI)) (ci := 0) (v := .long (pkn (upq q w t) (w + 1))) (ty := .long) (C := RX0) (T := TX0) (N := 4) hx hb hts hinX tyX0 tyX0_ok nmX0 hown hK hP hD hS 0 rfl rfl 2 (by decide) (hts (.fieldLink RX0 114 "ToneRows" "phrase" "J") (by decide +kernel)) (fun _ h9 => h9) rfl (by decide +kernel) rfl rfl (Nat.le_of_ble_eq_true rfl) dX0_write_38 (fun H locs hP hD hS => ?_)
  have hP : va_P (dC, dI) vwCl [(o0, .inr (0, [.long (pk a0), .long (pk a1), .long (pkn (upq q w t) (w + 1)), .int (iI ((w : Nat) : Int))]))] H := hP
  have hD : va_D (inW [(o0, .inr (0, [.long (pk a0), .long (pk a1), .long (pkn q w), .int (iI ((w : Nat) : Int))]))]) [(o0, .inr (0, [.long (pk a0), .long (pk a1), .long (pkn (upq q w t) (w + 1)), .int (iI ((w : Nat) : Int))]))] := hD
  refine lv_aload_n hx hb dX0_write_41 rfl (lv_at hl 0 rfl) ?_
  refine lv_dup hx hb dX0_write_42 rfl ?_
  refine va_get (D := (dC, dI)) (ci := 0) (v := .int (iI ((w : Nat) : Int))) (C := RX0) (T := TX0) (N := 4) hx hb hts hinX hown hK hP 0 rfl rfl 3 (by decide) (hts (.fieldLink RX0 117 "ToneRows" "phraseLength" "I") (by decide +kernel)) (fun _ h9 => h9) rfl dX0_write_43 ?_
  refine ib_const hx hb dX0_write_46 ?_
  refine ib_add (z := ((w + 1 : Nat) : Int)) hx hb dX0_write_47 (by omega) ?_
  refine va_put (D := (dC, dI)) (ci := 0) (v := .int (iI ((w + 1 : Nat) : Int))) (ty := .int) (C := RX0) (T := TX0) (N := 4) hx hb hts hinX tyX0 tyX0_ok nmX0 hown hK hP hD hS 0 rfl rfl 3 (by decide) (hts (.fieldLink RX0 117 "ToneRows" "phraseLength" "I") (by decide +kernel)) (fun _ h9 => h9) rfl (by decide +kernel) rfl rfl (Nat.le_of_ble_eq_true rfl) dX0_write_48 (fun H locs hP hD hS => ?_)
  have hP : va_P (dC, dI) vwCl [(o0, .inr (0, [.long (pk a0), .long (pk a1), .long (pkn (upq q w t) (w + 1)), .int (iI ((w + 1 : Nat) : Int))]))] H := hP
  have hD : va_D (inW [(o0, .inr (0, [.long (pk a0), .long (pk a1), .long (pkn q w), .int (iI ((w : Nat) : Int))]))]) [(o0, .inr (0, [.long (pk a0), .long (pk a1), .long (pkn (upq q w t) (w + 1)), .int (iI ((w + 1 : Nat) : Int))]))] := hD
  refine lv_aload_n hx hb dX0_write_51 rfl (lv_at hl 0 rfl) ?_
  refine va_get (D := (dC, dI)) (ci := 0) (v := .int (iI ((w + 1 : Nat) : Int))) (C := RX0) (T := TX0) (N := 4) hx hb hts hinX hown hK hP 0 rfl rfl 3 (by decide) (hts (.fieldLink RX0 117 "ToneRows" "phraseLength" "I") (by decide +kernel)) (fun _ h9 => h9) rfl dX0_write_52 ?_
  exact W.iret hx hb hr (fun t ht _ => ⟨rfl, by rw [ht]; exact hP, hS.F ht⟩) hS.2.2 dX0_write_55

set_option maxHeartbeats 4000000 in
set_option maxRecDepth 100000 in
theorem mX0_erase_ok (l : Launch) (dC : Nat → ClassId) (dI : Nat → Nat → Nat) (o0 : Nat) (a0 a1 q : Nat → Nat) (w : Nat) (hp0 : Pm a0) (hp1 : Pm a1) (hw : w ≤ 12) (hq : ∀ i, i < w → q i < 12) (hqd : ∀ i j, i < w → j < w → q i = q j → i = j)  : wr l yX0_erase wsX0_erase { frames := 0, cells := 0, slots := 0, locals := 0 } [.ref o0] (dC, dI) [(o0, .inr (0, [.long (pk a0), .long (pk a1), .long (pkn q w), .int (iI ((w : Nat) : Int))]))] [] [(o0, .inr (0, [.long (pk a0), .long (pk a1), .long (pkn q 0), .int (iI 0)]))] (some (.int (iI ((w : Nat) : Int)))) := by
  refine Met.ofW (cc := cX0_erase) (maxL := 2) (ret := (some .int)) (by decide) rfl ?_
  intro P0 e s m args below meth c s₁ B hml hv
  obtain ⟨rfl, hP, hK, hD0⟩ := hv
  have hx := B.exec
  have hb := B.bytes
  have hr := B.returns
  have hts := atoms_spec (ws := wsX0_erase) B.pre
  have hown : s.vm.findClass RX0 = some m.cls := findClass_of_methodNamed B.named
  have hlocks := B.notSynchronized
  have hinX : ∀ w ∈ u_ws RX0 TX0 4, w ∈ wsX0_erase := by decide +kernel
  have hD : va_D (inW [(o0, .inr (0, [.long (pk a0), .long (pk a1), .long (pkn q w), .int (iI ((w : Nat) : Int))]))]) [(o0, .inr (0, [.long (pk a0), .long (pk a1), .long (pkn q w), .int (iI ((w : Nat) : Int))]))] := va_D_in hD0
  have hS : va_S (inW [(o0, .inr (0, [.long (pk a0), .long (pk a1), .long (pkn q w), .int (iI ((w : Nat) : Int))]))]) s.heap s.heap [] := va_S.rf
  have hl := lv_entry ([.ref o0]) (n := 2) (Nat.le_of_ble_eq_true rfl)
  rw [lg_entry_eq]
  generalize (lg_sl ([.ref o0]) ++ List.replicate (2 - (lg_sl ([.ref o0])).length) Slot.unset).toArray = ls at hl ⊢
  have hl : lv_has ls 2 [(0, .ref o0)] := hl
  refine lv_aload_n hx hb dX0_erase_0 rfl (lv_at hl 0 rfl) ?_
  refine va_get (D := (dC, dI)) (ci := 0) (v := .int (iI ((w : Nat) : Int))) (C := RX0) (T := TX0) (N := 4) hx hb hts hinX hown hK hP 0 rfl rfl 3 (by decide) (hts (.fieldLink RX0 117 "ToneRows" "phraseLength" "I") (by decide +kernel)) (fun _ h9 => h9) rfl dX0_erase_1 ?_
  refine lv_istore_n (lv' := [(1, .int (iI ((w : Nat) : Int))), (0, .ref o0)]) hx hb dX0_erase_4 rfl hl (by decide) rfl (fun ls hl => ?_)
  refine lv_aload_n hx hb dX0_erase_5 rfl (lv_at hl 1 rfl) ?_
  refine lv_lconst (v := 0) hx hb dX0_erase_6 (by decide) ?_
  refine st_l (y := pkn q 0) rfl ?_
  refine va_put (D := (dC, dI)) (ci := 0) (v := .long (pkn q 0)) (ty := .long) (C := RX0) (T := TX0) (N := 4) hx hb hts hinX tyX0 tyX0_ok nmX0 hown hK hP hD hS 0 rfl rfl 2 (by decide) (hts (.fieldLink RX0 114 "ToneRows" "phrase" "J") (by decide +kernel)) (fun _ h9 => h9) rfl (by decide +kernel) rfl rfl (Nat.le_of_ble_eq_true rfl) dX0_erase_7 (fun H locs hP hD hS => ?_)
  have hP : va_P (dC, dI) vwCl [(o0, .inr (0, [.long (pk a0), .long (pk a1), .long (pkn q 0), .int (iI ((w : Nat) : Int))]))] H := hP
  have hD : va_D (inW [(o0, .inr (0, [.long (pk a0), .long (pk a1), .long (pkn q w), .int (iI ((w : Nat) : Int))]))]) [(o0, .inr (0, [.long (pk a0), .long (pk a1), .long (pkn q 0), .int (iI ((w : Nat) : Int))]))] := hD
  refine lv_aload_n hx hb dX0_erase_10 rfl (lv_at hl 1 rfl) ?_
  refine ib_const hx hb dX0_erase_11 ?_
  refine va_put (D := (dC, dI)) (ci := 0) (v := .int (iI 0)) (ty := .int) (C := RX0) (T := TX0) (N := 4) hx hb hts hinX tyX0 tyX0_ok nmX0 hown hK hP hD hS 0 rfl rfl 3 (by decide) (hts (.fieldLink RX0 117 "ToneRows" "phraseLength" "I") (by decide +kernel)) (fun _ h9 => h9) rfl (by decide +kernel) rfl rfl (Nat.le_of_ble_eq_true rfl) dX0_erase_12 (fun H locs hP hD hS => ?_)
  have hP : va_P (dC, dI) vwCl [(o0, .inr (0, [.long (pk a0), .long (pk a1), .long (pkn q 0), .int (iI 0)]))] H := hP
  have hD : va_D (inW [(o0, .inr (0, [.long (pk a0), .long (pk a1), .long (pkn q w), .int (iI ((w : Nat) : Int))]))]) [(o0, .inr (0, [.long (pk a0), .long (pk a1), .long (pkn q 0), .int (iI 0)]))] := hD
  refine lv_iload_n hx hb dX0_erase_15 rfl (lv_at hl 0 rfl) ?_
  exact W.iret hx hb hr (fun t ht _ => ⟨rfl, by rw [ht]; exact hP, hS.F ht⟩) hS.2.2 dX0_erase_16

set_option maxHeartbeats 4000000 in
set_option maxRecDepth 100000 in
theorem mX0_formsWithPhrase_ok (l : Launch) (dC : Nat → ClassId) (dI : Nat → Nat → Nat) (o0 : Nat) (a0 a1 q : Nat → Nat) (w : Nat) (hp0 : Pm a0) (hp1 : Pm a1) (hw : w ≤ 12) (hq : ∀ i, i < w → q i < 12) (hqd : ∀ i j, i < w → j < w → q i = q j → i = j) (r : Nat) (hr9 : r < 2) : rd l yX0_formsWithPhrase wsX0_formsWithPhrase { frames := 3, cells := 0, slots := 0, locals := 74 } [.ref o0, .int (iI ((r : Nat) : Int))] (bW (dC, dI) [(o0, .inr (0, [.long (pk a0), .long (pk a1), .long (pkn q w), .int (iI ((w : Nat) : Int))]))] []) (some (.long (fpL (rw_ r a0 a1) q w 48))) := by
  refine Met.ofW (cc := cX0_formsWithPhrase) (maxL := 7) (ret := (some .long)) (by decide) rfl ?_
  intro P0 e s m args below meth c s₁ B hml hv
  obtain ⟨rfl, hP, hK⟩ := hv
  have hx := B.exec
  have hb := B.bytes
  have hr := B.returns
  have hts := atoms_spec (ws := wsX0_formsWithPhrase) B.pre
  have hown : s.vm.findClass RX0 = some m.cls := findClass_of_methodNamed B.named
  have hlocks := B.notSynchronized
  have hinX : ∀ w ∈ u_ws RX0 TX0 4, w ∈ wsX0_formsWithPhrase := by decide +kernel
  have hl := lv_entry ([.ref o0, .int (iI ((r : Nat) : Int))]) (n := 7) (Nat.le_of_ble_eq_true rfl)
  rw [lg_entry_eq]
  generalize (lg_sl ([.ref o0, .int (iI ((r : Nat) : Int))]) ++ List.replicate (7 - (lg_sl ([.ref o0, .int (iI ((r : Nat) : Int))])).length) Slot.unset).toArray = ls at hl ⊢
  have hl : lv_has ls 7 [(0, .ref o0), (1, .int (iI ((r : Nat) : Int)))] := hl
  have hR := rw_Pm hp0 hp1 r
  have hR1 := hR.1
  refine lv_iload_n hx hb dX0_formsWithPhrase_0 rfl (lv_at hl 1 rfl) ?_
  refine rd_call (va_runS (As := [.int (iI ((r : Nat) : Int))]) (rest := []) ⟨hx, hb, hml, hown, hts⟩ (mX0_requireRow l ((r : Nat) : Int) ⟨by omega, by omega⟩ (by omega)) (va_cwS 1 hts gX0_formsWithPhrase_X0_requireRow rfl rfl rfl hdX0_requireRow ⟨Nat.le_of_ble_eq_true rfl, Nat.le_of_ble_eq_true rfl⟩) tt_pre rfl rfl hl.1 rfl (lv_room (Nat.le_of_ble_eq_true rfl)) dX0_formsWithPhrase_1 ⟨Nat.le_of_ble_eq_true rfl, Nat.le_of_ble_eq_true rfl⟩) ?_
  refine lv_aload_n hx hb dX0_formsWithPhrase_4 rfl (lv_at hl 0 rfl) ?_
  refine va_get (D := (dC, dI)) (ci := 0) (v := .int (iI ((w : Nat) : Int))) (C := RX0) (T := TX0) (N := 4) hx hb hts hinX hown hK hP 0 rfl rfl 3 (by decide) (hts (.fieldLink RX0 117 "ToneRows" "phraseLength" "I") (by decide +kernel)) (fun _ h9 => h9) rfl dX0_formsWithPhrase_5 ?_
  refine ib_if_ne (tgt := 15) hx hb dX0_formsWithPhrase_8 (by decide) ⟨by omega, by omega⟩ (fun c_8 => ?_) (fun c_8 => ?_)
  · skip
    refine lv_aload_n hx hb dX0_formsWithPhrase_15 rfl (lv_at hl 0 rfl) ?_
    refine lv_iload_n hx hb dX0_formsWithPhrase_16 rfl (lv_at hl 1 rfl) ?_
    refine rd_call (va_runV (As := [.int (iI ((r : Nat) : Int))]) (rest := []) ⟨hx, hb, hml, hown, hts⟩ (mX0_rowAt l dC dI o0 a0 a1 q w hp0 hp1 hw hq hqd r (by omega)) (cwV 1 hts gX0_formsWithPhrase_X0_rowAt rfl rfl rfl hvX0_rowAt ⟨Nat.le_of_ble_eq_true rfl, Nat.le_of_ble_eq_true rfl⟩) (bW_pre (ci := 0) (q0 := 0) hK hP rfl rfl rfl) rfl rfl hl.1 rfl (lv_room (Nat.le_of_ble_eq_true rfl)) dX0_formsWithPhrase_17 ⟨Nat.le_of_ble_eq_true rfl, Nat.le_of_ble_eq_true rfl⟩) ?_
    refine lv_lstore_n (lv' := [(2, .long (pk (rw_ r a0 a1))), (0, .ref o0), (1, .int (iI ((r : Nat) : Int)))]) hx hb dX0_formsWithPhrase_20 rfl hl (by decide) rfl (fun ls hl => ?_)
    refine lv_lconst (v := 0) hx hb dX0_formsWithPhrase_21 (by decide) ?_
    refine lv_lstore (lv' := [(4, .long (0 : Int64)), (2, .long (pk (rw_ r a0 a1))), (0, .ref o0), (1, .int (iI ((r : Nat) : Int)))]) hx hb dX0_formsWithPhrase_22 hl (by decide) rfl (fun ls hl => ?_)
    refine ib_const hx hb dX0_formsWithPhrase_24 ?_
    refine lv_istore (lv' := [(6, .int (iI 0)), (4, .long (0 : Int64)), (2, .long (pk (rw_ r a0 a1))), (0, .ref o0), (1, .int (iI ((r : Nat) : Int)))]) hx hb dX0_formsWithPhrase_25 hl (by decide) rfl (fun ls hl => ?_)
    have lp_27_1 : ∀ (j n : Nat), n + j = 48 → ∀ ls : Array Slot, lv_has ls 7 [(0, .ref o0), (1, .int (iI ((r : Nat) : Int))), (2, .long (pk (rw_ r a0 a1))), (4, .long (fpL (rw_ r a0 a1) q w n)), (6, .int (iI ((n : Nat) : Int)))] → W P0 l e (headSpec wsX0_formsWithPhrase { frames := 3, cells := 0, slots := 0, locals := 74 }).room s m ([.ref o0, .int (iI ((r : Nat) : Int))] : List Value).toArray below meth c s.heap [] 0 0 (MQ below (rdQ (some (.long (fpL (rw_ r a0 a1) q w 48)))) ([.ref o0, .int (iI ((r : Nat) : Int))] : List Value).toArray s 0 0 (fun _ => False)) (F0 m 27 ls []) := by
      intro j
      induction j with
      | zero =>
        intro n hn_27  ls hl
        refine lv_iload hx hb dX0_formsWithPhrase_27 (lv_at hl 4 rfl) ?_
        refine ib_bi hx hb dX0_formsWithPhrase_29 (by decide) ?_
        refine ib_icmp_ge (tgt := 63) hx hb dX0_formsWithPhrase_31 (by decide) ⟨by omega, by omega⟩ ⟨by omega, by omega⟩ (fun c_31 => ?_) (fun c_31 => absurd c_31 (by omega))
        refine lv_lload hx hb dX0_formsWithPhrase_63 (lv_at hl 3 rfl) ?_
        refine st_l (y := fpL (rw_ r a0 a1) q w 48) (congrArg (fpL (rw_ r a0 a1) q w) (show n = 48 by omega)) ?_
        exact W.lret hx hb hr (fun t ht _ => ⟨rfl, ht⟩) (fun _ h => nomatch h) dX0_formsWithPhrase_65
      | succ j ih_27_1 =>
        intro n hn_27  ls hl
        refine lv_iload hx hb dX0_formsWithPhrase_27 (lv_at hl 4 rfl) ?_
        refine ib_bi hx hb dX0_formsWithPhrase_29 (by decide) ?_
        refine ib_icmp_ge (tgt := 63) hx hb dX0_formsWithPhrase_31 (by decide) ⟨by omega, by omega⟩ ⟨by omega, by omega⟩ (fun c_31 => absurd c_31 (by omega)) (fun c_31 => ?_)
        refine lv_aload_n hx hb dX0_formsWithPhrase_34 rfl (lv_at hl 0 rfl) ?_
        refine lv_lload_n hx hb dX0_formsWithPhrase_35 rfl (lv_at hl 2 rfl) ?_
        refine lv_iload hx hb dX0_formsWithPhrase_36 (lv_at hl 4 rfl) ?_
        refine rd_call (va_runS (As := [.long (pk (rw_ r a0 a1)), .int (iI ((n : Nat) : Int))]) (rest := [.ref o0]) ⟨hx, hb, hml, hown, hts⟩ (mX0_formWith l (pk (rw_ r a0 a1)) n (by omega)) (va_cwS 2 hts gX0_formsWithPhrase_X0_formWith rfl rfl rfl hdX0_formWith ⟨Nat.le_of_ble_eq_true rfl, Nat.le_of_ble_eq_true rfl⟩) tt_pre rfl rfl hl.1 rfl (lv_room (Nat.le_of_ble_eq_true rfl)) dX0_formsWithPhrase_38 ⟨Nat.le_of_ble_eq_true rfl, Nat.le_of_ble_eq_true rfl⟩) ?_
        refine st_l (y := pk (fm (rw_ r a0 a1) n)) (fw_pk hR1 (by omega)) ?_
        have hPf := fm_Pm hR (show n < 48 by omega)
        refine rd_call (va_runV (As := [.long (pk (fm (rw_ r a0 a1) n))]) (rest := []) ⟨hx, hb, hml, hown, hts⟩ (mX0_phraseBegin l dC dI o0 a0 a1 q w hp0 hp1 hw hq hqd (fm (rw_ r a0 a1) n) hPf (by omega)) (cwV 1 hts gX0_formsWithPhrase_X0_phraseBegin rfl rfl rfl hvX0_phraseBegin ⟨Nat.le_of_ble_eq_true rfl, Nat.le_of_ble_eq_true rfl⟩) (bW_pre (ci := 0) (q0 := 0) hK hP rfl rfl rfl) rfl rfl hl.1 rfl (lv_room (Nat.le_of_ble_eq_true rfl)) dX0_formsWithPhrase_41 ⟨Nat.le_of_ble_eq_true rfl, Nat.le_of_ble_eq_true rfl⟩) ?_
        have hph_41 := phF_in (fm (rw_ r a0 a1) n) q w
        refine st_i (y := iI (plF (rw_ r a0 a1) q n w)) (rfl) ?_
        refine ib_const hx hb dX0_formsWithPhrase_44 ?_
        have hpl := plF_in (rw_ r a0 a1) q n w
        refine ib_icmp_eq (tgt := 57) hx hb dX0_formsWithPhrase_45 (by decide) ⟨by omega, by omega⟩ ⟨by omega, by omega⟩ (fun c_45 => ?_) (fun c_45 => ?_)
        · skip
          refine lv_iinc (v := iI ((n + 1 : Nat) : Int)) (lv' := [(6, .int (iI ((n + 1 : Nat) : Int))), (0, .ref o0), (1, .int (iI ((r : Nat) : Int))), (2, .long (pk (rw_ r a0 a1))), (4, .long (fpL (rw_ r a0 a1) q w n))]) hx hb dX0_formsWithPhrase_57 hl (k := 4) rfl (iI_inc (by omega)) (by decide) rfl (fun ls hl => ?_)
          refine lv_goto (tgt := 27) hx hb dX0_formsWithPhrase_60 (by decide) ?_
          have hl : lv_has ls 7 [(6, .int (iI ((n + 1 : Nat) : Int))), (0, .ref o0), (1, .int (iI ((r : Nat) : Int))), (2, .long (pk (rw_ r a0 a1))), (4, .long (fpL (rw_ r a0 a1) q w (n + 1)))] := by
            have e9 : fpL (rw_ r a0 a1) q w n = fpL (rw_ r a0 a1) q w (n + 1) := (fp_f c_45)
            rw [← e9]; exact hl
          exact ih_27_1 (n + 1) (by omega)  _ (lv_sub hl [1, 2, 3, 4, 0] rfl)
        · skip
          refine lv_lload hx hb dX0_formsWithPhrase_48 (lv_at hl 3 rfl) ?_
          refine lv_lconst (v := 1) hx hb dX0_formsWithPhrase_50 (by decide) ?_
          refine lv_iload hx hb dX0_formsWithPhrase_51 (lv_at hl 4 rfl) ?_
          refine lv_lshl hx hb dX0_formsWithPhrase_53 rfl ?_
          refine st_l (y := bitL n) (rfl) ?_
          refine lv_lor hx hb dX0_formsWithPhrase_54 ?_
          refine lv_lstore (lv' := [(4, .long ((fpL (rw_ r a0 a1) q w n) ||| (bitL n))), (0, .ref o0), (1, .int (iI ((r : Nat) : Int))), (2, .long (pk (rw_ r a0 a1))), (6, .int (iI ((n : Nat) : Int)))]) hx hb dX0_formsWithPhrase_55 hl (by decide) rfl (fun ls hl => ?_)
          refine lv_iinc (v := iI ((n + 1 : Nat) : Int)) (lv' := [(6, .int (iI ((n + 1 : Nat) : Int))), (4, .long ((fpL (rw_ r a0 a1) q w n) ||| (bitL n))), (0, .ref o0), (1, .int (iI ((r : Nat) : Int))), (2, .long (pk (rw_ r a0 a1)))]) hx hb dX0_formsWithPhrase_57 hl (k := 4) rfl (iI_inc (by omega)) (by decide) rfl (fun ls hl => ?_)
          refine lv_goto (tgt := 27) hx hb dX0_formsWithPhrase_60 (by decide) ?_
          have hl : lv_has ls 7 [(6, .int (iI ((n + 1 : Nat) : Int))), (4, .long (fpL (rw_ r a0 a1) q w (n + 1))), (0, .ref o0), (1, .int (iI ((r : Nat) : Int))), (2, .long (pk (rw_ r a0 a1)))] := by
            have e9 : (fpL (rw_ r a0 a1) q w n) ||| (bitL n) = fpL (rw_ r a0 a1) q w (n + 1) := (if_neg c_45).symm
            rw [← e9]; exact hl
          exact ih_27_1 (n + 1) (by omega)  _ (lv_sub hl [2, 3, 4, 1, 0] rfl)
    exact lp_27_1 48 0 (by omega)  _ (lv_sub hl [3, 4, 2, 1, 0] rfl)
  · skip
    refine lv_ldc2 (v := 281474976710655) hx hb hown (hts (.constantLong RX0 121 (281474976710655)) (by decide +kernel)) dX0_formsWithPhrase_11 ?_
    refine st_l (y := fpL (rw_ r a0 a1) q w 48) ((fp_all (show w = 0 by omega))) ?_
    exact W.lret hx hb hr (fun t ht _ => ⟨rfl, ht⟩) (fun _ h => nomatch h) dX0_formsWithPhrase_14

set_option maxHeartbeats 4000000 in
set_option maxRecDepth 100000 in
theorem mX0_placeOfPhrase_ok (l : Launch) (dC : Nat → ClassId) (dI : Nat → Nat → Nat) (o0 : Nat) (a0 a1 q : Nat → Nat) (w : Nat) (hp0 : Pm a0) (hp1 : Pm a1) (hw : w ≤ 12) (hq : ∀ i, i < w → q i < 12) (hqd : ∀ i j, i < w → j < w → q i = q j → i = j) (r c9 : Nat) (hr9 : r < 2) (hc9 : c9 < 48) : rd l yX0_placeOfPhrase wsX0_placeOfPhrase { frames := 3, cells := 0, slots := 0, locals := 74 } [.ref o0, .int (iI ((r : Nat) : Int)), .int (iI ((c9 : Nat) : Int))] (bW (dC, dI) [(o0, .inr (0, [.long (pk a0), .long (pk a1), .long (pkn q w), .int (iI ((w : Nat) : Int))]))] []) (some (.int (iI (if w = 0 then -1 else plF (rw_ r a0 a1) q c9 w)))) := by
  refine Met.ofW (cc := cX0_placeOfPhrase) (maxL := 3) (ret := (some .int)) (by decide) rfl ?_
  intro P0 e s m args below meth c s₁ B hml hv
  obtain ⟨rfl, hP, hK⟩ := hv
  have hx := B.exec
  have hb := B.bytes
  have hr := B.returns
  have hts := atoms_spec (ws := wsX0_placeOfPhrase) B.pre
  have hown : s.vm.findClass RX0 = some m.cls := findClass_of_methodNamed B.named
  have hlocks := B.notSynchronized
  have hinX : ∀ w ∈ u_ws RX0 TX0 4, w ∈ wsX0_placeOfPhrase := by decide +kernel
  have hl := lv_entry ([.ref o0, .int (iI ((r : Nat) : Int)), .int (iI ((c9 : Nat) : Int))]) (n := 3) (Nat.le_of_ble_eq_true rfl)
  rw [lg_entry_eq]
  generalize (lg_sl ([.ref o0, .int (iI ((r : Nat) : Int)), .int (iI ((c9 : Nat) : Int))]) ++ List.replicate (3 - (lg_sl ([.ref o0, .int (iI ((r : Nat) : Int)), .int (iI ((c9 : Nat) : Int))])).length) Slot.unset).toArray = ls at hl ⊢
  have hl : lv_has ls 3 [(0, .ref o0), (1, .int (iI ((r : Nat) : Int))), (2, .int (iI ((c9 : Nat) : Int)))] := hl
  have hR := rw_Pm hp0 hp1 r
  have hR1 := hR.1
  have hPf := fm_Pm hR hc9
  refine lv_iload_n hx hb dX0_placeOfPhrase_0 rfl (lv_at hl 1 rfl) ?_
  refine rd_call (va_runS (As := [.int (iI ((r : Nat) : Int))]) (rest := []) ⟨hx, hb, hml, hown, hts⟩ (mX0_requireRow l ((r : Nat) : Int) ⟨by omega, by omega⟩ (by omega)) (va_cwS 1 hts gX0_placeOfPhrase_X0_requireRow rfl rfl rfl hdX0_requireRow ⟨Nat.le_of_ble_eq_true rfl, Nat.le_of_ble_eq_true rfl⟩) tt_pre rfl rfl hl.1 rfl (lv_room (Nat.le_of_ble_eq_true rfl)) dX0_placeOfPhrase_1 ⟨Nat.le_of_ble_eq_true rfl, Nat.le_of_ble_eq_true rfl⟩) ?_
  refine lv_iload_n hx hb dX0_placeOfPhrase_4 rfl (lv_at hl 2 rfl) ?_
  refine ib_const hx hb dX0_placeOfPhrase_5 ?_
  refine ib_bi hx hb dX0_placeOfPhrase_6 (by decide) ?_
  refine rd_call (va_runS (As := [.int (iI ((c9 : Nat) : Int)), .int (iI 0), .int (iI 47)]) (rest := []) ⟨hx, hb, hml, hown, hts⟩ (mX0_requireRange l ((c9 : Nat) : Int) 0 47 ⟨by omega, by omega⟩ ⟨by omega, by omega⟩ ⟨by omega, by omega⟩ (by omega)) (va_cwS 3 hts gX0_placeOfPhrase_X0_requireRange rfl rfl rfl hdX0_requireRange ⟨Nat.le_of_ble_eq_true rfl, Nat.le_of_ble_eq_true rfl⟩) tt_pre rfl rfl hl.1 rfl (lv_room (Nat.le_of_ble_eq_true rfl)) dX0_placeOfPhrase_8 ⟨Nat.le_of_ble_eq_true rfl, Nat.le_of_ble_eq_true rfl⟩) ?_
  refine lv_aload_n hx hb dX0_placeOfPhrase_11 rfl (lv_at hl 0 rfl) ?_
  refine va_get (D := (dC, dI)) (ci := 0) (v := .int (iI ((w : Nat) : Int))) (C := RX0) (T := TX0) (N := 4) hx hb hts hinX hown hK hP 0 rfl rfl 3 (by decide) (hts (.fieldLink RX0 117 "ToneRows" "phraseLength" "I") (by decide +kernel)) (fun _ h9 => h9) rfl dX0_placeOfPhrase_12 ?_
  refine ib_if_ne (tgt := 22) hx hb dX0_placeOfPhrase_15 (by decide) ⟨by omega, by omega⟩ (fun c_15 => ?_) (fun c_15 => ?_)
  · skip
    refine lv_aload_n hx hb dX0_placeOfPhrase_22 rfl (lv_at hl 0 rfl) ?_
    refine lv_aload_n hx hb dX0_placeOfPhrase_23 rfl (lv_at hl 0 rfl) ?_
    refine lv_iload_n hx hb dX0_placeOfPhrase_24 rfl (lv_at hl 1 rfl) ?_
    refine rd_call (va_runV (As := [.int (iI ((r : Nat) : Int))]) (rest := [.ref o0]) ⟨hx, hb, hml, hown, hts⟩ (mX0_rowAt l dC dI o0 a0 a1 q w hp0 hp1 hw hq hqd r (by omega)) (cwV 1 hts gX0_placeOfPhrase_X0_rowAt rfl rfl rfl hvX0_rowAt ⟨Nat.le_of_ble_eq_true rfl, Nat.le_of_ble_eq_true rfl⟩) (bW_pre (ci := 0) (q0 := 0) hK hP rfl rfl rfl) rfl rfl hl.1 rfl (lv_room (Nat.le_of_ble_eq_true rfl)) dX0_placeOfPhrase_25 ⟨Nat.le_of_ble_eq_true rfl, Nat.le_of_ble_eq_true rfl⟩) ?_
    refine lv_iload_n hx hb dX0_placeOfPhrase_28 rfl (lv_at hl 2 rfl) ?_
    refine rd_call (va_runS (As := [.long (pk (rw_ r a0 a1)), .int (iI ((c9 : Nat) : Int))]) (rest := [.ref o0]) ⟨hx, hb, hml, hown, hts⟩ (mX0_formWith l (pk (rw_ r a0 a1)) c9 (by omega)) (va_cwS 2 hts gX0_placeOfPhrase_X0_formWith rfl rfl rfl hdX0_formWith ⟨Nat.le_of_ble_eq_true rfl, Nat.le_of_ble_eq_true rfl⟩) tt_pre rfl rfl hl.1 rfl (lv_room (Nat.le_of_ble_eq_true rfl)) dX0_placeOfPhrase_29 ⟨Nat.le_of_ble_eq_true rfl, Nat.le_of_ble_eq_true rfl⟩) ?_
    refine st_l (y := pk (fm (rw_ r a0 a1) c9)) (fw_pk hR1 (by omega)) ?_
    refine rd_call (va_runV (As := [.long (pk (fm (rw_ r a0 a1) c9))]) (rest := []) ⟨hx, hb, hml, hown, hts⟩ (mX0_phraseBegin l dC dI o0 a0 a1 q w hp0 hp1 hw hq hqd (fm (rw_ r a0 a1) c9) hPf (by omega)) (cwV 1 hts gX0_placeOfPhrase_X0_phraseBegin rfl rfl rfl hvX0_phraseBegin ⟨Nat.le_of_ble_eq_true rfl, Nat.le_of_ble_eq_true rfl⟩) (bW_pre (ci := 0) (q0 := 0) hK hP rfl rfl rfl) rfl rfl hl.1 rfl (lv_room (Nat.le_of_ble_eq_true rfl)) dX0_placeOfPhrase_32 ⟨Nat.le_of_ble_eq_true rfl, Nat.le_of_ble_eq_true rfl⟩) ?_
    have hph_32 := phF_in (fm (rw_ r a0 a1) c9) q w
    refine st_i (y := iI (plF (rw_ r a0 a1) q c9 w)) (rfl) ?_
    refine st_i (y := iI (if w = 0 then -1 else plF (rw_ r a0 a1) q c9 w)) (congrArg iI (if_neg (by omega)).symm) ?_
    exact W.iret hx hb hr (fun t ht _ => ⟨rfl, ht⟩) (fun _ h => nomatch h) dX0_placeOfPhrase_35
  · skip
    refine ib_const hx hb dX0_placeOfPhrase_18 ?_
    refine lv_goto (tgt := 35) hx hb dX0_placeOfPhrase_19 (by decide) ?_
    refine st_i (y := iI (if w = 0 then -1 else plF (rw_ r a0 a1) q c9 w)) (congrArg iI (if_pos (by omega)).symm) ?_
    exact W.iret hx hb hr (fun t ht _ => ⟨rfl, ht⟩) (fun _ h => nomatch h) dX0_placeOfPhrase_35

set_option maxHeartbeats 4000000 in
set_option maxRecDepth 100000 in
theorem mX0_complete_ok (l : Launch) (dC : Nat → ClassId) (dI : Nat → Nat → Nat) (o0 : Nat) (a0 a1 q : Nat → Nat) (w : Nat) (hp0 : Pm a0) (hp1 : Pm a1) (hw : w ≤ 12) (hq : ∀ i, i < w → q i < 12) (hqd : ∀ i j, i < w → j < w → q i = q j → i = j) (r : Nat) (hr9 : r < 2) (G : Nat → Nat) (e12 : Nat) (he12 : e12 = 12) (hG : lt12 G) (hGe : pkn (cpK q (rw_ r a0 a1) (fun _ => 0) w e12) (cpC q (rw_ r a0 a1) w e12) = pk G) : wr l yX0_complete wsX0_complete { frames := 3, cells := 0, slots := 0, locals := 68 } [.ref o0, .int (iI ((r : Nat) : Int))] (dC, dI) [(o0, .inr (0, [.long (pk a0), .long (pk a1), .long (pkn q w), .int (iI ((w : Nat) : Int))]))] [] [(o0, .inr (0, [.long (pk (sr0 r G a0)), .long (pk (sr1 r G a1)), .long (pkn q w), .int (iI ((w : Nat) : Int))]))] (some (.int (iI ((G 0 : Nat) : Int)))) := by
  refine Met.ofW (cc := cX0_complete) (maxL := 9) (ret := (some .int)) (by decide) rfl ?_
  intro P0 e s m args below meth c s₁ B hml hv
  obtain ⟨rfl, hP, hK, hD0⟩ := hv
  have hx := B.exec
  have hb := B.bytes
  have hr := B.returns
  have hts := atoms_spec (ws := wsX0_complete) B.pre
  have hown : s.vm.findClass RX0 = some m.cls := findClass_of_methodNamed B.named
  have hlocks := B.notSynchronized
  have hinX : ∀ w ∈ u_ws RX0 TX0 4, w ∈ wsX0_complete := by decide +kernel
  have hD : va_D (inW [(o0, .inr (0, [.long (pk a0), .long (pk a1), .long (pkn q w), .int (iI ((w : Nat) : Int))]))]) [(o0, .inr (0, [.long (pk a0), .long (pk a1), .long (pkn q w), .int (iI ((w : Nat) : Int))]))] := va_D_in hD0
  have hS : va_S (inW [(o0, .inr (0, [.long (pk a0), .long (pk a1), .long (pkn q w), .int (iI ((w : Nat) : Int))]))]) s.heap s.heap [] := va_S.rf
  have hl := lv_entry ([.ref o0, .int (iI ((r : Nat) : Int))]) (n := 9) (Nat.le_of_ble_eq_true rfl)
  rw [lg_entry_eq]
  generalize (lg_sl ([.ref o0, .int (iI ((r : Nat) : Int))]) ++ List.replicate (9 - (lg_sl ([.ref o0, .int (iI ((r : Nat) : Int))])).length) Slot.unset).toArray = ls at hl ⊢
  have hl : lv_has ls 9 [(0, .ref o0), (1, .int (iI ((r : Nat) : Int)))] := hl
  have hR := rw_Pm hp0 hp1 r
  have hR1 := hR.1
  have hF := hG
  refine lv_iload_n hx hb dX0_complete_0 rfl (lv_at hl 1 rfl) ?_
  refine rd_call (va_runS (As := [.int (iI ((r : Nat) : Int))]) (rest := []) ⟨hx, hb, hml, hown, hts⟩ (mX0_requireRow l ((r : Nat) : Int) ⟨by omega, by omega⟩ (by omega)) (va_cwS 1 hts gX0_complete_X0_requireRow rfl rfl rfl hdX0_requireRow ⟨Nat.le_of_ble_eq_true rfl, Nat.le_of_ble_eq_true rfl⟩) tt_pre rfl rfl hl.1 rfl (lv_room (Nat.le_of_ble_eq_true rfl)) dX0_complete_1 ⟨Nat.le_of_ble_eq_true rfl, Nat.le_of_ble_eq_true rfl⟩) ?_
  refine lv_aload_n hx hb dX0_complete_4 rfl (lv_at hl 0 rfl) ?_
  refine lv_iload_n hx hb dX0_complete_5 rfl (lv_at hl 1 rfl) ?_
  refine rd_call (va_runV (As := [.int (iI ((r : Nat) : Int))]) (rest := []) ⟨hx, hb, hml, hown, hts⟩ (mX0_rowAt l dC dI o0 a0 a1 q w hp0 hp1 hw hq hqd r (by omega)) (cwV 1 hts gX0_complete_X0_rowAt rfl rfl rfl hvX0_rowAt ⟨Nat.le_of_ble_eq_true rfl, Nat.le_of_ble_eq_true rfl⟩) (bW_pre (ci := 0) (q0 := 0) hK hP rfl rfl rfl) rfl rfl hl.1 rfl (lv_room (Nat.le_of_ble_eq_true rfl)) dX0_complete_6 ⟨Nat.le_of_ble_eq_true rfl, Nat.le_of_ble_eq_true rfl⟩) ?_
  refine lv_lstore_n (lv' := [(2, .long (pk (rw_ r a0 a1))), (0, .ref o0), (1, .int (iI ((r : Nat) : Int)))]) hx hb dX0_complete_9 rfl hl (by decide) rfl (fun ls hl => ?_)
  refine lv_aload_n hx hb dX0_complete_10 rfl (lv_at hl 1 rfl) ?_
  refine va_get (D := (dC, dI)) (ci := 0) (v := .long (pkn q w)) (C := RX0) (T := TX0) (N := 4) hx hb hts hinX hown hK hP 0 rfl rfl 2 (by decide) (hts (.fieldLink RX0 114 "ToneRows" "phrase" "J") (by decide +kernel)) (fun _ h9 => h9) rfl dX0_complete_11 ?_
  refine lv_lstore (lv' := [(4, .long (pkn q w)), (2, .long (pk (rw_ r a0 a1))), (0, .ref o0), (1, .int (iI ((r : Nat) : Int)))]) hx hb dX0_complete_14 hl (by decide) rfl (fun ls hl => ?_)
  refine lv_aload_n hx hb dX0_complete_16 rfl (lv_at hl 2 rfl) ?_
  refine va_get (D := (dC, dI)) (ci := 0) (v := .int (iI ((w : Nat) : Int))) (C := RX0) (T := TX0) (N := 4) hx hb hts hinX hown hK hP 0 rfl rfl 3 (by decide) (hts (.fieldLink RX0 117 "ToneRows" "phraseLength" "I") (by decide +kernel)) (fun _ h9 => h9) rfl dX0_complete_17 ?_
  refine lv_istore (lv' := [(6, .int (iI ((w : Nat) : Int))), (4, .long (pkn q w)), (2, .long (pk (rw_ r a0 a1))), (0, .ref o0), (1, .int (iI ((r : Nat) : Int)))]) hx hb dX0_complete_20 hl (by decide) rfl (fun ls hl => ?_)
  have hl : lv_has ls 9 [(6, .int (iI ((cpC q (rw_ r a0 a1) w 0 : Nat) : Int))), (4, .long (pkn q w)), (2, .long (pk (rw_ r a0 a1))), (0, .ref o0), (1, .int (iI ((r : Nat) : Int)))] := by
    have e9 : iI ((w : Nat) : Int) = iI ((cpC q (rw_ r a0 a1) w 0 : Nat) : Int) := rfl
    rw [← e9]; exact hl
  have hl : lv_has ls 9 [(6, .int (iI ((cpC q (rw_ r a0 a1) w 0 : Nat) : Int))), (4, .long (pkn (cpK q (rw_ r a0 a1) (fun _ => 0) w 0) (cpC q (rw_ r a0 a1) w 0))), (2, .long (pk (rw_ r a0 a1))), (0, .ref o0), (1, .int (iI ((r : Nat) : Int)))] := by
    have e9 : pkn q w = pkn (cpK q (rw_ r a0 a1) (fun _ => 0) w 0) (cpC q (rw_ r a0 a1) w 0) := pkn_cg (fun i hi => (mx_in hi).symm)
    rw [← e9]; exact hl
  refine ib_const hx hb dX0_complete_22 ?_
  refine lv_istore (lv' := [(7, .int (iI 0)), (6, .int (iI ((cpC q (rw_ r a0 a1) w 0 : Nat) : Int))), (4, .long (pkn (cpK q (rw_ r a0 a1) (fun _ => 0) w 0) (cpC q (rw_ r a0 a1) w 0))), (2, .long (pk (rw_ r a0 a1))), (0, .ref o0), (1, .int (iI ((r : Nat) : Int)))]) hx hb dX0_complete_23 hl (by decide) rfl (fun ls hl => ?_)
  have lp_25_1 : ∀ (j n : Nat), n + j = 12 → ∀ ls : Array Slot, lv_has ls 9 [(0, .ref o0), (1, .int (iI ((r : Nat) : Int))), (2, .long (pk (rw_ r a0 a1))), (4, .long (pkn (cpK q (rw_ r a0 a1) (fun _ => 0) w n) (cpC q (rw_ r a0 a1) w n))), (6, .int (iI ((cpC q (rw_ r a0 a1) w n : Nat) : Int))), (7, .int (iI ((n : Nat) : Int)))] → W P0 l e (headSpec wsX0_complete { frames := 3, cells := 0, slots := 0, locals := 68 }).room s m ([.ref o0, .int (iI ((r : Nat) : Int))] : List Value).toArray below meth c s.heap [] 0 0 (MQ below (wrQ (dC, dI) (inW [(o0, .inr (0, [.long (pk a0), .long (pk a1), .long (pkn q w), .int (iI ((w : Nat) : Int))]))]) [(o0, .inr (0, [.long (pk (sr0 r G a0)), .long (pk (sr1 r G a1)), .long (pkn q w), .int (iI ((w : Nat) : Int))]))] (some (.int (iI ((G 0 : Nat) : Int))))) ([.ref o0, .int (iI ((r : Nat) : Int))] : List Value).toArray s 0 0 (inW [(o0, .inr (0, [.long (pk a0), .long (pk a1), .long (pkn q w), .int (iI ((w : Nat) : Int))]))])) (F0 m 25 ls []) := by
    intro j
    induction j with
    | zero =>
      intro n hn_25  ls hl
      have hcc := cpC_le q (rw_ r a0 a1) w n
      refine lv_iload hx hb dX0_complete_25 (lv_at hl 5 rfl) ?_
      refine ib_bi hx hb dX0_complete_27 (by decide) ?_
      refine ib_icmp_ge (tgt := 69) hx hb dX0_complete_29 (by decide) ⟨by omega, by omega⟩ ⟨by omega, by omega⟩ (fun c_29 => ?_) (fun c_29 => absurd c_29 (by omega))
      refine lv_aload_n hx hb dX0_complete_69 rfl (lv_at hl 0 rfl) ?_
      refine lv_iload_n hx hb dX0_complete_70 rfl (lv_at hl 1 rfl) ?_
      refine lv_lload hx hb dX0_complete_71 (lv_at hl 3 rfl) ?_
      refine st_l (y := pk G) (by rw [← hGe, show n = e12 by omega]) ?_
      refine wr_call (va_runV (As := [.int (iI ((r : Nat) : Int)), .long (pk G)]) (rest := []) ⟨hx, hb, hml, hown, hts⟩ (mX0_replaceRow l dC dI o0 a0 a1 q w hp0 hp1 hw hq hqd r (by omega) G hF) (cwV 2 hts gX0_complete_X0_replaceRow rfl rfl rfl hvX0_replaceRow ⟨Nat.le_of_ble_eq_true rfl, Nat.le_of_ble_eq_true rfl⟩) (bD_pre (ci := 0) (q0 := 0) hK hP hD rfl rfl rfl) rfl rfl hl.1 rfl (lv_room (Nat.le_of_ble_eq_true rfl)) dX0_complete_73 ⟨Nat.le_of_ble_eq_true rfl, Nat.le_of_ble_eq_true rfl⟩) hS (fun q9 h => inW_same (w := [(o0, .inr (0, [.long (pk a0), .long (pk a1), .long (pkn q w), .int (iI ((w : Nat) : Int))]))]) (w' := [(o0, .inr (0, [.long (pk a0), .long (pk a1), .long (pkn q w), .int (iI ((w : Nat) : Int))]))]) (Eq.trans (b := [o0]) rfl rfl) h) (fun H locs hP hz hk hS => ?_)
      have hD : va_D (inW [(o0, .inr (0, [.long (pk a0), .long (pk a1), .long (pkn q w), .int (iI ((w : Nat) : Int))]))]) [(o0, .inr (0, [.long (pk (sr0 r G a0)), .long (pk (sr1 r G a1)), .long (pkn q w), .int (iI ((w : Nat) : Int))]))] := va_D_same (w := [(o0, .inr (0, [.long (pk a0), .long (pk a1), .long (pkn q w), .int (iI ((w : Nat) : Int))]))]) (Eq.trans (b := [o0]) rfl rfl) hD
      exact W.iret hx hb hr (fun t ht _ => ⟨rfl, by rw [ht]; exact hP, hS.F ht⟩) hS.2.2 dX0_complete_76
    | succ j ih_25_1 =>
      intro n hn_25  ls hl
      have hcc := cpC_le q (rw_ r a0 a1) w n
      refine lv_iload hx hb dX0_complete_25 (lv_at hl 5 rfl) ?_
      refine ib_bi hx hb dX0_complete_27 (by decide) ?_
      refine ib_icmp_ge (tgt := 69) hx hb dX0_complete_29 (by decide) ⟨by omega, by omega⟩ ⟨by omega, by omega⟩ (fun c_29 => absurd c_29 (by omega)) (fun c_29 => ?_)
      refine lv_lload_n hx hb dX0_complete_32 rfl (lv_at hl 2 rfl) ?_
      refine lv_iload hx hb dX0_complete_33 (lv_at hl 5 rfl) ?_
      refine rd_call (va_runS (As := [.long (pk (rw_ r a0 a1)), .int (iI ((n : Nat) : Int))]) (rest := []) ⟨hx, hb, hml, hown, hts⟩ (mX0_entryAt l (pk (rw_ r a0 a1)) n (by omega)) (va_cwS 2 hts gX0_complete_X0_entryAt rfl rfl rfl hdX0_entryAt ⟨Nat.le_of_ble_eq_true rfl, Nat.le_of_ble_eq_true rfl⟩) tt_pre rfl rfl hl.1 rfl (lv_room (Nat.le_of_ble_eq_true rfl)) dX0_complete_35 ⟨Nat.le_of_ble_eq_true rfl, Nat.le_of_ble_eq_true rfl⟩) ?_
      have he_35 := ent_lt (pk (rw_ r a0 a1)) n
      refine st_i (y := iI ((rw_ r a0 a1 n : Nat) : Int)) (congrArg (fun z : Nat => iI ((z : Nat) : Int)) (ent_pk hR1 (by omega))) ?_
      have hRn := hR1 n (by omega)
      refine lv_istore (lv' := [(8, .int (iI ((rw_ r a0 a1 n : Nat) : Int))), (0, .ref o0), (1, .int (iI ((r : Nat) : Int))), (2, .long (pk (rw_ r a0 a1))), (4, .long (pkn (cpK q (rw_ r a0 a1) (fun _ => 0) w n) (cpC q (rw_ r a0 a1) w n))), (6, .int (iI ((cpC q (rw_ r a0 a1) w n : Nat) : Int))), (7, .int (iI ((n : Nat) : Int)))]) hx hb dX0_complete_38 hl (by decide) rfl (fun ls hl => ?_)
      refine lv_aload_n hx hb dX0_complete_40 rfl (lv_at hl 1 rfl) ?_
      refine lv_iload hx hb dX0_complete_41 (lv_at hl 0 rfl) ?_
      refine rd_call (va_runV (As := [.int (iI ((rw_ r a0 a1 n : Nat) : Int))]) (rest := []) ⟨hx, hb, hml, hown, hts⟩ (mX0_phraseHas l dC dI o0 a0 a1 q w hp0 hp1 hw hq hqd (rw_ r a0 a1 n) (by omega)) (cwV 1 hts gX0_complete_X0_phraseHas rfl rfl rfl hvX0_phraseHas ⟨Nat.le_of_ble_eq_true rfl, Nat.le_of_ble_eq_true rfl⟩) (bW_pre (ci := 0) (q0 := 0) hK hP rfl rfl rfl) rfl rfl hl.1 rfl (lv_room (Nat.le_of_ble_eq_true rfl)) dX0_complete_43 ⟨Nat.le_of_ble_eq_true rfl, Nat.le_of_ble_eq_true rfl⟩) ?_
      refine bb_ne (tgt := 63) hx hb dX0_complete_46 (by decide) (fun c_46 => ?_) (fun c_46 => ?_)
      · skip
        refine lv_iinc (v := iI ((n + 1 : Nat) : Int)) (lv' := [(7, .int (iI ((n + 1 : Nat) : Int))), (8, .int (iI ((rw_ r a0 a1 n : Nat) : Int))), (0, .ref o0), (1, .int (iI ((r : Nat) : Int))), (2, .long (pk (rw_ r a0 a1))), (4, .long (pkn (cpK q (rw_ r a0 a1) (fun _ => 0) w n) (cpC q (rw_ r a0 a1) w n))), (6, .int (iI ((cpC q (rw_ r a0 a1) w n : Nat) : Int)))]) hx hb dX0_complete_63 hl (k := 6) rfl (iI_inc (by omega)) (by decide) rfl (fun ls hl => ?_)
        refine lv_goto (tgt := 25) hx hb dX0_complete_66 (by decide) ?_
        have hl : lv_has ls 9 [(7, .int (iI ((n + 1 : Nat) : Int))), (8, .int (iI ((rw_ r a0 a1 n : Nat) : Int))), (0, .ref o0), (1, .int (iI ((r : Nat) : Int))), (2, .long (pk (rw_ r a0 a1))), (4, .long (pkn (cpK q (rw_ r a0 a1) (fun _ => 0) w (n + 1)) (cpC q (rw_ r a0 a1) w (n + 1)))), (6, .int (iI ((cpC q (rw_ r a0 a1) w n : Nat) : Int)))] := by
          have e9 : pkn (cpK q (rw_ r a0 a1) (fun _ => 0) w n) (cpC q (rw_ r a0 a1) w n) = pkn (cpK q (rw_ r a0 a1) (fun _ => 0) w (n + 1)) (cpC q (rw_ r a0 a1) w (n + 1)) := cp_t c_46
          rw [← e9]; exact hl
        have hl : lv_has ls 9 [(7, .int (iI ((n + 1 : Nat) : Int))), (8, .int (iI ((rw_ r a0 a1 n : Nat) : Int))), (0, .ref o0), (1, .int (iI ((r : Nat) : Int))), (2, .long (pk (rw_ r a0 a1))), (4, .long (pkn (cpK q (rw_ r a0 a1) (fun _ => 0) w (n + 1)) (cpC q (rw_ r a0 a1) w (n + 1)))), (6, .int (iI ((cpC q (rw_ r a0 a1) w (n + 1) : Nat) : Int)))] := by
          have e9 : iI ((cpC q (rw_ r a0 a1) w n : Nat) : Int) = iI ((cpC q (rw_ r a0 a1) w (n + 1) : Nat) : Int) := congrArg (fun z : Nat => iI ((z : Nat) : Int)) (if_pos c_46).symm
          rw [← e9]; exact hl
        exact ih_25_1 (n + 1) (by omega)  _ (lv_sub hl [2, 3, 4, 5, 6, 0] rfl)
      · skip
        have hc12 := cpC_12 hR hw hq hqd (show n < 12 by omega) c_46
        refine lv_lload hx hb dX0_complete_49 (lv_at hl 4 rfl) ?_
        refine lv_iload hx hb dX0_complete_51 (lv_at hl 5 rfl) ?_
        refine lv_iload hx hb dX0_complete_53 (lv_at hl 0 rfl) ?_
        refine rd_call (va_runS (As := [.long (pkn (cpK q (rw_ r a0 a1) (fun _ => 0) w n) (cpC q (rw_ r a0 a1) w n)), .int (iI ((cpC q (rw_ r a0 a1) w n : Nat) : Int)), .int (iI ((rw_ r a0 a1 n : Nat) : Int))]) (rest := []) ⟨hx, hb, hml, hown, hts⟩ (mX0_withEntry l (pkn (cpK q (rw_ r a0 a1) (fun _ => 0) w n) (cpC q (rw_ r a0 a1) w n)) (cpC q (rw_ r a0 a1) w n) (rw_ r a0 a1 n) (by omega)) (va_cwS 3 hts gX0_complete_X0_withEntry rfl rfl rfl hdX0_withEntry ⟨Nat.le_of_ble_eq_true rfl, Nat.le_of_ble_eq_true rfl⟩) tt_pre rfl rfl hl.1 rfl (lv_room (Nat.le_of_ble_eq_true rfl)) dX0_complete_55 ⟨Nat.le_of_ble_eq_true rfl, Nat.le_of_ble_eq_true rfl⟩) ?_
        refine lv_lstore (lv' := [(4, .long (we (pkn (cpK q (rw_ r a0 a1) (fun _ => 0) w n) (cpC q (rw_ r a0 a1) w n)) (cpC q (rw_ r a0 a1) w n) (rw_ r a0 a1 n))), (8, .int (iI ((rw_ r a0 a1 n : Nat) : Int))), (0, .ref o0), (1, .int (iI ((r : Nat) : Int))), (2, .long (pk (rw_ r a0 a1))), (6, .int (iI ((cpC q (rw_ r a0 a1) w n : Nat) : Int))), (7, .int (iI ((n : Nat) : Int)))]) hx hb dX0_complete_58 hl (by decide) rfl (fun ls hl => ?_)
        refine lv_iinc (v := iI (((cpC q (rw_ r a0 a1) w n) + 1 : Nat) : Int)) (lv' := [(6, .int (iI (((cpC q (rw_ r a0 a1) w n) + 1 : Nat) : Int))), (4, .long (we (pkn (cpK q (rw_ r a0 a1) (fun _ => 0) w n) (cpC q (rw_ r a0 a1) w n)) (cpC q (rw_ r a0 a1) w n) (rw_ r a0 a1 n))), (8, .int (iI ((rw_ r a0 a1 n : Nat) : Int))), (0, .ref o0), (1, .int (iI ((r : Nat) : Int))), (2, .long (pk (rw_ r a0 a1))), (7, .int (iI ((n : Nat) : Int)))]) hx hb dX0_complete_60 hl (k := 5) rfl (iI_inc (by omega)) (by decide) rfl (fun ls hl => ?_)
        refine lv_iinc (v := iI ((n + 1 : Nat) : Int)) (lv' := [(7, .int (iI ((n + 1 : Nat) : Int))), (6, .int (iI (((cpC q (rw_ r a0 a1) w n) + 1 : Nat) : Int))), (4, .long (we (pkn (cpK q (rw_ r a0 a1) (fun _ => 0) w n) (cpC q (rw_ r a0 a1) w n)) (cpC q (rw_ r a0 a1) w n) (rw_ r a0 a1 n))), (8, .int (iI ((rw_ r a0 a1 n : Nat) : Int))), (0, .ref o0), (1, .int (iI ((r : Nat) : Int))), (2, .long (pk (rw_ r a0 a1)))]) hx hb dX0_complete_63 hl (k := 6) rfl (iI_inc (by omega)) (by decide) rfl (fun ls hl => ?_)
        refine lv_goto (tgt := 25) hx hb dX0_complete_66 (by decide) ?_
        have hl : lv_has ls 9 [(7, .int (iI ((n + 1 : Nat) : Int))), (6, .int (iI (((cpC q (rw_ r a0 a1) w n) + 1 : Nat) : Int))), (4, .long (pkn (cpK q (rw_ r a0 a1) (fun _ => 0) w (n + 1)) (cpC q (rw_ r a0 a1) w (n + 1)))), (8, .int (iI ((rw_ r a0 a1 n : Nat) : Int))), (0, .ref o0), (1, .int (iI ((r : Nat) : Int))), (2, .long (pk (rw_ r a0 a1)))] := by
          have e9 : we (pkn (cpK q (rw_ r a0 a1) (fun _ => 0) w n) (cpC q (rw_ r a0 a1) w n)) (cpC q (rw_ r a0 a1) w n) (rw_ r a0 a1 n) = pkn (cpK q (rw_ r a0 a1) (fun _ => 0) w (n + 1)) (cpC q (rw_ r a0 a1) w (n + 1)) := cp_f c_46
          rw [← e9]; exact hl
        have hl : lv_has ls 9 [(7, .int (iI ((n + 1 : Nat) : Int))), (6, .int (iI ((cpC q (rw_ r a0 a1) w (n + 1) : Nat) : Int))), (4, .long (pkn (cpK q (rw_ r a0 a1) (fun _ => 0) w (n + 1)) (cpC q (rw_ r a0 a1) w (n + 1)))), (8, .int (iI ((rw_ r a0 a1 n : Nat) : Int))), (0, .ref o0), (1, .int (iI ((r : Nat) : Int))), (2, .long (pk (rw_ r a0 a1)))] := by
          have e9 : iI (((cpC q (rw_ r a0 a1) w n) + 1 : Nat) : Int) = iI ((cpC q (rw_ r a0 a1) w (n + 1) : Nat) : Int) := congrArg (fun z : Nat => iI ((z : Nat) : Int)) (if_neg c_46).symm
          rw [← e9]; exact hl
        exact ih_25_1 (n + 1) (by omega)  _ (lv_sub hl [4, 5, 6, 2, 1, 0] rfl)
  exact lp_25_1 12 0 (by omega)  _ (lv_sub hl [4, 5, 3, 2, 1, 0] rfl)
