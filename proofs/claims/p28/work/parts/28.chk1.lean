set_option maxHeartbeats 4000000 in
set_option maxRecDepth 100000 in
theorem mL_areAlike (l : Launch) (dC : Nat → ClassId) (dI : Nat → Nat → Nat) (o0 o1 : Nat) (a0 a1 q : Nat → Nat) (w : Nat) (hp0 : Pm a0) (hp1 : Pm a1) (hw : w ≤ 12) (hq : ∀ i, i < w → q i < 12) (hqd : ∀ i j, i < w → j < w → q i = q j → i = j) : rd l yL_areAlike wsL_areAlike { frames := 4, cells := 0, slots := 0, locals := 100 } [.ref o0, .ref o1] (bW (dC, dI) [(o0, .inr (0, [.long (pk a0), .long (pk a1), .long (pkn q w), .int (iI ((w : Nat) : Int))])), (o1, .inr (0, [.long (pk a0), .long (pk a1), .long (pkn q w), .int (iI ((w : Nat) : Int))]))] []) (some (.int (iI 1))) := by
  refine Met.ofW (cc := cL_areAlike) (maxL := 4) (ret := (some .boolean)) (by decide) rfl ?_
  intro P0 e s m args below meth c s₁ B hml hv
  obtain ⟨rfl, hP, hK⟩ := hv
  have hx := B.exec
  have hb := B.bytes
  have hr := B.returns
  have hts := atoms_spec (ws := wsL_areAlike) B.pre
  have hown : s.vm.findClass RL = some m.cls := findClass_of_methodNamed B.named
  have hlocks := B.notSynchronized
  have hl := lv_entry ([.ref o0, .ref o1]) (n := 4) (Nat.le_of_ble_eq_true rfl)
  rw [lg_entry_eq]
  generalize (lg_sl ([.ref o0, .ref o1]) ++ List.replicate (4 - (lg_sl ([.ref o0, .ref o1])).length) Slot.unset).toArray = ls at hl ⊢
  have hl : lv_has ls 4 [(0, .ref o0), (1, .ref o1)] := hl
  refine lv_aload_n hx hb dL_areAlike_0 rfl (lv_at hl 0 rfl) ?_
  refine ib_const hx hb dL_areAlike_1 ?_
  have hPc := hP.sub (ws' := [(o0, .inr (0, [.long (pk a0), .long (pk a1), .long (pkn q w), .int (iI ((w : Nat) : Int))]))]) [0] rfl
  refine rd_call (va_runV (As := [.int (iI 0)]) (rest := []) ⟨hx, hb, hml, hown, hts⟩ (mX0_formsWithPhrase_ok l dC dI o0 a0 a1 q w hp0 hp1 hw hq hqd 0 (by omega)) (cwV 1 hts gL_areAlike_X0_formsWithPhrase rfl rfl rfl hvX0_formsWithPhrase ⟨Nat.le_of_ble_eq_true rfl, Nat.le_of_ble_eq_true rfl⟩) (bW_pre (ci := 0) (q0 := 0) hK hPc rfl rfl rfl) rfl rfl hl.1 rfl (lv_room (Nat.le_of_ble_eq_true rfl)) dL_areAlike_2 ⟨Nat.le_of_ble_eq_true rfl, Nat.le_of_ble_eq_true rfl⟩) ?_
  refine lv_aload_n hx hb dL_areAlike_5 rfl (lv_at hl 1 rfl) ?_
  refine ib_const hx hb dL_areAlike_6 ?_
  have hPc := hP.sub (ws' := [(o1, .inr (0, [.long (pk a0), .long (pk a1), .long (pkn q w), .int (iI ((w : Nat) : Int))]))]) [1] rfl
  refine rd_call (va_runV (As := [.int (iI 0)]) (rest := [.long (fpL (rw_ 0 a0 a1) q w 48)]) ⟨hx, hb, hml, hown, hts⟩ (mX0_formsWithPhrase_ok l dC dI o1 a0 a1 q w hp0 hp1 hw hq hqd 0 (by omega)) (cwV 1 hts gL_areAlike_X0_formsWithPhrase rfl rfl rfl hvX0_formsWithPhrase ⟨Nat.le_of_ble_eq_true rfl, Nat.le_of_ble_eq_true rfl⟩) (bW_pre (ci := 0) (q0 := 0) hK hPc rfl rfl rfl) rfl rfl hl.1 rfl (lv_room (Nat.le_of_ble_eq_true rfl)) dL_areAlike_7 ⟨Nat.le_of_ble_eq_true rfl, Nat.le_of_ble_eq_true rfl⟩) ?_
  refine W.lcmp hx hb dL_areAlike_10 ?_
  refine bl_ne (tgt := 32) hx hb dL_areAlike_11 (by decide) (fun c_11 => absurd c_11 (fun h => h rfl)) (fun c_11 => ?_)
  refine lv_aload_n hx hb dL_areAlike_14 rfl (lv_at hl 0 rfl) ?_
  refine ib_const hx hb dL_areAlike_15 ?_
  have hPc := hP.sub (ws' := [(o0, .inr (0, [.long (pk a0), .long (pk a1), .long (pkn q w), .int (iI ((w : Nat) : Int))]))]) [0] rfl
  refine rd_call (va_runV (As := [.int (iI 1)]) (rest := []) ⟨hx, hb, hml, hown, hts⟩ (mX0_formsWithPhrase_ok l dC dI o0 a0 a1 q w hp0 hp1 hw hq hqd 1 (by omega)) (cwV 1 hts gL_areAlike_X0_formsWithPhrase rfl rfl rfl hvX0_formsWithPhrase ⟨Nat.le_of_ble_eq_true rfl, Nat.le_of_ble_eq_true rfl⟩) (bW_pre (ci := 0) (q0 := 0) hK hPc rfl rfl rfl) rfl rfl hl.1 rfl (lv_room (Nat.le_of_ble_eq_true rfl)) dL_areAlike_16 ⟨Nat.le_of_ble_eq_true rfl, Nat.le_of_ble_eq_true rfl⟩) ?_
  refine lv_aload_n hx hb dL_areAlike_19 rfl (lv_at hl 1 rfl) ?_
  refine ib_const hx hb dL_areAlike_20 ?_
  have hPc := hP.sub (ws' := [(o1, .inr (0, [.long (pk a0), .long (pk a1), .long (pkn q w), .int (iI ((w : Nat) : Int))]))]) [1] rfl
  refine rd_call (va_runV (As := [.int (iI 1)]) (rest := [.long (fpL (rw_ 1 a0 a1) q w 48)]) ⟨hx, hb, hml, hown, hts⟩ (mX0_formsWithPhrase_ok l dC dI o1 a0 a1 q w hp0 hp1 hw hq hqd 1 (by omega)) (cwV 1 hts gL_areAlike_X0_formsWithPhrase rfl rfl rfl hvX0_formsWithPhrase ⟨Nat.le_of_ble_eq_true rfl, Nat.le_of_ble_eq_true rfl⟩) (bW_pre (ci := 0) (q0 := 0) hK hPc rfl rfl rfl) rfl rfl hl.1 rfl (lv_room (Nat.le_of_ble_eq_true rfl)) dL_areAlike_21 ⟨Nat.le_of_ble_eq_true rfl, Nat.le_of_ble_eq_true rfl⟩) ?_
  refine W.lcmp hx hb dL_areAlike_24 ?_
  refine bl_ne (tgt := 32) hx hb dL_areAlike_25 (by decide) (fun c_25 => absurd c_25 (fun h => h rfl)) (fun c_25 => ?_)
  refine ib_const hx hb dL_areAlike_28 ?_
  refine lv_goto (tgt := 33) hx hb dL_areAlike_29 (by decide) ?_
  refine lv_istore_n (lv' := [(2, .int (iI 1)), (0, .ref o0), (1, .ref o1)]) hx hb dL_areAlike_33 rfl hl (by decide) rfl (fun ls hl => ?_)
  refine ib_const hx hb dL_areAlike_34 ?_
  refine lv_istore_n (lv' := [(3, .int (iI 0)), (2, .int (iI 1)), (0, .ref o0), (1, .ref o1)]) hx hb dL_areAlike_35 rfl hl (by decide) rfl (fun ls hl => ?_)
  have lp_36_1 : ∀ (j n : Nat), n + j = 12 → ∀ ls : Array Slot, lv_has ls 4 [(0, .ref o0), (1, .ref o1), (2, .int (iI 1)), (3, .int (iI ((n : Nat) : Int)))] → W P0 l e (headSpec wsL_areAlike { frames := 4, cells := 0, slots := 0, locals := 100 }).room s m ([.ref o0, .ref o1] : List Value).toArray below meth c s.heap [] 0 0 (MQ below (rdQ (some (.int (iI 1)))) ([.ref o0, .ref o1] : List Value).toArray s 0 0 (fun _ => False)) (F0 m 36 ls []) := by
    intro j
    induction j with
    | zero =>
      intro n hn_36  ls hl
      refine lv_iload_n hx hb dL_areAlike_36 rfl (lv_at hl 3 rfl) ?_
      refine ib_bi hx hb dL_areAlike_37 (by decide) ?_
      refine ib_icmp_ge (tgt := 88) hx hb dL_areAlike_39 (by decide) ⟨by omega, by omega⟩ ⟨by omega, by omega⟩ (fun c_39 => ?_) (fun c_39 => absurd c_39 (by omega))
      refine lv_iload_n hx hb dL_areAlike_88 rfl (lv_at hl 2 rfl) ?_
      exact W.zret hx hb hr (nar_1) (fun t ht _ => ⟨rfl, ht⟩) (fun _ h => nomatch h) dL_areAlike_89
    | succ j ih_36_1 =>
      intro n hn_36  ls hl
      refine lv_iload_n hx hb dL_areAlike_36 rfl (lv_at hl 3 rfl) ?_
      refine ib_bi hx hb dL_areAlike_37 (by decide) ?_
      refine ib_icmp_ge (tgt := 88) hx hb dL_areAlike_39 (by decide) ⟨by omega, by omega⟩ ⟨by omega, by omega⟩ (fun c_39 => absurd c_39 (by omega)) (fun c_39 => ?_)
      refine lv_iload_n hx hb dL_areAlike_42 rfl (lv_at hl 2 rfl) ?_
      refine ib_if_eq (tgt := 88) hx hb dL_areAlike_43 (by decide) ⟨by omega, by omega⟩ (fun c_43 => absurd c_43 (by decide)) (fun c_43 => ?_)
      refine lv_aload_n hx hb dL_areAlike_46 rfl (lv_at hl 0 rfl) ?_
      refine ib_const hx hb dL_areAlike_47 ?_
      refine lv_iload_n hx hb dL_areAlike_48 rfl (lv_at hl 3 rfl) ?_
      have hPc := hP.sub (ws' := [(o0, .inr (0, [.long (pk a0), .long (pk a1), .long (pkn q w), .int (iI ((w : Nat) : Int))]))]) [0] rfl
      refine rd_call (va_runV (As := [.int (iI 0), .int (iI ((n : Nat) : Int))]) (rest := []) ⟨hx, hb, hml, hown, hts⟩ (mX0_tone_ok l dC dI o0 a0 a1 q w hp0 hp1 hw hq hqd 0 n (by omega) (by omega)) (cwV 2 hts gL_areAlike_X0_tone rfl rfl rfl hvX0_tone ⟨Nat.le_of_ble_eq_true rfl, Nat.le_of_ble_eq_true rfl⟩) (bW_pre (ci := 0) (q0 := 0) hK hPc rfl rfl rfl) rfl rfl hl.1 rfl (lv_room (Nat.le_of_ble_eq_true rfl)) dL_areAlike_49 ⟨Nat.le_of_ble_eq_true rfl, Nat.le_of_ble_eq_true rfl⟩) ?_
      have hf_49 := rw_lt hp0.1 hp1.1 0 (i := n) (by omega)
      refine lv_aload_n hx hb dL_areAlike_52 rfl (lv_at hl 1 rfl) ?_
      refine ib_const hx hb dL_areAlike_53 ?_
      refine lv_iload_n hx hb dL_areAlike_54 rfl (lv_at hl 3 rfl) ?_
      have hPc := hP.sub (ws' := [(o1, .inr (0, [.long (pk a0), .long (pk a1), .long (pkn q w), .int (iI ((w : Nat) : Int))]))]) [1] rfl
      refine rd_call (va_runV (As := [.int (iI 0), .int (iI ((n : Nat) : Int))]) (rest := [.int (iI ((rw_ 0 a0 a1 n : Nat) : Int))]) ⟨hx, hb, hml, hown, hts⟩ (mX0_tone_ok l dC dI o1 a0 a1 q w hp0 hp1 hw hq hqd 0 n (by omega) (by omega)) (cwV 2 hts gL_areAlike_X0_tone rfl rfl rfl hvX0_tone ⟨Nat.le_of_ble_eq_true rfl, Nat.le_of_ble_eq_true rfl⟩) (bW_pre (ci := 0) (q0 := 0) hK hPc rfl rfl rfl) rfl rfl hl.1 rfl (lv_room (Nat.le_of_ble_eq_true rfl)) dL_areAlike_55 ⟨Nat.le_of_ble_eq_true rfl, Nat.le_of_ble_eq_true rfl⟩) ?_
      have hf_55 := rw_lt hp0.1 hp1.1 0 (i := n) (by omega)
      refine ib_icmp_ne (tgt := 80) hx hb dL_areAlike_58 (by decide) ⟨by omega, by omega⟩ ⟨by omega, by omega⟩ (fun c_58 => absurd c_58 (fun h => h rfl)) (fun c_58 => ?_)
      refine lv_aload_n hx hb dL_areAlike_61 rfl (lv_at hl 0 rfl) ?_
      refine ib_const hx hb dL_areAlike_62 ?_
      refine lv_iload_n hx hb dL_areAlike_63 rfl (lv_at hl 3 rfl) ?_
      have hPc := hP.sub (ws' := [(o0, .inr (0, [.long (pk a0), .long (pk a1), .long (pkn q w), .int (iI ((w : Nat) : Int))]))]) [0] rfl
      refine rd_call (va_runV (As := [.int (iI 1), .int (iI ((n : Nat) : Int))]) (rest := []) ⟨hx, hb, hml, hown, hts⟩ (mX0_tone_ok l dC dI o0 a0 a1 q w hp0 hp1 hw hq hqd 1 n (by omega) (by omega)) (cwV 2 hts gL_areAlike_X0_tone rfl rfl rfl hvX0_tone ⟨Nat.le_of_ble_eq_true rfl, Nat.le_of_ble_eq_true rfl⟩) (bW_pre (ci := 0) (q0 := 0) hK hPc rfl rfl rfl) rfl rfl hl.1 rfl (lv_room (Nat.le_of_ble_eq_true rfl)) dL_areAlike_64 ⟨Nat.le_of_ble_eq_true rfl, Nat.le_of_ble_eq_true rfl⟩) ?_
      have hf_64 := rw_lt hp0.1 hp1.1 1 (i := n) (by omega)
      refine lv_aload_n hx hb dL_areAlike_67 rfl (lv_at hl 1 rfl) ?_
      refine ib_const hx hb dL_areAlike_68 ?_
      refine lv_iload_n hx hb dL_areAlike_69 rfl (lv_at hl 3 rfl) ?_
      have hPc := hP.sub (ws' := [(o1, .inr (0, [.long (pk a0), .long (pk a1), .long (pkn q w), .int (iI ((w : Nat) : Int))]))]) [1] rfl
      refine rd_call (va_runV (As := [.int (iI 1), .int (iI ((n : Nat) : Int))]) (rest := [.int (iI ((rw_ 1 a0 a1 n : Nat) : Int))]) ⟨hx, hb, hml, hown, hts⟩ (mX0_tone_ok l dC dI o1 a0 a1 q w hp0 hp1 hw hq hqd 1 n (by omega) (by omega)) (cwV 2 hts gL_areAlike_X0_tone rfl rfl rfl hvX0_tone ⟨Nat.le_of_ble_eq_true rfl, Nat.le_of_ble_eq_true rfl⟩) (bW_pre (ci := 0) (q0 := 0) hK hPc rfl rfl rfl) rfl rfl hl.1 rfl (lv_room (Nat.le_of_ble_eq_true rfl)) dL_areAlike_70 ⟨Nat.le_of_ble_eq_true rfl, Nat.le_of_ble_eq_true rfl⟩) ?_
      have hf_70 := rw_lt hp0.1 hp1.1 1 (i := n) (by omega)
      refine ib_icmp_ne (tgt := 80) hx hb dL_areAlike_73 (by decide) ⟨by omega, by omega⟩ ⟨by omega, by omega⟩ (fun c_73 => absurd c_73 (fun h => h rfl)) (fun c_73 => ?_)
      refine ib_const hx hb dL_areAlike_76 ?_
      refine lv_goto (tgt := 81) hx hb dL_areAlike_77 (by decide) ?_
      refine lv_istore_n (lv' := [(2, .int (iI 1)), (0, .ref o0), (1, .ref o1), (3, .int (iI ((n : Nat) : Int)))]) hx hb dL_areAlike_81 rfl hl (by decide) rfl (fun ls hl => ?_)
      refine lv_iinc (v := iI ((n + 1 : Nat) : Int)) (lv' := [(3, .int (iI ((n + 1 : Nat) : Int))), (2, .int (iI 1)), (0, .ref o0), (1, .ref o1)]) hx hb dL_areAlike_82 hl (k := 3) rfl (iI_inc (by omega)) (by decide) rfl (fun ls hl => ?_)
      refine lv_goto (tgt := 36) hx hb dL_areAlike_85 (by decide) ?_
      exact ih_36_1 (n + 1) (by omega)  _ (lv_sub hl [2, 3, 1, 0] rfl)
  exact lp_36_1 12 0 (by omega)  _ (lv_sub hl [2, 3, 1, 0] rfl)

set_option maxHeartbeats 4000000 in
set_option maxRecDepth 100000 in
theorem mL_isRowSo (l : Launch) (dC : Nat → ClassId) (dI : Nat → Nat → Nat) (o0 : Nat) (a0 a1 q : Nat → Nat) (w : Nat) (hp0 : Pm a0) (hp1 : Pm a1) (hw : w ≤ 12) (hq : ∀ i, i < w → q i < 12) (hqd : ∀ i j, i < w → j < w → q i = q j → i = j) (r ix : Nat) (hr9 : r < 2) (hix : ix < 12) : rd l yL_isRowSo wsL_isRowSo { frames := 5, cells := 0, slots := 0, locals := 114 } [.ref o0, .int (iI ((r : Nat) : Int)), .int (iI ((ix : Nat) : Int))] (bW (dC, dI) [(o0, .inr (0, [.long (pk a0), .long (pk a1), .long (pkn q w), .int (iI ((w : Nat) : Int))]))] []) (some (.int (iI 1))) := by
  refine Met.ofW (cc := cL_isRowSo) (maxL := 9) (ret := (some .boolean)) (by decide) rfl ?_
  intro P0 e s m args below meth c s₁ B hml hv
  obtain ⟨rfl, hP, hK⟩ := hv
  have hx := B.exec
  have hb := B.bytes
  have hr := B.returns
  have hts := atoms_spec (ws := wsL_isRowSo) B.pre
  have hown : s.vm.findClass RL = some m.cls := findClass_of_methodNamed B.named
  have hlocks := B.notSynchronized
  have hl := lv_entry ([.ref o0, .int (iI ((r : Nat) : Int)), .int (iI ((ix : Nat) : Int))]) (n := 9) (Nat.le_of_ble_eq_true rfl)
  rw [lg_entry_eq]
  generalize (lg_sl ([.ref o0, .int (iI ((r : Nat) : Int)), .int (iI ((ix : Nat) : Int))]) ++ List.replicate (9 - (lg_sl ([.ref o0, .int (iI ((r : Nat) : Int)), .int (iI ((ix : Nat) : Int))])).length) Slot.unset).toArray = ls at hl ⊢
  have hl : lv_has ls 9 [(0, .ref o0), (1, .int (iI ((r : Nat) : Int))), (2, .int (iI ((ix : Nat) : Int)))] := hl
  have hR := rw_Pm hp0 hp1 r
  have hdf := rs_df hR
  have hd1 := rs_d1 (a := rw_ r a0 a1)
  have hd12 := rs_d12 (a := rw_ r a0 a1)
  refine ib_const hx hb dL_isRowSo_0 ?_
  refine lv_istore_n (lv' := [(3, .int (iI 0)), (0, .ref o0), (1, .int (iI ((r : Nat) : Int))), (2, .int (iI ((ix : Nat) : Int)))]) hx hb dL_isRowSo_1 rfl hl (by decide) rfl (fun ls hl => ?_)
  refine ib_const hx hb dL_isRowSo_2 ?_
  refine lv_istore (lv' := [(4, .int (iI 0)), (3, .int (iI 0)), (0, .ref o0), (1, .int (iI ((r : Nat) : Int))), (2, .int (iI ((ix : Nat) : Int)))]) hx hb dL_isRowSo_3 hl (by decide) rfl (fun ls hl => ?_)
  have lp_5_1 : ∀ (j n : Nat), n + j = 12 → ∀ ls : Array Slot, lv_has ls 9 [(0, .ref o0), (1, .int (iI ((r : Nat) : Int))), (2, .int (iI ((ix : Nat) : Int))), (3, .int (iI ((setF (rw_ r a0 a1) 0 n : Nat) : Int))), (4, .int (iI ((n : Nat) : Int)))] → W P0 l e (headSpec wsL_isRowSo { frames := 5, cells := 0, slots := 0, locals := 114 }).room s m ([.ref o0, .int (iI ((r : Nat) : Int)), .int (iI ((ix : Nat) : Int))] : List Value).toArray below meth c s.heap [] 0 0 (MQ below (rdQ (some (.int (iI 1)))) ([.ref o0, .int (iI ((r : Nat) : Int)), .int (iI ((ix : Nat) : Int))] : List Value).toArray s 0 0 (fun _ => False)) (F0 m 5 ls []) := by
    intro j
    induction j with
    | zero =>
      intro n hn_5  ls hl
      have hsl := rs_lt hR (show n ≤ 12 by omega)
      have hs9 := rs_all hR (show n = 12 by omega)
      refine lv_iload hx hb dL_isRowSo_5 (lv_at hl 4 rfl) ?_
      refine ib_bi hx hb dL_isRowSo_7 (by decide) ?_
      refine ib_icmp_ge (tgt := 275) hx hb dL_isRowSo_9 (by decide) ⟨by omega, by omega⟩ ⟨by omega, by omega⟩ (fun c_9 => ?_) (fun c_9 => absurd c_9 (by omega))
      refine lv_aload_n hx hb dL_isRowSo_275 rfl (lv_at hl 0 rfl) ?_
      refine lv_iload_n hx hb dL_isRowSo_276 rfl (lv_at hl 1 rfl) ?_
      refine rd_call (va_runV (As := [.int (iI ((r : Nat) : Int))]) (rest := []) ⟨hx, hb, hml, hown, hts⟩ (mX0_differentForms_ok l dC dI o0 a0 a1 q w hp0 hp1 hw hq hqd r (by omega)) (cwV 1 hts gL_isRowSo_X0_differentForms rfl rfl rfl hvX0_differentForms ⟨Nat.le_of_ble_eq_true rfl, Nat.le_of_ble_eq_true rfl⟩) (bW_pre (ci := 0) (q0 := 0) hK hP rfl rfl rfl) rfl rfl hl.1 rfl (lv_room (Nat.le_of_ble_eq_true rfl)) dL_isRowSo_277 ⟨Nat.le_of_ble_eq_true rfl, Nat.le_of_ble_eq_true rfl⟩) ?_
      have hf_277 := dfN_le (rw_ r a0 a1) 48
      refine lv_istore (lv' := [(4, .int (iI ((dfN (rw_ r a0 a1) 48 : Nat) : Int))), (0, .ref o0), (1, .int (iI ((r : Nat) : Int))), (2, .int (iI ((ix : Nat) : Int))), (3, .int (iI ((setF (rw_ r a0 a1) 0 n : Nat) : Int)))]) hx hb dL_isRowSo_280 hl (by decide) rfl (fun ls hl => ?_)
      refine lv_iload_n hx hb dL_isRowSo_282 rfl (lv_at hl 4 rfl) ?_
      refine ib_si hx hb dL_isRowSo_283 (by decide) ?_
      refine ib_icmp_ne (tgt := 345) hx hb dL_isRowSo_286 (by decide) ⟨by omega, by omega⟩ ⟨by omega, by omega⟩ (fun c_286 => absurd c_286 (by omega)) (fun c_286 => ?_)
      refine lv_iload hx hb dL_isRowSo_289 (lv_at hl 0 rfl) ?_
      refine ib_bi hx hb dL_isRowSo_291 (by decide) ?_
      refine ib_icmp_eq (tgt := 303) hx hb dL_isRowSo_293 (by decide) ⟨by omega, by omega⟩ ⟨by omega, by omega⟩ (fun c_293 => ?_) (fun c_293 => ?_)
      · skip
        refine lv_aload_n hx hb dL_isRowSo_303 rfl (lv_at hl 1 rfl) ?_
        refine lv_iload_n hx hb dL_isRowSo_304 rfl (lv_at hl 2 rfl) ?_
        refine ib_const hx hb dL_isRowSo_305 ?_
        refine rd_call (va_runV (As := [.int (iI ((r : Nat) : Int)), .int (iI 1)]) (rest := []) ⟨hx, hb, hml, hown, hts⟩ (mX0_isDerived_ok1 l dC dI o0 a0 a1 q w hp0 hp1 hw hq hqd r (by omega)) (cwV 2 hts gL_isRowSo_X0_isDerived rfl rfl rfl hvX0_isDerived ⟨Nat.le_of_ble_eq_true rfl, Nat.le_of_ble_eq_true rfl⟩) (bW_pre (ci := 0) (q0 := 0) hK hP rfl rfl rfl) rfl rfl hl.1 rfl (lv_room (Nat.le_of_ble_eq_true rfl)) dL_isRowSo_306 ⟨Nat.le_of_ble_eq_true rfl, Nat.le_of_ble_eq_true rfl⟩) ?_
        refine bb_eq (tgt := 345) hx hb dL_isRowSo_309 (by decide) (fun c_309 => absurd c_309 (fun h => h hd1)) (fun c_309 => ?_)
        refine lv_aload_n hx hb dL_isRowSo_312 rfl (lv_at hl 1 rfl) ?_
        refine lv_iload_n hx hb dL_isRowSo_313 rfl (lv_at hl 2 rfl) ?_
        refine ib_bi hx hb dL_isRowSo_314 (by decide) ?_
        refine rd_call (va_runV (As := [.int (iI ((r : Nat) : Int)), .int (iI 12)]) (rest := []) ⟨hx, hb, hml, hown, hts⟩ (mX0_isDerived_ok12 l dC dI o0 a0 a1 q w hp0 hp1 hw hq hqd r (by omega)) (cwV 2 hts gL_isRowSo_X0_isDerived rfl rfl rfl hvX0_isDerived ⟨Nat.le_of_ble_eq_true rfl, Nat.le_of_ble_eq_true rfl⟩) (bW_pre (ci := 0) (q0 := 0) hK hP rfl rfl rfl) rfl rfl hl.1 rfl (lv_room (Nat.le_of_ble_eq_true rfl)) dL_isRowSo_316 ⟨Nat.le_of_ble_eq_true rfl, Nat.le_of_ble_eq_true rfl⟩) ?_
        refine bb_eq (tgt := 345) hx hb dL_isRowSo_319 (by decide) (fun c_319 => absurd c_319 (fun h => h hd12)) (fun c_319 => ?_)
        refine lv_aload_n hx hb dL_isRowSo_322 rfl (lv_at hl 1 rfl) ?_
        refine lv_iload_n hx hb dL_isRowSo_323 rfl (lv_at hl 2 rfl) ?_
        refine rd_call (va_runV (As := [.int (iI ((r : Nat) : Int))]) (rest := []) ⟨hx, hb, hml, hown, hts⟩ (mX0_combining_ok l dC dI o0 a0 a1 q w hp0 hp1 hw hq hqd r (by omega)) (cwV 1 hts gL_isRowSo_X0_combining rfl rfl rfl hvX0_combining ⟨Nat.le_of_ble_eq_true rfl, Nat.le_of_ble_eq_true rfl⟩) (bW_pre (ci := 0) (q0 := 0) hK hP rfl rfl rfl) rfl rfl hl.1 rfl (lv_room (Nat.le_of_ble_eq_true rfl)) dL_isRowSo_324 ⟨Nat.le_of_ble_eq_true rfl, Nat.le_of_ble_eq_true rfl⟩) ?_
        refine lv_aload_n hx hb dL_isRowSo_327 rfl (lv_at hl 1 rfl) ?_
        refine lv_iload_n hx hb dL_isRowSo_328 rfl (lv_at hl 2 rfl) ?_
        refine ib_const hx hb dL_isRowSo_329 ?_
        refine rd_call (va_runV (As := [.int (iI ((r : Nat) : Int)), .int (iI 0)]) (rest := [.long (cmL (rw_ r a0 a1) 48)]) ⟨hx, hb, hml, hown, hts⟩ (mX0_tone_ok l dC dI o0 a0 a1 q w hp0 hp1 hw hq hqd r 0 (by omega) (by omega)) (cwV 2 hts gL_isRowSo_X0_tone rfl rfl rfl hvX0_tone ⟨Nat.le_of_ble_eq_true rfl, Nat.le_of_ble_eq_true rfl⟩) (bW_pre (ci := 0) (q0 := 0) hK hP rfl rfl rfl) rfl rfl hl.1 rfl (lv_room (Nat.le_of_ble_eq_true rfl)) dL_isRowSo_330 ⟨Nat.le_of_ble_eq_true rfl, Nat.le_of_ble_eq_true rfl⟩) ?_
        have hf_330 := rw_lt hp0.1 hp1.1 r (i := 0) (by omega)
        refine lv_lshr hx hb dL_isRowSo_333 rfl ?_
        refine lv_lconst (v := 1) hx hb dL_isRowSo_334 (by decide) ?_
        refine lv_land hx hb dL_isRowSo_335 ?_
        refine st_l (y := (0 : Int64)) (rs_cm hR) ?_
        refine lv_lconst (v := 0) hx hb dL_isRowSo_336 (by decide) ?_
        refine W.lcmp hx hb dL_isRowSo_337 ?_
        refine bl_ne (tgt := 345) hx hb dL_isRowSo_338 (by decide) (fun c_338 => absurd c_338 (fun h => h rfl)) (fun c_338 => ?_)
        refine ib_const hx hb dL_isRowSo_341 ?_
        refine lv_goto (tgt := 346) hx hb dL_isRowSo_342 (by decide) ?_
        exact W.zret hx hb hr (nar_1) (fun t ht _ => ⟨rfl, ht⟩) (fun _ h => nomatch h) dL_isRowSo_346
      · skip
        refine lv_iload hx hb dL_isRowSo_296 (lv_at hl 0 rfl) ?_
        refine ib_bi hx hb dL_isRowSo_298 (by decide) ?_
        refine ib_icmp_ne (tgt := 345) hx hb dL_isRowSo_300 (by decide) ⟨by omega, by omega⟩ ⟨by omega, by omega⟩ (fun c_300 => absurd c_300 (by omega)) (fun c_300 => ?_)
        refine lv_aload_n hx hb dL_isRowSo_303 rfl (lv_at hl 1 rfl) ?_
        refine lv_iload_n hx hb dL_isRowSo_304 rfl (lv_at hl 2 rfl) ?_
        refine ib_const hx hb dL_isRowSo_305 ?_
        refine rd_call (va_runV (As := [.int (iI ((r : Nat) : Int)), .int (iI 1)]) (rest := []) ⟨hx, hb, hml, hown, hts⟩ (mX0_isDerived_ok1 l dC dI o0 a0 a1 q w hp0 hp1 hw hq hqd r (by omega)) (cwV 2 hts gL_isRowSo_X0_isDerived rfl rfl rfl hvX0_isDerived ⟨Nat.le_of_ble_eq_true rfl, Nat.le_of_ble_eq_true rfl⟩) (bW_pre (ci := 0) (q0 := 0) hK hP rfl rfl rfl) rfl rfl hl.1 rfl (lv_room (Nat.le_of_ble_eq_true rfl)) dL_isRowSo_306 ⟨Nat.le_of_ble_eq_true rfl, Nat.le_of_ble_eq_true rfl⟩) ?_
        refine bb_eq (tgt := 345) hx hb dL_isRowSo_309 (by decide) (fun c_309 => absurd c_309 (fun h => h hd1)) (fun c_309 => ?_)
        refine lv_aload_n hx hb dL_isRowSo_312 rfl (lv_at hl 1 rfl) ?_
        refine lv_iload_n hx hb dL_isRowSo_313 rfl (lv_at hl 2 rfl) ?_
        refine ib_bi hx hb dL_isRowSo_314 (by decide) ?_
        refine rd_call (va_runV (As := [.int (iI ((r : Nat) : Int)), .int (iI 12)]) (rest := []) ⟨hx, hb, hml, hown, hts⟩ (mX0_isDerived_ok12 l dC dI o0 a0 a1 q w hp0 hp1 hw hq hqd r (by omega)) (cwV 2 hts gL_isRowSo_X0_isDerived rfl rfl rfl hvX0_isDerived ⟨Nat.le_of_ble_eq_true rfl, Nat.le_of_ble_eq_true rfl⟩) (bW_pre (ci := 0) (q0 := 0) hK hP rfl rfl rfl) rfl rfl hl.1 rfl (lv_room (Nat.le_of_ble_eq_true rfl)) dL_isRowSo_316 ⟨Nat.le_of_ble_eq_true rfl, Nat.le_of_ble_eq_true rfl⟩) ?_
        refine bb_eq (tgt := 345) hx hb dL_isRowSo_319 (by decide) (fun c_319 => absurd c_319 (fun h => h hd12)) (fun c_319 => ?_)
        refine lv_aload_n hx hb dL_isRowSo_322 rfl (lv_at hl 1 rfl) ?_
        refine lv_iload_n hx hb dL_isRowSo_323 rfl (lv_at hl 2 rfl) ?_
        refine rd_call (va_runV (As := [.int (iI ((r : Nat) : Int))]) (rest := []) ⟨hx, hb, hml, hown, hts⟩ (mX0_combining_ok l dC dI o0 a0 a1 q w hp0 hp1 hw hq hqd r (by omega)) (cwV 1 hts gL_isRowSo_X0_combining rfl rfl rfl hvX0_combining ⟨Nat.le_of_ble_eq_true rfl, Nat.le_of_ble_eq_true rfl⟩) (bW_pre (ci := 0) (q0 := 0) hK hP rfl rfl rfl) rfl rfl hl.1 rfl (lv_room (Nat.le_of_ble_eq_true rfl)) dL_isRowSo_324 ⟨Nat.le_of_ble_eq_true rfl, Nat.le_of_ble_eq_true rfl⟩) ?_
        refine lv_aload_n hx hb dL_isRowSo_327 rfl (lv_at hl 1 rfl) ?_
        refine lv_iload_n hx hb dL_isRowSo_328 rfl (lv_at hl 2 rfl) ?_
        refine ib_const hx hb dL_isRowSo_329 ?_
        refine rd_call (va_runV (As := [.int (iI ((r : Nat) : Int)), .int (iI 0)]) (rest := [.long (cmL (rw_ r a0 a1) 48)]) ⟨hx, hb, hml, hown, hts⟩ (mX0_tone_ok l dC dI o0 a0 a1 q w hp0 hp1 hw hq hqd r 0 (by omega) (by omega)) (cwV 2 hts gL_isRowSo_X0_tone rfl rfl rfl hvX0_tone ⟨Nat.le_of_ble_eq_true rfl, Nat.le_of_ble_eq_true rfl⟩) (bW_pre (ci := 0) (q0 := 0) hK hP rfl rfl rfl) rfl rfl hl.1 rfl (lv_room (Nat.le_of_ble_eq_true rfl)) dL_isRowSo_330 ⟨Nat.le_of_ble_eq_true rfl, Nat.le_of_ble_eq_true rfl⟩) ?_
        have hf_330 := rw_lt hp0.1 hp1.1 r (i := 0) (by omega)
        refine lv_lshr hx hb dL_isRowSo_333 rfl ?_
        refine lv_lconst (v := 1) hx hb dL_isRowSo_334 (by decide) ?_
        refine lv_land hx hb dL_isRowSo_335 ?_
        refine st_l (y := (0 : Int64)) (rs_cm hR) ?_
        refine lv_lconst (v := 0) hx hb dL_isRowSo_336 (by decide) ?_
        refine W.lcmp hx hb dL_isRowSo_337 ?_
        refine bl_ne (tgt := 345) hx hb dL_isRowSo_338 (by decide) (fun c_338 => absurd c_338 (fun h => h rfl)) (fun c_338 => ?_)
        refine ib_const hx hb dL_isRowSo_341 ?_
        refine lv_goto (tgt := 346) hx hb dL_isRowSo_342 (by decide) ?_
        exact W.zret hx hb hr (nar_1) (fun t ht _ => ⟨rfl, ht⟩) (fun _ h => nomatch h) dL_isRowSo_346
    | succ j ih_5_1 =>
      intro n hn_5  ls hl
      have hsl := rs_lt hR (show n ≤ 12 by omega)
      refine lv_iload hx hb dL_isRowSo_5 (lv_at hl 4 rfl) ?_
      refine ib_bi hx hb dL_isRowSo_7 (by decide) ?_
      refine ib_icmp_ge (tgt := 275) hx hb dL_isRowSo_9 (by decide) ⟨by omega, by omega⟩ ⟨by omega, by omega⟩ (fun c_9 => absurd c_9 (by omega)) (fun c_9 => ?_)
      have hn12 : n < 12 := by omega
      have fA := rs_A hR hix hn12
      have fB := rs_B (a := rw_ r a0 a1) hix hn12
      have fC := rs_C (a := rw_ r a0 a1) hix hn12
      have fD := rs_D hR hn12
      have fE := rs_E hR hn12
      have fF := rs_F hR hn12
      have fG := rs_G hR hix hn12
      have fI := rs_I hR hn12
      refine lv_aload_n hx hb dL_isRowSo_12 rfl (lv_at hl 0 rfl) ?_
      refine lv_iload_n hx hb dL_isRowSo_13 rfl (lv_at hl 1 rfl) ?_
      refine lv_iload hx hb dL_isRowSo_14 (lv_at hl 4 rfl) ?_
      refine rd_call (va_runV (As := [.int (iI ((r : Nat) : Int)), .int (iI ((n : Nat) : Int))]) (rest := []) ⟨hx, hb, hml, hown, hts⟩ (mX0_tone_ok l dC dI o0 a0 a1 q w hp0 hp1 hw hq hqd r n (by omega) (by omega)) (cwV 2 hts gL_isRowSo_X0_tone rfl rfl rfl hvX0_tone ⟨Nat.le_of_ble_eq_true rfl, Nat.le_of_ble_eq_true rfl⟩) (bW_pre (ci := 0) (q0 := 0) hK hP rfl rfl rfl) rfl rfl hl.1 rfl (lv_room (Nat.le_of_ble_eq_true rfl)) dL_isRowSo_16 ⟨Nat.le_of_ble_eq_true rfl, Nat.le_of_ble_eq_true rfl⟩) ?_
      have hf_16 := rw_lt hp0.1 hp1.1 r (i := n) (by omega)
      refine lv_istore (lv' := [(5, .int (iI ((rw_ r a0 a1 n : Nat) : Int))), (0, .ref o0), (1, .int (iI ((r : Nat) : Int))), (2, .int (iI ((ix : Nat) : Int))), (3, .int (iI ((setF (rw_ r a0 a1) 0 n : Nat) : Int))), (4, .int (iI ((n : Nat) : Int)))]) hx hb dL_isRowSo_19 hl (by decide) rfl (fun ls hl => ?_)
      refine lv_iload_n hx hb dL_isRowSo_21 rfl (lv_at hl 4 rfl) ?_
      refine ib_const hx hb dL_isRowSo_22 ?_
      refine lv_iload hx hb dL_isRowSo_23 (lv_at hl 0 rfl) ?_
      refine lv_ishl hx hb dL_isRowSo_25 ?_
      refine st_i (y := iI ((2 ^ rw_ r a0 a1 n : Nat) : Int)) (ir_shl1 (by omega)) ?_
      refine lv_ior hx hb dL_isRowSo_26 ?_
      refine st_i (y := iI ((setF (rw_ r a0 a1) 0 (n + 1) : Nat) : Int)) ((ir_or _ _).trans (congrArg (fun z : Nat => iI ((z : Nat) : Int)) (rs_s (rw_ r a0 a1) n))) ?_
      refine lv_istore_n (lv' := [(3, .int (iI ((setF (rw_ r a0 a1) 0 (n + 1) : Nat) : Int))), (5, .int (iI ((rw_ r a0 a1 n : Nat) : Int))), (0, .ref o0), (1, .int (iI ((r : Nat) : Int))), (2, .int (iI ((ix : Nat) : Int))), (4, .int (iI ((n : Nat) : Int)))]) hx hb dL_isRowSo_27 rfl hl (by decide) rfl (fun ls hl => ?_)
      refine lv_aload_n hx hb dL_isRowSo_28 rfl (lv_at hl 2 rfl) ?_
      refine lv_iload_n hx hb dL_isRowSo_29 rfl (lv_at hl 3 rfl) ?_
      refine ib_const hx hb dL_isRowSo_30 ?_
      refine lv_iload_n hx hb dL_isRowSo_31 rfl (lv_at hl 4 rfl) ?_
      refine lv_iload hx hb dL_isRowSo_32 (lv_at hl 5 rfl) ?_
      refine rd_call (va_runV (As := [.int (iI ((r : Nat) : Int)), .int (iI 0), .int (iI ((ix : Nat) : Int)), .int (iI ((n : Nat) : Int))]) (rest := []) ⟨hx, hb, hml, hown, hts⟩ (mX0_toneOf_ok l dC dI o0 a0 a1 q w hp0 hp1 hw hq hqd r 0 ix n (by omega) (by omega) (by omega) (by omega)) (cwV 4 hts gL_isRowSo_X0_toneOf rfl rfl rfl hvX0_toneOf ⟨Nat.le_of_ble_eq_true rfl, Nat.le_of_ble_eq_true rfl⟩) (bW_pre (ci := 0) (q0 := 0) hK hP rfl rfl rfl) rfl rfl hl.1 rfl (lv_room (Nat.le_of_ble_eq_true rfl)) dL_isRowSo_34 ⟨Nat.le_of_ble_eq_true rfl, Nat.le_of_ble_eq_true rfl⟩) ?_
      have hf_34 := fm_lt (rw_ r a0 a1) (12 * 0 + ix) n
      refine lv_istore (lv' := [(6, .int (iI ((fm (rw_ r a0 a1) (12 * 0 + ix) n : Nat) : Int))), (3, .int (iI ((setF (rw_ r a0 a1) 0 (n + 1) : Nat) : Int))), (5, .int (iI ((rw_ r a0 a1 n : Nat) : Int))), (0, .ref o0), (1, .int (iI ((r : Nat) : Int))), (2, .int (iI ((ix : Nat) : Int))), (4, .int (iI ((n : Nat) : Int)))]) hx hb dL_isRowSo_37 hl (by decide) rfl (fun ls hl => ?_)
      refine lv_aload_n hx hb dL_isRowSo_39 rfl (lv_at hl 3 rfl) ?_
      refine lv_iload_n hx hb dL_isRowSo_40 rfl (lv_at hl 4 rfl) ?_
      refine ib_const hx hb dL_isRowSo_41 ?_
      refine lv_iload_n hx hb dL_isRowSo_42 rfl (lv_at hl 5 rfl) ?_
      refine lv_iload hx hb dL_isRowSo_43 (lv_at hl 6 rfl) ?_
      refine rd_call (va_runV (As := [.int (iI ((r : Nat) : Int)), .int (iI 1), .int (iI ((ix : Nat) : Int)), .int (iI ((n : Nat) : Int))]) (rest := []) ⟨hx, hb, hml, hown, hts⟩ (mX0_toneOf_ok l dC dI o0 a0 a1 q w hp0 hp1 hw hq hqd r 1 ix n (by omega) (by omega) (by omega) (by omega)) (cwV 4 hts gL_isRowSo_X0_toneOf rfl rfl rfl hvX0_toneOf ⟨Nat.le_of_ble_eq_true rfl, Nat.le_of_ble_eq_true rfl⟩) (bW_pre (ci := 0) (q0 := 0) hK hP rfl rfl rfl) rfl rfl hl.1 rfl (lv_room (Nat.le_of_ble_eq_true rfl)) dL_isRowSo_45 ⟨Nat.le_of_ble_eq_true rfl, Nat.le_of_ble_eq_true rfl⟩) ?_
      have hf_45 := fm_lt (rw_ r a0 a1) (12 * 1 + ix) n
      refine lv_istore (lv' := [(7, .int (iI ((fm (rw_ r a0 a1) (12 * 1 + ix) n : Nat) : Int))), (6, .int (iI ((fm (rw_ r a0 a1) (12 * 0 + ix) n : Nat) : Int))), (3, .int (iI ((setF (rw_ r a0 a1) 0 (n + 1) : Nat) : Int))), (5, .int (iI ((rw_ r a0 a1 n : Nat) : Int))), (0, .ref o0), (1, .int (iI ((r : Nat) : Int))), (2, .int (iI ((ix : Nat) : Int))), (4, .int (iI ((n : Nat) : Int)))]) hx hb dL_isRowSo_48 hl (by decide) rfl (fun ls hl => ?_)
      refine lv_iload hx hb dL_isRowSo_50 (lv_at hl 1 rfl) ?_
      refine lv_iload hx hb dL_isRowSo_52 (lv_at hl 0 rfl) ?_
      refine ib_add (z := (((fm (rw_ r a0 a1) (12 * 0 + ix) n) + (fm (rw_ r a0 a1) (12 * 1 + ix) n) : Nat) : Int)) hx hb dL_isRowSo_54 (by omega) ?_
      refine ib_bi hx hb dL_isRowSo_55 (by decide) ?_
      refine ib_rem (z := ((((fm (rw_ r a0 a1) (12 * 0 + ix) n) + (fm (rw_ r a0 a1) (12 * 1 + ix) n)) % 12 : Nat) : Int)) hx hb dL_isRowSo_57 (by omega) (by omega) (by omega) (by omega) (by first | omega | rfl) ?_
      refine ib_const hx hb dL_isRowSo_58 ?_
      refine lv_iload_n hx hb dL_isRowSo_59 rfl (lv_at hl 6 rfl) ?_
      refine ib_mul (z := ((2 * ix : Nat) : Int)) hx hb dL_isRowSo_60 (by first | omega | rfl | (push_cast; rfl)) ?_
      refine ib_bi hx hb dL_isRowSo_61 (by decide) ?_
      refine ib_rem (z := (((2 * ix) % 12 : Nat) : Int)) hx hb dL_isRowSo_63 (by omega) (by omega) (by omega) (by omega) (by first | omega | rfl) ?_
      refine ib_icmp_ne (tgt := 124) hx hb dL_isRowSo_64 (by decide) ⟨by omega, by omega⟩ ⟨by omega, by omega⟩ (fun c_64 => absurd c_64 (by omega)) (fun c_64 => ?_)
      refine lv_aload_n hx hb dL_isRowSo_67 rfl (lv_at hl 4 rfl) ?_
      refine lv_iload_n hx hb dL_isRowSo_68 rfl (lv_at hl 5 rfl) ?_
      refine ib_const hx hb dL_isRowSo_69 ?_
      refine lv_iload_n hx hb dL_isRowSo_70 rfl (lv_at hl 6 rfl) ?_
      refine ib_bi hx hb dL_isRowSo_71 (by decide) ?_
      refine lv_iload hx hb dL_isRowSo_73 (lv_at hl 7 rfl) ?_
      refine ib_sub (z := ((11 - n : Nat) : Int)) hx hb dL_isRowSo_75 (by omega) ?_
      refine rd_call (va_runV (As := [.int (iI ((r : Nat) : Int)), .int (iI 2), .int (iI ((ix : Nat) : Int)), .int (iI ((11 - n : Nat) : Int))]) (rest := []) ⟨hx, hb, hml, hown, hts⟩ (mX0_toneOf_ok l dC dI o0 a0 a1 q w hp0 hp1 hw hq hqd r 2 ix (11 - n) (by omega) (by omega) (by omega) (by omega)) (cwV 4 hts gL_isRowSo_X0_toneOf rfl rfl rfl hvX0_toneOf ⟨Nat.le_of_ble_eq_true rfl, Nat.le_of_ble_eq_true rfl⟩) (bW_pre (ci := 0) (q0 := 0) hK hP rfl rfl rfl) rfl rfl hl.1 rfl (lv_room (Nat.le_of_ble_eq_true rfl)) dL_isRowSo_76 ⟨Nat.le_of_ble_eq_true rfl, Nat.le_of_ble_eq_true rfl⟩) ?_
      have hf_76 := fm_lt (rw_ r a0 a1) (12 * 2 + ix) (11 - n)
      refine lv_iload hx hb dL_isRowSo_79 (lv_at hl 1 rfl) ?_
      refine ib_icmp_ne (tgt := 124) hx hb dL_isRowSo_81 (by decide) ⟨by omega, by omega⟩ ⟨by omega, by omega⟩ (fun c_81 => absurd c_81 (by omega)) (fun c_81 => ?_)
      refine lv_aload_n hx hb dL_isRowSo_84 rfl (lv_at hl 4 rfl) ?_
      refine lv_iload_n hx hb dL_isRowSo_85 rfl (lv_at hl 5 rfl) ?_
      refine ib_const hx hb dL_isRowSo_86 ?_
      refine lv_iload_n hx hb dL_isRowSo_87 rfl (lv_at hl 6 rfl) ?_
      refine ib_bi hx hb dL_isRowSo_88 (by decide) ?_
      refine lv_iload hx hb dL_isRowSo_90 (lv_at hl 7 rfl) ?_
      refine ib_sub (z := ((11 - n : Nat) : Int)) hx hb dL_isRowSo_92 (by omega) ?_
      refine rd_call (va_runV (As := [.int (iI ((r : Nat) : Int)), .int (iI 3), .int (iI ((ix : Nat) : Int)), .int (iI ((11 - n : Nat) : Int))]) (rest := []) ⟨hx, hb, hml, hown, hts⟩ (mX0_toneOf_ok l dC dI o0 a0 a1 q w hp0 hp1 hw hq hqd r 3 ix (11 - n) (by omega) (by omega) (by omega) (by omega)) (cwV 4 hts gL_isRowSo_X0_toneOf rfl rfl rfl hvX0_toneOf ⟨Nat.le_of_ble_eq_true rfl, Nat.le_of_ble_eq_true rfl⟩) (bW_pre (ci := 0) (q0 := 0) hK hP rfl rfl rfl) rfl rfl hl.1 rfl (lv_room (Nat.le_of_ble_eq_true rfl)) dL_isRowSo_93 ⟨Nat.le_of_ble_eq_true rfl, Nat.le_of_ble_eq_true rfl⟩) ?_
      have hf_93 := fm_lt (rw_ r a0 a1) (12 * 3 + ix) (11 - n)
      refine lv_iload hx hb dL_isRowSo_96 (lv_at hl 0 rfl) ?_
      refine ib_icmp_ne (tgt := 124) hx hb dL_isRowSo_98 (by decide) ⟨by omega, by omega⟩ ⟨by omega, by omega⟩ (fun c_98 => absurd c_98 (by omega)) (fun c_98 => ?_)
      refine lv_aload_n hx hb dL_isRowSo_101 rfl (lv_at hl 4 rfl) ?_
      refine lv_iload_n hx hb dL_isRowSo_102 rfl (lv_at hl 5 rfl) ?_
      refine ib_const hx hb dL_isRowSo_103 ?_
      refine lv_aload_n hx hb dL_isRowSo_104 rfl (lv_at hl 4 rfl) ?_
      refine lv_iload_n hx hb dL_isRowSo_105 rfl (lv_at hl 5 rfl) ?_
      refine ib_const hx hb dL_isRowSo_106 ?_
      refine rd_call (va_runV (As := [.int (iI ((r : Nat) : Int)), .int (iI 0)]) (rest := [.int (iI 0), .int (iI ((r : Nat) : Int)), .ref o0]) ⟨hx, hb, hml, hown, hts⟩ (mX0_tone_ok l dC dI o0 a0 a1 q w hp0 hp1 hw hq hqd r 0 (by omega) (by omega)) (cwV 2 hts gL_isRowSo_X0_tone rfl rfl rfl hvX0_tone ⟨Nat.le_of_ble_eq_true rfl, Nat.le_of_ble_eq_true rfl⟩) (bW_pre (ci := 0) (q0 := 0) hK hP rfl rfl rfl) rfl rfl hl.1 rfl (lv_room (Nat.le_of_ble_eq_true rfl)) dL_isRowSo_107 ⟨Nat.le_of_ble_eq_true rfl, Nat.le_of_ble_eq_true rfl⟩) ?_
      have hf_107 := rw_lt hp0.1 hp1.1 r (i := 0) (by omega)
      refine lv_iload hx hb dL_isRowSo_110 (lv_at hl 7 rfl) ?_
      refine rd_call (va_runV (As := [.int (iI ((r : Nat) : Int)), .int (iI 0), .int (iI ((rw_ r a0 a1 0 : Nat) : Int)), .int (iI ((n : Nat) : Int))]) (rest := []) ⟨hx, hb, hml, hown, hts⟩ (mX0_toneOf_ok l dC dI o0 a0 a1 q w hp0 hp1 hw hq hqd r 0 (rw_ r a0 a1 0) n (by omega) (by omega) (by omega) (by omega)) (cwV 4 hts gL_isRowSo_X0_toneOf rfl rfl rfl hvX0_toneOf ⟨Nat.le_of_ble_eq_true rfl, Nat.le_of_ble_eq_true rfl⟩) (bW_pre (ci := 0) (q0 := 0) hK hP rfl rfl rfl) rfl rfl hl.1 rfl (lv_room (Nat.le_of_ble_eq_true rfl)) dL_isRowSo_112 ⟨Nat.le_of_ble_eq_true rfl, Nat.le_of_ble_eq_true rfl⟩) ?_
      have hf_112 := fm_lt (rw_ r a0 a1) (12 * 0 + (rw_ r a0 a1 0)) n
      refine lv_iload hx hb dL_isRowSo_115 (lv_at hl 3 rfl) ?_
      refine ib_icmp_ne (tgt := 124) hx hb dL_isRowSo_117 (by decide) ⟨by omega, by omega⟩ ⟨by omega, by omega⟩ (fun c_117 => absurd c_117 (by omega)) (fun c_117 => ?_)
      refine ib_const hx hb dL_isRowSo_120 ?_
      refine lv_goto (tgt := 125) hx hb dL_isRowSo_121 (by decide) ?_
      refine lv_istore (lv' := [(8, .int (iI 1)), (7, .int (iI ((fm (rw_ r a0 a1) (12 * 1 + ix) n : Nat) : Int))), (6, .int (iI ((fm (rw_ r a0 a1) (12 * 0 + ix) n : Nat) : Int))), (3, .int (iI ((setF (rw_ r a0 a1) 0 (n + 1) : Nat) : Int))), (5, .int (iI ((rw_ r a0 a1 n : Nat) : Int))), (0, .ref o0), (1, .int (iI ((r : Nat) : Int))), (2, .int (iI ((ix : Nat) : Int))), (4, .int (iI ((n : Nat) : Int)))]) hx hb dL_isRowSo_125 hl (by decide) rfl (fun ls hl => ?_)
      refine lv_iload hx hb dL_isRowSo_127 (lv_at hl 0 rfl) ?_
      refine ib_if_eq (tgt := 201) hx hb dL_isRowSo_129 (by decide) ⟨by omega, by omega⟩ (fun c_129 => absurd c_129 (by decide)) (fun c_129 => ?_)
      refine lv_aload_n hx hb dL_isRowSo_132 rfl (lv_at hl 5 rfl) ?_
      refine lv_iload_n hx hb dL_isRowSo_133 rfl (lv_at hl 6 rfl) ?_
      refine ib_const hx hb dL_isRowSo_134 ?_
      refine lv_iload hx hb dL_isRowSo_135 (lv_at hl 8 rfl) ?_
      refine rd_call (va_runV (As := [.int (iI ((r : Nat) : Int)), .int (iI 0), .int (iI ((n : Nat) : Int))]) (rest := []) ⟨hx, hb, hml, hown, hts⟩ (mX0_matrix_ok l dC dI o0 a0 a1 q w hp0 hp1 hw hq hqd r 0 n (by omega) (by omega) (by omega)) (cwV 3 hts gL_isRowSo_X0_matrix rfl rfl rfl hvX0_matrix ⟨Nat.le_of_ble_eq_true rfl, Nat.le_of_ble_eq_true rfl⟩) (bW_pre (ci := 0) (q0 := 0) hK hP rfl rfl rfl) rfl rfl hl.1 rfl (lv_room (Nat.le_of_ble_eq_true rfl)) dL_isRowSo_137 ⟨Nat.le_of_ble_eq_true rfl, Nat.le_of_ble_eq_true rfl⟩) ?_
      have hf_137 := fm_lt (rw_ r a0 a1) (12 * 0 + fm (rw_ r a0 a1) (12 * 1 + rw_ r a0 a1 0) 0) n
      refine lv_iload hx hb dL_isRowSo_140 (lv_at hl 4 rfl) ?_
      refine ib_icmp_ne (tgt := 201) hx hb dL_isRowSo_142 (by decide) ⟨by omega, by omega⟩ ⟨by omega, by omega⟩ (fun c_142 => absurd c_142 (by omega)) (fun c_142 => ?_)
      refine lv_aload_n hx hb dL_isRowSo_145 rfl (lv_at hl 5 rfl) ?_
      refine lv_iload_n hx hb dL_isRowSo_146 rfl (lv_at hl 6 rfl) ?_
      refine lv_iload hx hb dL_isRowSo_147 (lv_at hl 8 rfl) ?_
      refine lv_iload hx hb dL_isRowSo_149 (lv_at hl 8 rfl) ?_
      refine rd_call (va_runV (As := [.int (iI ((r : Nat) : Int)), .int (iI ((n : Nat) : Int)), .int (iI ((n : Nat) : Int))]) (rest := []) ⟨hx, hb, hml, hown, hts⟩ (mX0_matrix_ok l dC dI o0 a0 a1 q w hp0 hp1 hw hq hqd r n n (by omega) (by omega) (by omega)) (cwV 3 hts gL_isRowSo_X0_matrix rfl rfl rfl hvX0_matrix ⟨Nat.le_of_ble_eq_true rfl, Nat.le_of_ble_eq_true rfl⟩) (bW_pre (ci := 0) (q0 := 0) hK hP rfl rfl rfl) rfl rfl hl.1 rfl (lv_room (Nat.le_of_ble_eq_true rfl)) dL_isRowSo_151 ⟨Nat.le_of_ble_eq_true rfl, Nat.le_of_ble_eq_true rfl⟩) ?_
      have hf_151 := fm_lt (rw_ r a0 a1) (12 * 0 + fm (rw_ r a0 a1) (12 * 1 + rw_ r a0 a1 0) n) n
      refine lv_aload_n hx hb dL_isRowSo_154 rfl (lv_at hl 5 rfl) ?_
      refine lv_iload_n hx hb dL_isRowSo_155 rfl (lv_at hl 6 rfl) ?_
      refine ib_const hx hb dL_isRowSo_156 ?_
      refine rd_call (va_runV (As := [.int (iI ((r : Nat) : Int)), .int (iI 0)]) (rest := [.int (iI ((fm (rw_ r a0 a1) (12 * 0 + fm (rw_ r a0 a1) (12 * 1 + rw_ r a0 a1 0) n) n : Nat) : Int))]) ⟨hx, hb, hml, hown, hts⟩ (mX0_tone_ok l dC dI o0 a0 a1 q w hp0 hp1 hw hq hqd r 0 (by omega) (by omega)) (cwV 2 hts gL_isRowSo_X0_tone rfl rfl rfl hvX0_tone ⟨Nat.le_of_ble_eq_true rfl, Nat.le_of_ble_eq_true rfl⟩) (bW_pre (ci := 0) (q0 := 0) hK hP rfl rfl rfl) rfl rfl hl.1 rfl (lv_room (Nat.le_of_ble_eq_true rfl)) dL_isRowSo_157 ⟨Nat.le_of_ble_eq_true rfl, Nat.le_of_ble_eq_true rfl⟩) ?_
      have hf_157 := rw_lt hp0.1 hp1.1 r (i := 0) (by omega)
      refine ib_icmp_ne (tgt := 201) hx hb dL_isRowSo_160 (by decide) ⟨by omega, by omega⟩ ⟨by omega, by omega⟩ (fun c_160 => absurd c_160 (by omega)) (fun c_160 => ?_)
      refine lv_aload_n hx hb dL_isRowSo_163 rfl (lv_at hl 5 rfl) ?_
      refine lv_iload_n hx hb dL_isRowSo_164 rfl (lv_at hl 6 rfl) ?_
      refine lv_iload_n hx hb dL_isRowSo_165 rfl (lv_at hl 7 rfl) ?_
      refine lv_iload hx hb dL_isRowSo_166 (lv_at hl 8 rfl) ?_
      refine rd_call (va_runV (As := [.int (iI ((r : Nat) : Int)), .int (iI ((ix : Nat) : Int)), .int (iI ((n : Nat) : Int))]) (rest := []) ⟨hx, hb, hml, hown, hts⟩ (mX0_matrix_ok l dC dI o0 a0 a1 q w hp0 hp1 hw hq hqd r ix n (by omega) (by omega) (by omega)) (cwV 3 hts gL_isRowSo_X0_matrix rfl rfl rfl hvX0_matrix ⟨Nat.le_of_ble_eq_true rfl, Nat.le_of_ble_eq_true rfl⟩) (bW_pre (ci := 0) (q0 := 0) hK hP rfl rfl rfl) rfl rfl hl.1 rfl (lv_room (Nat.le_of_ble_eq_true rfl)) dL_isRowSo_168 ⟨Nat.le_of_ble_eq_true rfl, Nat.le_of_ble_eq_true rfl⟩) ?_
      have hf_168 := fm_lt (rw_ r a0 a1) (12 * 0 + fm (rw_ r a0 a1) (12 * 1 + rw_ r a0 a1 0) ix) n
      refine lv_aload_n hx hb dL_isRowSo_171 rfl (lv_at hl 5 rfl) ?_
      refine lv_iload_n hx hb dL_isRowSo_172 rfl (lv_at hl 6 rfl) ?_
      refine lv_iload hx hb dL_isRowSo_173 (lv_at hl 8 rfl) ?_
      refine lv_iload_n hx hb dL_isRowSo_175 rfl (lv_at hl 7 rfl) ?_
      refine rd_call (va_runV (As := [.int (iI ((r : Nat) : Int)), .int (iI ((n : Nat) : Int)), .int (iI ((ix : Nat) : Int))]) (rest := [.int (iI ((fm (rw_ r a0 a1) (12 * 0 + fm (rw_ r a0 a1) (12 * 1 + rw_ r a0 a1 0) ix) n : Nat) : Int))]) ⟨hx, hb, hml, hown, hts⟩ (mX0_matrix_ok l dC dI o0 a0 a1 q w hp0 hp1 hw hq hqd r n ix (by omega) (by omega) (by omega)) (cwV 3 hts gL_isRowSo_X0_matrix rfl rfl rfl hvX0_matrix ⟨Nat.le_of_ble_eq_true rfl, Nat.le_of_ble_eq_true rfl⟩) (bW_pre (ci := 0) (q0 := 0) hK hP rfl rfl rfl) rfl rfl hl.1 rfl (lv_room (Nat.le_of_ble_eq_true rfl)) dL_isRowSo_176 ⟨Nat.le_of_ble_eq_true rfl, Nat.le_of_ble_eq_true rfl⟩) ?_
      have hf_176 := fm_lt (rw_ r a0 a1) (12 * 0 + fm (rw_ r a0 a1) (12 * 1 + rw_ r a0 a1 0) n) ix
      refine ib_add (z := (((fm (rw_ r a0 a1) (12 * 0 + fm (rw_ r a0 a1) (12 * 1 + rw_ r a0 a1 0) ix) n) + (fm (rw_ r a0 a1) (12 * 0 + fm (rw_ r a0 a1) (12 * 1 + rw_ r a0 a1 0) n) ix) : Nat) : Int)) hx hb dL_isRowSo_179 (by omega) ?_
      refine ib_bi hx hb dL_isRowSo_180 (by decide) ?_
      refine ib_rem (z := ((((fm (rw_ r a0 a1) (12 * 0 + fm (rw_ r a0 a1) (12 * 1 + rw_ r a0 a1 0) ix) n) + (fm (rw_ r a0 a1) (12 * 0 + fm (rw_ r a0 a1) (12 * 1 + rw_ r a0 a1 0) n) ix)) % 12 : Nat) : Int)) hx hb dL_isRowSo_182 (by omega) (by omega) (by omega) (by omega) (by first | omega | rfl) ?_
      refine ib_const hx hb dL_isRowSo_183 ?_
      refine lv_aload_n hx hb dL_isRowSo_184 rfl (lv_at hl 5 rfl) ?_
      refine lv_iload_n hx hb dL_isRowSo_185 rfl (lv_at hl 6 rfl) ?_
      refine ib_const hx hb dL_isRowSo_186 ?_
      refine rd_call (va_runV (As := [.int (iI ((r : Nat) : Int)), .int (iI 0)]) (rest := [.int (iI 2), .int (iI ((((fm (rw_ r a0 a1) (12 * 0 + fm (rw_ r a0 a1) (12 * 1 + rw_ r a0 a1 0) ix) n) + (fm (rw_ r a0 a1) (12 * 0 + fm (rw_ r a0 a1) (12 * 1 + rw_ r a0 a1 0) n) ix)) % 12 : Nat) : Int))]) ⟨hx, hb, hml, hown, hts⟩ (mX0_tone_ok l dC dI o0 a0 a1 q w hp0 hp1 hw hq hqd r 0 (by omega) (by omega)) (cwV 2 hts gL_isRowSo_X0_tone rfl rfl rfl hvX0_tone ⟨Nat.le_of_ble_eq_true rfl, Nat.le_of_ble_eq_true rfl⟩) (bW_pre (ci := 0) (q0 := 0) hK hP rfl rfl rfl) rfl rfl hl.1 rfl (lv_room (Nat.le_of_ble_eq_true rfl)) dL_isRowSo_187 ⟨Nat.le_of_ble_eq_true rfl, Nat.le_of_ble_eq_true rfl⟩) ?_
      have hf_187 := rw_lt hp0.1 hp1.1 r (i := 0) (by omega)
      refine ib_mul (z := ((2 * (rw_ r a0 a1 0) : Nat) : Int)) hx hb dL_isRowSo_190 (by first | omega | rfl | (push_cast; rfl)) ?_
      refine ib_bi hx hb dL_isRowSo_191 (by decide) ?_
      refine ib_rem (z := (((2 * (rw_ r a0 a1 0)) % 12 : Nat) : Int)) hx hb dL_isRowSo_193 (by omega) (by omega) (by omega) (by omega) (by first | omega | rfl) ?_
      refine ib_icmp_ne (tgt := 201) hx hb dL_isRowSo_194 (by decide) ⟨by omega, by omega⟩ ⟨by omega, by omega⟩ (fun c_194 => absurd c_194 (by omega)) (fun c_194 => ?_)
      refine ib_const hx hb dL_isRowSo_197 ?_
      refine lv_goto (tgt := 202) hx hb dL_isRowSo_198 (by decide) ?_
      refine lv_istore (lv' := [(8, .int (iI 1)), (7, .int (iI ((fm (rw_ r a0 a1) (12 * 1 + ix) n : Nat) : Int))), (6, .int (iI ((fm (rw_ r a0 a1) (12 * 0 + ix) n : Nat) : Int))), (3, .int (iI ((setF (rw_ r a0 a1) 0 (n + 1) : Nat) : Int))), (5, .int (iI ((rw_ r a0 a1 n : Nat) : Int))), (0, .ref o0), (1, .int (iI ((r : Nat) : Int))), (2, .int (iI ((ix : Nat) : Int))), (4, .int (iI ((n : Nat) : Int)))]) hx hb dL_isRowSo_202 hl (by decide) rfl (fun ls hl => ?_)
      refine lv_iload hx hb dL_isRowSo_204 (lv_at hl 0 rfl) ?_
      refine ib_if_eq (tgt := 245) hx hb dL_isRowSo_206 (by decide) ⟨by omega, by omega⟩ (fun c_206 => absurd c_206 (by decide)) (fun c_206 => ?_)
      refine lv_iload hx hb dL_isRowSo_209 (lv_at hl 8 rfl) ?_
      refine ib_bi hx hb dL_isRowSo_211 (by decide) ?_
      refine ib_icmp_eq (tgt := 241) hx hb dL_isRowSo_213 (by decide) ⟨by omega, by omega⟩ ⟨by omega, by omega⟩ (fun c_213 => ?_) (fun c_213 => ?_)
      · skip
        refine ib_const hx hb dL_isRowSo_241 ?_
        refine lv_goto (tgt := 246) hx hb dL_isRowSo_242 (by decide) ?_
        refine lv_istore (lv' := [(8, .int (iI 1)), (7, .int (iI ((fm (rw_ r a0 a1) (12 * 1 + ix) n : Nat) : Int))), (6, .int (iI ((fm (rw_ r a0 a1) (12 * 0 + ix) n : Nat) : Int))), (3, .int (iI ((setF (rw_ r a0 a1) 0 (n + 1) : Nat) : Int))), (5, .int (iI ((rw_ r a0 a1 n : Nat) : Int))), (0, .ref o0), (1, .int (iI ((r : Nat) : Int))), (2, .int (iI ((ix : Nat) : Int))), (4, .int (iI ((n : Nat) : Int)))]) hx hb dL_isRowSo_246 hl (by decide) rfl (fun ls hl => ?_)
        refine lv_iload hx hb dL_isRowSo_248 (lv_at hl 0 rfl) ?_
        refine ib_if_eq (tgt := 267) hx hb dL_isRowSo_250 (by decide) ⟨by omega, by omega⟩ (fun c_250 => absurd c_250 (by decide)) (fun c_250 => ?_)
        refine lv_aload_n hx hb dL_isRowSo_253 rfl (lv_at hl 5 rfl) ?_
        refine lv_iload_n hx hb dL_isRowSo_254 rfl (lv_at hl 6 rfl) ?_
        refine ib_const hx hb dL_isRowSo_255 ?_
        refine lv_iload hx hb dL_isRowSo_256 (lv_at hl 8 rfl) ?_
        refine ib_const hx hb dL_isRowSo_258 ?_
        refine ib_add (z := ((n + 1 : Nat) : Int)) hx hb dL_isRowSo_259 (by omega) ?_
        refine rd_call (va_runV (As := [.int (iI ((r : Nat) : Int)), .int (iI 0), .int (iI ((n + 1 : Nat) : Int))]) (rest := []) ⟨hx, hb, hml, hown, hts⟩ (mX0_segment_ok l dC dI o0 a0 a1 q w hp0 hp1 hw hq hqd r 0 (n + 1) (by omega) (by omega) (by omega) (by omega)) (cwV 3 hts gL_isRowSo_X0_segment rfl rfl rfl hvX0_segment ⟨Nat.le_of_ble_eq_true rfl, Nat.le_of_ble_eq_true rfl⟩) (bW_pre (ci := 0) (q0 := 0) hK hP rfl rfl rfl) rfl rfl hl.1 rfl (lv_room (Nat.le_of_ble_eq_true rfl)) dL_isRowSo_260 ⟨Nat.le_of_ble_eq_true rfl, Nat.le_of_ble_eq_true rfl⟩) ?_
        have hf_260 := setF_lt (fm_lt (rw_ r a0 a1) (rw_ r a0 a1 0)) 0 (n + 1)
        refine lv_iload_n hx hb dL_isRowSo_263 rfl (lv_at hl 3 rfl) ?_
        refine ib_icmp_eq (tgt := 269) hx hb dL_isRowSo_264 (by decide) ⟨by omega, by omega⟩ ⟨by omega, by omega⟩ (fun c_264 => ?_) (fun c_264 => absurd c_264 (by omega))
        refine lv_iinc (v := iI ((n + 1 : Nat) : Int)) (lv' := [(4, .int (iI ((n + 1 : Nat) : Int))), (8, .int (iI 1)), (7, .int (iI ((fm (rw_ r a0 a1) (12 * 1 + ix) n : Nat) : Int))), (6, .int (iI ((fm (rw_ r a0 a1) (12 * 0 + ix) n : Nat) : Int))), (3, .int (iI ((setF (rw_ r a0 a1) 0 (n + 1) : Nat) : Int))), (5, .int (iI ((rw_ r a0 a1 n : Nat) : Int))), (0, .ref o0), (1, .int (iI ((r : Nat) : Int))), (2, .int (iI ((ix : Nat) : Int)))]) hx hb dL_isRowSo_269 hl (k := 8) rfl (iI_inc (by omega)) (by decide) rfl (fun ls hl => ?_)
        refine lv_goto (tgt := 5) hx hb dL_isRowSo_272 (by decide) ?_
        exact ih_5_1 (n + 1) (by omega)  _ (lv_sub hl [6, 7, 8, 4, 0] rfl)
      · skip
        have fH := rs_H hR (n := n) (by omega)
        refine lv_iload hx hb dL_isRowSo_216 (lv_at hl 4 rfl) ?_
        refine lv_aload_n hx hb dL_isRowSo_218 rfl (lv_at hl 5 rfl) ?_
        refine lv_iload_n hx hb dL_isRowSo_219 rfl (lv_at hl 6 rfl) ?_
        refine lv_iload hx hb dL_isRowSo_220 (lv_at hl 8 rfl) ?_
        refine rd_call (va_runV (As := [.int (iI ((r : Nat) : Int)), .int (iI ((n : Nat) : Int))]) (rest := [.int (iI ((rw_ r a0 a1 n : Nat) : Int))]) ⟨hx, hb, hml, hown, hts⟩ (mX0_interval_ok l dC dI o0 a0 a1 q w hp0 hp1 hw hq hqd r n (by omega) (by omega)) (cwV 2 hts gL_isRowSo_X0_interval rfl rfl rfl hvX0_interval ⟨Nat.le_of_ble_eq_true rfl, Nat.le_of_ble_eq_true rfl⟩) (bW_pre (ci := 0) (q0 := 0) hK hP rfl rfl rfl) rfl rfl hl.1 rfl (lv_room (Nat.le_of_ble_eq_true rfl)) dL_isRowSo_222 ⟨Nat.le_of_ble_eq_true rfl, Nat.le_of_ble_eq_true rfl⟩) ?_
        have hf_222 := md_lt (((rw_ r a0 a1 (n + 1) : Nat) : Int) - ((rw_ r a0 a1 n : Nat) : Int))
        refine ib_add (z := (((rw_ r a0 a1 n) + (md (((rw_ r a0 a1 (n + 1) : Nat) : Int) - ((rw_ r a0 a1 n : Nat) : Int))) : Nat) : Int)) hx hb dL_isRowSo_225 (by omega) ?_
        refine ib_bi hx hb dL_isRowSo_226 (by decide) ?_
        refine ib_rem (z := ((((rw_ r a0 a1 n) + (md (((rw_ r a0 a1 (n + 1) : Nat) : Int) - ((rw_ r a0 a1 n : Nat) : Int)))) % 12 : Nat) : Int)) hx hb dL_isRowSo_228 (by omega) (by omega) (by omega) (by omega) (by first | omega | rfl) ?_
        refine lv_aload_n hx hb dL_isRowSo_229 rfl (lv_at hl 5 rfl) ?_
        refine lv_iload_n hx hb dL_isRowSo_230 rfl (lv_at hl 6 rfl) ?_
        refine lv_iload hx hb dL_isRowSo_231 (lv_at hl 8 rfl) ?_
        refine ib_const hx hb dL_isRowSo_233 ?_
        refine ib_add (z := ((n + 1 : Nat) : Int)) hx hb dL_isRowSo_234 (by omega) ?_
        refine rd_call (va_runV (As := [.int (iI ((r : Nat) : Int)), .int (iI ((n + 1 : Nat) : Int))]) (rest := [.int (iI ((((rw_ r a0 a1 n) + (md (((rw_ r a0 a1 (n + 1) : Nat) : Int) - ((rw_ r a0 a1 n : Nat) : Int)))) % 12 : Nat) : Int))]) ⟨hx, hb, hml, hown, hts⟩ (mX0_tone_ok l dC dI o0 a0 a1 q w hp0 hp1 hw hq hqd r (n + 1) (by omega) (by omega)) (cwV 2 hts gL_isRowSo_X0_tone rfl rfl rfl hvX0_tone ⟨Nat.le_of_ble_eq_true rfl, Nat.le_of_ble_eq_true rfl⟩) (bW_pre (ci := 0) (q0 := 0) hK hP rfl rfl rfl) rfl rfl hl.1 rfl (lv_room (Nat.le_of_ble_eq_true rfl)) dL_isRowSo_235 ⟨Nat.le_of_ble_eq_true rfl, Nat.le_of_ble_eq_true rfl⟩) ?_
        have hf_235 := rw_lt hp0.1 hp1.1 r (i := n + 1) (by omega)
        refine ib_icmp_ne (tgt := 245) hx hb dL_isRowSo_238 (by decide) ⟨by omega, by omega⟩ ⟨by omega, by omega⟩ (fun c_238 => absurd c_238 (by omega)) (fun c_238 => ?_)
        refine ib_const hx hb dL_isRowSo_241 ?_
        refine lv_goto (tgt := 246) hx hb dL_isRowSo_242 (by decide) ?_
        refine lv_istore (lv' := [(8, .int (iI 1)), (7, .int (iI ((fm (rw_ r a0 a1) (12 * 1 + ix) n : Nat) : Int))), (6, .int (iI ((fm (rw_ r a0 a1) (12 * 0 + ix) n : Nat) : Int))), (3, .int (iI ((setF (rw_ r a0 a1) 0 (n + 1) : Nat) : Int))), (5, .int (iI ((rw_ r a0 a1 n : Nat) : Int))), (0, .ref o0), (1, .int (iI ((r : Nat) : Int))), (2, .int (iI ((ix : Nat) : Int))), (4, .int (iI ((n : Nat) : Int)))]) hx hb dL_isRowSo_246 hl (by decide) rfl (fun ls hl => ?_)
        refine lv_iload hx hb dL_isRowSo_248 (lv_at hl 0 rfl) ?_
        refine ib_if_eq (tgt := 267) hx hb dL_isRowSo_250 (by decide) ⟨by omega, by omega⟩ (fun c_250 => absurd c_250 (by decide)) (fun c_250 => ?_)
        refine lv_aload_n hx hb dL_isRowSo_253 rfl (lv_at hl 5 rfl) ?_
        refine lv_iload_n hx hb dL_isRowSo_254 rfl (lv_at hl 6 rfl) ?_
        refine ib_const hx hb dL_isRowSo_255 ?_
        refine lv_iload hx hb dL_isRowSo_256 (lv_at hl 8 rfl) ?_
        refine ib_const hx hb dL_isRowSo_258 ?_
        refine ib_add (z := ((n + 1 : Nat) : Int)) hx hb dL_isRowSo_259 (by omega) ?_
        refine rd_call (va_runV (As := [.int (iI ((r : Nat) : Int)), .int (iI 0), .int (iI ((n + 1 : Nat) : Int))]) (rest := []) ⟨hx, hb, hml, hown, hts⟩ (mX0_segment_ok l dC dI o0 a0 a1 q w hp0 hp1 hw hq hqd r 0 (n + 1) (by omega) (by omega) (by omega) (by omega)) (cwV 3 hts gL_isRowSo_X0_segment rfl rfl rfl hvX0_segment ⟨Nat.le_of_ble_eq_true rfl, Nat.le_of_ble_eq_true rfl⟩) (bW_pre (ci := 0) (q0 := 0) hK hP rfl rfl rfl) rfl rfl hl.1 rfl (lv_room (Nat.le_of_ble_eq_true rfl)) dL_isRowSo_260 ⟨Nat.le_of_ble_eq_true rfl, Nat.le_of_ble_eq_true rfl⟩) ?_
        have hf_260 := setF_lt (fm_lt (rw_ r a0 a1) (rw_ r a0 a1 0)) 0 (n + 1)
        refine lv_iload_n hx hb dL_isRowSo_263 rfl (lv_at hl 3 rfl) ?_
        refine ib_icmp_eq (tgt := 269) hx hb dL_isRowSo_264 (by decide) ⟨by omega, by omega⟩ ⟨by omega, by omega⟩ (fun c_264 => ?_) (fun c_264 => absurd c_264 (by omega))
        refine lv_iinc (v := iI ((n + 1 : Nat) : Int)) (lv' := [(4, .int (iI ((n + 1 : Nat) : Int))), (8, .int (iI 1)), (7, .int (iI ((fm (rw_ r a0 a1) (12 * 1 + ix) n : Nat) : Int))), (6, .int (iI ((fm (rw_ r a0 a1) (12 * 0 + ix) n : Nat) : Int))), (3, .int (iI ((setF (rw_ r a0 a1) 0 (n + 1) : Nat) : Int))), (5, .int (iI ((rw_ r a0 a1 n : Nat) : Int))), (0, .ref o0), (1, .int (iI ((r : Nat) : Int))), (2, .int (iI ((ix : Nat) : Int)))]) hx hb dL_isRowSo_269 hl (k := 8) rfl (iI_inc (by omega)) (by decide) rfl (fun ls hl => ?_)
        refine lv_goto (tgt := 5) hx hb dL_isRowSo_272 (by decide) ?_
        exact ih_5_1 (n + 1) (by omega)  _ (lv_sub hl [6, 7, 8, 4, 0] rfl)
  exact lp_5_1 12 0 (by omega)  _ (lv_sub hl [2, 3, 4, 1, 0] rfl)
