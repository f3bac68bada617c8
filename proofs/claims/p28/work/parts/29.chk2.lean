set_option maxHeartbeats 4000000 in
set_option maxRecDepth 100000 in
theorem mL_isSetSo (l : Launch) (dC : Nat → ClassId) (dI : Nat → Nat → Nat) (o0 : Nat) (a0 a1 q : Nat → Nat) (w : Nat) (hp0 : Pm a0) (hp1 : Pm a1) (hw : w ≤ 12) (hq : ∀ i, i < w → q i < 12) (hqd : ∀ i j, i < w → j < w → q i = q j → i = j) (sv : Nat) (hs : sv < 4096) : rd l yL_isSetSo wsL_isSetSo { frames := 5, cells := 0, slots := 0, locals := 108 } [.ref o0, .int (iI ((sv : Nat) : Int))] (bW (dC, dI) [(o0, .inr (0, [.long (pk a0), .long (pk a1), .long (pkn q w), .int (iI ((w : Nat) : Int))]))] []) (some (.int (iI 1))) := by
  refine Met.ofW (cc := cL_isSetSo) (maxL := 7) (ret := (some .boolean)) (by decide) rfl ?_
  intro P0 e s m args below meth c s₁ B hml hv
  obtain ⟨rfl, hP, hK⟩ := hv
  have hx := B.exec
  have hb := B.bytes
  have hr := B.returns
  have hts := atoms_spec (ws := wsL_isSetSo) B.pre
  have hown : s.vm.findClass RL = some m.cls := findClass_of_methodNamed B.named
  have hlocks := B.notSynchronized
  have hl := lv_entry ([.ref o0, .int (iI ((sv : Nat) : Int))]) (n := 7) (Nat.le_of_ble_eq_true rfl)
  rw [lg_entry_eq]
  generalize (lg_sl ([.ref o0, .int (iI ((sv : Nat) : Int))]) ++ List.replicate (7 - (lg_sl ([.ref o0, .int (iI ((sv : Nat) : Int))])).length) Slot.unset).toArray = ls at hl ⊢
  have hl : lv_has ls 7 [(0, .ref o0), (1, .int (iI ((sv : Nat) : Int)))] := hl
  have hpl := popN_le sv
  have hpp := ps_pos sv
  have hup := trN_lt sv 1
  have hlu := ls_up hs
  have hll := ls_ls hs
  have hle := lsN_le sv 12
  refine lv_iload_n hx hb dL_isSetSo_0 rfl (lv_at hl 1 rfl) ?_
  refine ib_const hx hb dL_isSetSo_1 ?_
  refine lv_ishl hx hb dL_isSetSo_2 ?_
  refine st_i (y := iI ((sv * 2 ^ 1 : Nat) : Int)) (ir_shl (by decide) (tr_b hs (by decide))) ?_
  refine lv_iload_n hx hb dL_isSetSo_3 rfl (lv_at hl 1 rfl) ?_
  refine ib_bi hx hb dL_isSetSo_4 (by decide) ?_
  refine lv_ishr hx hb dL_isSetSo_6 ?_
  refine st_i (y := iI ((sv / 2 ^ 11 : Nat) : Int)) (ir_shr (by decide) (by omega)) ?_
  refine lv_ior hx hb dL_isSetSo_7 ?_
  refine st_i (y := iI ((sv * 2 ^ 1 ||| sv / 2 ^ 11 : Nat) : Int)) (ir_or _ _) ?_
  refine ib_si hx hb dL_isSetSo_8 (by decide) ?_
  refine lv_iand hx hb dL_isSetSo_11 ?_
  refine st_i (y := iI ((trN sv 1 : Nat) : Int)) (ir_and _ 4095) ?_
  refine lv_istore_n (lv' := [(2, .int (iI ((trN sv 1 : Nat) : Int))), (0, .ref o0), (1, .int (iI ((sv : Nat) : Int)))]) hx hb dL_isSetSo_12 rfl hl (by decide) rfl (fun ls hl => ?_)
  refine ib_const hx hb dL_isSetSo_13 ?_
  refine lv_istore_n (lv' := [(3, .int (iI 0)), (2, .int (iI ((trN sv 1 : Nat) : Int))), (0, .ref o0), (1, .int (iI ((sv : Nat) : Int)))]) hx hb dL_isSetSo_14 rfl hl (by decide) rfl (fun ls hl => ?_)
  refine ib_const hx hb dL_isSetSo_15 ?_
  refine lv_istore (lv' := [(4, .int (iI 0)), (3, .int (iI 0)), (2, .int (iI ((trN sv 1 : Nat) : Int))), (0, .ref o0), (1, .int (iI ((sv : Nat) : Int)))]) hx hb dL_isSetSo_16 hl (by decide) rfl (fun ls hl => ?_)
  refine ib_const hx hb dL_isSetSo_18 ?_
  refine lv_istore (lv' := [(5, .int (iI 0)), (4, .int (iI 0)), (3, .int (iI 0)), (2, .int (iI ((trN sv 1 : Nat) : Int))), (0, .ref o0), (1, .int (iI ((sv : Nat) : Int)))]) hx hb dL_isSetSo_19 hl (by decide) rfl (fun ls hl => ?_)
  have lp_21_1 : ∀ (j n : Nat), n + j = 12 → ∀ ls : Array Slot, lv_has ls 7 [(0, .ref o0), (1, .int (iI ((sv : Nat) : Int))), (2, .int (iI ((trN sv 1 : Nat) : Int))), (3, .int (iI ((popK sv n : Nat) : Int))), (4, .int (iI 0)), (5, .int (iI ((n : Nat) : Int)))] → W P0 l e (headSpec wsL_isSetSo { frames := 5, cells := 0, slots := 0, locals := 108 }).room s m ([.ref o0, .int (iI ((sv : Nat) : Int))] : List Value).toArray below meth c s.heap [] 0 0 (MQ below (rdQ (some (.int (iI 1)))) ([.ref o0, .int (iI ((sv : Nat) : Int))] : List Value).toArray s 0 0 (fun _ => False)) (F0 m 21 ls []) := by
    intro j
    induction j with
    | zero =>
      intro n hn_21  ls hl
      have hpk := popK_le sv n
      refine lv_iload hx hb dL_isSetSo_21 (lv_at hl 5 rfl) ?_
      refine ib_bi hx hb dL_isSetSo_23 (by decide) ?_
      refine ib_icmp_ge (tgt := 43) hx hb dL_isSetSo_25 (by decide) ⟨by omega, by omega⟩ ⟨by omega, by omega⟩ (fun c_25 => ?_) (fun c_25 => absurd c_25 (by omega))
      refine ib_const hx hb dL_isSetSo_43 ?_
      refine lv_istore (lv' := [(5, .int (iI 1)), (0, .ref o0), (1, .int (iI ((sv : Nat) : Int))), (2, .int (iI ((trN sv 1 : Nat) : Int))), (3, .int (iI ((popK sv n : Nat) : Int))), (4, .int (iI 0))]) hx hb dL_isSetSo_44 hl (by decide) rfl (fun ls hl => ?_)
      have hl : lv_has ls 7 [(5, .int (iI 1)), (0, .ref o0), (1, .int (iI ((sv : Nat) : Int))), (2, .int (iI ((trN sv 1 : Nat) : Int))), (3, .int (iI ((popN sv : Nat) : Int))), (4, .int (iI 0))] := by
        have e9 : iI ((popK sv n : Nat) : Int) = iI ((popN sv : Nat) : Int) := congrArg (fun z : Nat => iI ((z : Nat) : Int)) (show popK sv n = popN sv by rw [show n = 12 by omega]; rfl)
        rw [← e9]; exact hl
      have lp_46_2 : ∀ (j i : Nat), i + j = 7 → 1 ≤ i → ∀ ls : Array Slot, lv_has ls 7 [(0, .ref o0), (1, .int (iI ((sv : Nat) : Int))), (2, .int (iI ((trN sv 1 : Nat) : Int))), (3, .int (iI ((popN sv : Nat) : Int))), (4, .int (iI ((prS sv i : Nat) : Int))), (5, .int (iI ((i : Nat) : Int)))] → W P0 l e (headSpec wsL_isSetSo { frames := 5, cells := 0, slots := 0, locals := 108 }).room s m ([.ref o0, .int (iI ((sv : Nat) : Int))] : List Value).toArray below meth c s.heap [] 0 0 (MQ below (rdQ (some (.int (iI 1)))) ([.ref o0, .int (iI ((sv : Nat) : Int))] : List Value).toArray s 0 0 (fun _ => False)) (F0 m 46 ls []) := by
        intro j
        induction j with
        | zero =>
          intro i hn_46 hi1 ls hl
          have hpr := prS_le sv i
          have hps := ps_sum (s := sv) (show i = 7 by omega)
          refine lv_iload hx hb dL_isSetSo_46 (lv_at hl 5 rfl) ?_
          refine ib_bi hx hb dL_isSetSo_48 (by decide) ?_
          refine ib_icmp_gt (tgt := 119) hx hb dL_isSetSo_50 (by decide) ⟨by omega, by omega⟩ ⟨by omega, by omega⟩ (fun c_50 => ?_) (fun c_50 => absurd c_50 (by omega))
          refine lv_iload hx hb dL_isSetSo_119 (lv_at hl 4 rfl) ?_
          refine lv_iload_n hx hb dL_isSetSo_121 rfl (lv_at hl 3 rfl) ?_
          refine lv_iload_n hx hb dL_isSetSo_122 rfl (lv_at hl 3 rfl) ?_
          refine ib_const hx hb dL_isSetSo_123 ?_
          refine ib_sub (z := ((popN sv : Nat) : Int) - 1) hx hb dL_isSetSo_124 (by omega) ?_
          refine ib_mul (z := ((popN sv : Nat) : Int) * (((popN sv : Nat) : Int) - 1)) hx hb dL_isSetSo_125 (by first | omega | rfl | (push_cast; rfl)) ?_
          refine ib_const hx hb dL_isSetSo_126 ?_
          refine ib_div (z := (((popN sv : Nat) : Int) * (((popN sv : Nat) : Int) - 1)) / 2) hx hb dL_isSetSo_127 (by omega) (by omega) (by omega) (by omega) (by first | omega | rfl) ?_
          refine ib_icmp_ne (tgt := 174) hx hb dL_isSetSo_128 (by decide) ⟨by omega, by omega⟩ ⟨by omega, by omega⟩ (fun c_128 => absurd c_128 (by omega)) (fun c_128 => ?_)
          refine lv_aload_n hx hb dL_isSetSo_131 rfl (lv_at hl 0 rfl) ?_
          refine lv_iload_n hx hb dL_isSetSo_132 rfl (lv_at hl 1 rfl) ?_
          refine rd_call (va_runV (As := [.int (iI ((sv : Nat) : Int))]) (rest := []) ⟨hx, hb, hml, hown, hts⟩ (mX0_classOf_ok l dC dI o0 a0 a1 q w hp0 hp1 hw hq hqd sv (by omega)) (cwV 1 hts gL_isSetSo_X0_classOf rfl rfl rfl hvX0_classOf ⟨Nat.le_of_ble_eq_true rfl, Nat.le_of_ble_eq_true rfl⟩) (bW_pre (ci := 0) (q0 := 0) hK hP rfl rfl rfl) rfl rfl hl.1 rfl (lv_room (Nat.le_of_ble_eq_true rfl)) dL_isSetSo_133 ⟨Nat.le_of_ble_eq_true rfl, Nat.le_of_ble_eq_true rfl⟩) ?_
          have hf_133 := lsN_le sv 12
          refine lv_aload_n hx hb dL_isSetSo_136 rfl (lv_at hl 0 rfl) ?_
          refine lv_iload_n hx hb dL_isSetSo_137 rfl (lv_at hl 2 rfl) ?_
          refine rd_call (va_runV (As := [.int (iI ((trN sv 1 : Nat) : Int))]) (rest := [.int (iI ((lsN sv 12 : Nat) : Int))]) ⟨hx, hb, hml, hown, hts⟩ (mX0_classOf_ok l dC dI o0 a0 a1 q w hp0 hp1 hw hq hqd (trN sv 1) (by omega)) (cwV 1 hts gL_isSetSo_X0_classOf rfl rfl rfl hvX0_classOf ⟨Nat.le_of_ble_eq_true rfl, Nat.le_of_ble_eq_true rfl⟩) (bW_pre (ci := 0) (q0 := 0) hK hP rfl rfl rfl) rfl rfl hl.1 rfl (lv_room (Nat.le_of_ble_eq_true rfl)) dL_isSetSo_138 ⟨Nat.le_of_ble_eq_true rfl, Nat.le_of_ble_eq_true rfl⟩) ?_
          have hf_138 := lsN_le (trN sv 1) 12
          refine ib_icmp_ne (tgt := 174) hx hb dL_isSetSo_141 (by decide) ⟨by omega, by omega⟩ ⟨by omega, by omega⟩ (fun c_141 => absurd c_141 (by omega)) (fun c_141 => ?_)
          refine lv_aload_n hx hb dL_isSetSo_144 rfl (lv_at hl 0 rfl) ?_
          refine lv_iload_n hx hb dL_isSetSo_145 rfl (lv_at hl 1 rfl) ?_
          refine rd_call (va_runV (As := [.int (iI ((sv : Nat) : Int))]) (rest := []) ⟨hx, hb, hml, hown, hts⟩ (mX0_classOf_ok l dC dI o0 a0 a1 q w hp0 hp1 hw hq hqd sv (by omega)) (cwV 1 hts gL_isSetSo_X0_classOf rfl rfl rfl hvX0_classOf ⟨Nat.le_of_ble_eq_true rfl, Nat.le_of_ble_eq_true rfl⟩) (bW_pre (ci := 0) (q0 := 0) hK hP rfl rfl rfl) rfl rfl hl.1 rfl (lv_room (Nat.le_of_ble_eq_true rfl)) dL_isSetSo_146 ⟨Nat.le_of_ble_eq_true rfl, Nat.le_of_ble_eq_true rfl⟩) ?_
          have hf_146 := lsN_le sv 12
          refine lv_iload_n hx hb dL_isSetSo_149 rfl (lv_at hl 1 rfl) ?_
          refine ib_icmp_gt (tgt := 174) hx hb dL_isSetSo_150 (by decide) ⟨by omega, by omega⟩ ⟨by omega, by omega⟩ (fun c_150 => absurd c_150 (by omega)) (fun c_150 => ?_)
          refine lv_aload_n hx hb dL_isSetSo_153 rfl (lv_at hl 0 rfl) ?_
          refine lv_aload_n hx hb dL_isSetSo_154 rfl (lv_at hl 0 rfl) ?_
          refine lv_iload_n hx hb dL_isSetSo_155 rfl (lv_at hl 1 rfl) ?_
          refine rd_call (va_runV (As := [.int (iI ((sv : Nat) : Int))]) (rest := [.ref o0]) ⟨hx, hb, hml, hown, hts⟩ (mX0_classOf_ok l dC dI o0 a0 a1 q w hp0 hp1 hw hq hqd sv (by omega)) (cwV 1 hts gL_isSetSo_X0_classOf rfl rfl rfl hvX0_classOf ⟨Nat.le_of_ble_eq_true rfl, Nat.le_of_ble_eq_true rfl⟩) (bW_pre (ci := 0) (q0 := 0) hK hP rfl rfl rfl) rfl rfl hl.1 rfl (lv_room (Nat.le_of_ble_eq_true rfl)) dL_isSetSo_156 ⟨Nat.le_of_ble_eq_true rfl, Nat.le_of_ble_eq_true rfl⟩) ?_
          have hf_156 := lsN_le sv 12
          refine rd_call (va_runV (As := [.int (iI ((lsN sv 12 : Nat) : Int))]) (rest := []) ⟨hx, hb, hml, hown, hts⟩ (mX0_classOf_ok l dC dI o0 a0 a1 q w hp0 hp1 hw hq hqd (lsN sv 12) (by omega)) (cwV 1 hts gL_isSetSo_X0_classOf rfl rfl rfl hvX0_classOf ⟨Nat.le_of_ble_eq_true rfl, Nat.le_of_ble_eq_true rfl⟩) (bW_pre (ci := 0) (q0 := 0) hK hP rfl rfl rfl) rfl rfl hl.1 rfl (lv_room (Nat.le_of_ble_eq_true rfl)) dL_isSetSo_159 ⟨Nat.le_of_ble_eq_true rfl, Nat.le_of_ble_eq_true rfl⟩) ?_
          have hf_159 := lsN_le (lsN sv 12) 12
          refine lv_aload_n hx hb dL_isSetSo_162 rfl (lv_at hl 0 rfl) ?_
          refine lv_iload_n hx hb dL_isSetSo_163 rfl (lv_at hl 1 rfl) ?_
          refine rd_call (va_runV (As := [.int (iI ((sv : Nat) : Int))]) (rest := [.int (iI ((lsN (lsN sv 12) 12 : Nat) : Int))]) ⟨hx, hb, hml, hown, hts⟩ (mX0_classOf_ok l dC dI o0 a0 a1 q w hp0 hp1 hw hq hqd sv (by omega)) (cwV 1 hts gL_isSetSo_X0_classOf rfl rfl rfl hvX0_classOf ⟨Nat.le_of_ble_eq_true rfl, Nat.le_of_ble_eq_true rfl⟩) (bW_pre (ci := 0) (q0 := 0) hK hP rfl rfl rfl) rfl rfl hl.1 rfl (lv_room (Nat.le_of_ble_eq_true rfl)) dL_isSetSo_164 ⟨Nat.le_of_ble_eq_true rfl, Nat.le_of_ble_eq_true rfl⟩) ?_
          have hf_164 := lsN_le sv 12
          refine ib_icmp_ne (tgt := 174) hx hb dL_isSetSo_167 (by decide) ⟨by omega, by omega⟩ ⟨by omega, by omega⟩ (fun c_167 => absurd c_167 (by omega)) (fun c_167 => ?_)
          refine ib_const hx hb dL_isSetSo_170 ?_
          refine lv_goto (tgt := 175) hx hb dL_isSetSo_171 (by decide) ?_
          exact W.zret hx hb hr (nar_1) (fun t ht _ => ⟨rfl, ht⟩) (fun _ h => nomatch h) dL_isSetSo_175
        | succ j ih_46_2 =>
          intro i hn_46 hi1 ls hl
          have hpr := prS_le sv i
          refine lv_iload hx hb dL_isSetSo_46 (lv_at hl 5 rfl) ?_
          refine ib_bi hx hb dL_isSetSo_48 (by decide) ?_
          refine ib_icmp_gt (tgt := 119) hx hb dL_isSetSo_50 (by decide) ⟨by omega, by omega⟩ ⟨by omega, by omega⟩ (fun c_50 => absurd c_50 (by omega)) (fun c_50 => ?_)
          have hc6 := co_at (i := i) hs
          have hcn := co_no (i := i) hs hi1 (by omega)
          refine lv_iload hx hb dL_isSetSo_53 (lv_at hl 4 rfl) ?_
          refine lv_aload_n hx hb dL_isSetSo_55 rfl (lv_at hl 0 rfl) ?_
          refine lv_iload_n hx hb dL_isSetSo_56 rfl (lv_at hl 1 rfl) ?_
          refine lv_iload hx hb dL_isSetSo_57 (lv_at hl 5 rfl) ?_
          refine rd_call (va_runV (As := [.int (iI ((sv : Nat) : Int)), .int (iI ((i : Nat) : Int))]) (rest := [.int (iI ((prS sv i : Nat) : Int))]) ⟨hx, hb, hml, hown, hts⟩ (mX0_pairs_ok l dC dI o0 a0 a1 q w hp0 hp1 hw hq hqd sv i (by omega) (by omega) (by omega)) (cwV 2 hts gL_isSetSo_X0_pairs rfl rfl rfl hvX0_pairs ⟨Nat.le_of_ble_eq_true rfl, Nat.le_of_ble_eq_true rfl⟩) (bW_pre (ci := 0) (q0 := 0) hK hP rfl rfl rfl) rfl rfl hl.1 rfl (lv_room (Nat.le_of_ble_eq_true rfl)) dL_isSetSo_59 ⟨Nat.le_of_ble_eq_true rfl, Nat.le_of_ble_eq_true rfl⟩) ?_
          have hf_59 := prO_lt sv i 12 (by decide)
          refine ib_add (z := (((prS sv i) + (prO sv i 12) : Nat) : Int)) hx hb dL_isSetSo_62 (by omega) ?_
          refine st_i (y := iI ((prS sv (i + 1) : Nat) : Int)) (congrArg (fun z : Nat => iI ((z : Nat) : Int)) (prS_s hi1)) ?_
          refine lv_istore (lv' := [(4, .int (iI ((prS sv (i + 1) : Nat) : Int))), (0, .ref o0), (1, .int (iI ((sv : Nat) : Int))), (2, .int (iI ((trN sv 1 : Nat) : Int))), (3, .int (iI ((popN sv : Nat) : Int))), (5, .int (iI ((i : Nat) : Int)))]) hx hb dL_isSetSo_63 hl (by decide) rfl (fun ls hl => ?_)
          refine ib_bi hx hb dL_isSetSo_65 (by decide) ?_
          refine ib_const hx hb dL_isSetSo_67 ?_
          refine lv_iload_n hx hb dL_isSetSo_68 rfl (lv_at hl 4 rfl) ?_
          refine ib_mul (z := ((2 * (popN sv) : Nat) : Int)) hx hb dL_isSetSo_69 (by first | omega | rfl | (push_cast; rfl)) ?_
          refine ib_sub (z := 12 - ((2 * (popN sv) : Nat) : Int)) hx hb dL_isSetSo_70 (by omega) ?_
          refine lv_istore (lv' := [(6, .int (iI (12 - ((2 * (popN sv) : Nat) : Int)))), (4, .int (iI ((prS sv (i + 1) : Nat) : Int))), (0, .ref o0), (1, .int (iI ((sv : Nat) : Int))), (2, .int (iI ((trN sv 1 : Nat) : Int))), (3, .int (iI ((popN sv : Nat) : Int))), (5, .int (iI ((i : Nat) : Int)))]) hx hb dL_isSetSo_71 hl (by decide) rfl (fun ls hl => ?_)
          have hpo := prO_lt (4095 - sv) i 12 (by decide)
          have hpq := prO_lt sv i 12 (by decide)
          refine lv_aload_n hx hb dL_isSetSo_73 rfl (lv_at hl 2 rfl) ?_
          refine ib_si hx hb dL_isSetSo_74 (by decide) ?_
          refine lv_iload_n hx hb dL_isSetSo_77 rfl (lv_at hl 3 rfl) ?_
          refine ib_sub (z := ((4095 - sv : Nat) : Int)) hx hb dL_isSetSo_78 (by omega) ?_
          refine lv_iload hx hb dL_isSetSo_79 (lv_at hl 6 rfl) ?_
          refine rd_call (va_runV (As := [.int (iI ((4095 - sv : Nat) : Int)), .int (iI ((i : Nat) : Int))]) (rest := []) ⟨hx, hb, hml, hown, hts⟩ (mX0_pairs_ok l dC dI o0 a0 a1 q w hp0 hp1 hw hq hqd (4095 - sv) i (by omega) (by omega) (by omega)) (cwV 2 hts gL_isSetSo_X0_pairs rfl rfl rfl hvX0_pairs ⟨Nat.le_of_ble_eq_true rfl, Nat.le_of_ble_eq_true rfl⟩) (bW_pre (ci := 0) (q0 := 0) hK hP rfl rfl rfl) rfl rfl hl.1 rfl (lv_room (Nat.le_of_ble_eq_true rfl)) dL_isSetSo_81 ⟨Nat.le_of_ble_eq_true rfl, Nat.le_of_ble_eq_true rfl⟩) ?_
          have hf_81 := prO_lt (4095 - sv) i 12 (by decide)
          refine lv_aload_n hx hb dL_isSetSo_84 rfl (lv_at hl 2 rfl) ?_
          refine lv_iload_n hx hb dL_isSetSo_85 rfl (lv_at hl 3 rfl) ?_
          refine lv_iload hx hb dL_isSetSo_86 (lv_at hl 6 rfl) ?_
          refine rd_call (va_runV (As := [.int (iI ((sv : Nat) : Int)), .int (iI ((i : Nat) : Int))]) (rest := [.int (iI ((prO (4095 - sv) i 12 : Nat) : Int))]) ⟨hx, hb, hml, hown, hts⟩ (mX0_pairs_ok l dC dI o0 a0 a1 q w hp0 hp1 hw hq hqd sv i (by omega) (by omega) (by omega)) (cwV 2 hts gL_isSetSo_X0_pairs rfl rfl rfl hvX0_pairs ⟨Nat.le_of_ble_eq_true rfl, Nat.le_of_ble_eq_true rfl⟩) (bW_pre (ci := 0) (q0 := 0) hK hP rfl rfl rfl) rfl rfl hl.1 rfl (lv_room (Nat.le_of_ble_eq_true rfl)) dL_isSetSo_88 ⟨Nat.le_of_ble_eq_true rfl, Nat.le_of_ble_eq_true rfl⟩) ?_
          have hf_88 := prO_lt sv i 12 (by decide)
          refine ib_sub (z := ((prO (4095 - sv) i 12 : Nat) : Int) - ((prO sv i 12 : Nat) : Int)) hx hb dL_isSetSo_91 (by omega) ?_
          refine lv_iload hx hb dL_isSetSo_92 (lv_at hl 6 rfl) ?_
          refine ib_bi hx hb dL_isSetSo_94 (by decide) ?_
          refine ib_icmp_ne (tgt := 106) hx hb dL_isSetSo_96 (by decide) ⟨by omega, by omega⟩ ⟨by omega, by omega⟩ (fun c_96 => ?_) (fun c_96 => ?_)
          · skip
            have hc8 := hcn (by omega)
            refine lv_iload hx hb dL_isSetSo_106 (lv_at hl 0 rfl) ?_
            refine ib_icmp_eq (tgt := 113) hx hb dL_isSetSo_108 (by decide) ⟨by omega, by omega⟩ ⟨by omega, by omega⟩ (fun c_108 => ?_) (fun c_108 => absurd c_108 (by omega))
            refine lv_iinc (v := iI ((i + 1 : Nat) : Int)) (lv' := [(5, .int (iI ((i + 1 : Nat) : Int))), (6, .int (iI (12 - ((2 * (popN sv) : Nat) : Int)))), (4, .int (iI ((prS sv (i + 1) : Nat) : Int))), (0, .ref o0), (1, .int (iI ((sv : Nat) : Int))), (2, .int (iI ((trN sv 1 : Nat) : Int))), (3, .int (iI ((popN sv : Nat) : Int)))]) hx hb dL_isSetSo_113 hl (k := 6) rfl (iI_inc (by omega)) (by decide) rfl (fun ls hl => ?_)
            refine lv_goto (tgt := 46) hx hb dL_isSetSo_116 (by decide) ?_
            exact ih_46_2 (i + 1) (by omega) (by omega) _ (lv_sub hl [3, 4, 5, 6, 2, 0] rfl)
          · skip
            have hc7 := hc6 (by omega)
            refine lv_iload hx hb dL_isSetSo_99 (lv_at hl 0 rfl) ?_
            refine ib_const hx hb dL_isSetSo_101 ?_
            refine ib_divt (z := 6 - ((popN sv : Nat) : Int)) hx hb dL_isSetSo_102 ⟨by omega, by omega⟩ (by omega) (by omega) (co_div (popN sv)) ?_
            refine lv_goto (tgt := 108) hx hb dL_isSetSo_103 (by decide) ?_
            refine ib_icmp_eq (tgt := 113) hx hb dL_isSetSo_108 (by decide) ⟨by omega, by omega⟩ ⟨by omega, by omega⟩ (fun c_108 => ?_) (fun c_108 => absurd c_108 (by omega))
            refine lv_iinc (v := iI ((i + 1 : Nat) : Int)) (lv' := [(5, .int (iI ((i + 1 : Nat) : Int))), (6, .int (iI (12 - ((2 * (popN sv) : Nat) : Int)))), (4, .int (iI ((prS sv (i + 1) : Nat) : Int))), (0, .ref o0), (1, .int (iI ((sv : Nat) : Int))), (2, .int (iI ((trN sv 1 : Nat) : Int))), (3, .int (iI ((popN sv : Nat) : Int)))]) hx hb dL_isSetSo_113 hl (k := 6) rfl (iI_inc (by omega)) (by decide) rfl (fun ls hl => ?_)
            refine lv_goto (tgt := 46) hx hb dL_isSetSo_116 (by decide) ?_
            exact ih_46_2 (i + 1) (by omega) (by omega) _ (lv_sub hl [3, 4, 5, 6, 2, 0] rfl)
      exact lp_46_2 6 1 (by omega) (Nat.le_refl 1) _ (lv_sub hl [1, 2, 3, 4, 5, 0] rfl)
    | succ j ih_21_1 =>
      intro n hn_21  ls hl
      have hpk := popK_le sv n
      refine lv_iload hx hb dL_isSetSo_21 (lv_at hl 5 rfl) ?_
      refine ib_bi hx hb dL_isSetSo_23 (by decide) ?_
      refine ib_icmp_ge (tgt := 43) hx hb dL_isSetSo_25 (by decide) ⟨by omega, by omega⟩ ⟨by omega, by omega⟩ (fun c_25 => absurd c_25 (by omega)) (fun c_25 => ?_)
      refine lv_iload_n hx hb dL_isSetSo_28 rfl (lv_at hl 3 rfl) ?_
      refine lv_iload_n hx hb dL_isSetSo_29 rfl (lv_at hl 1 rfl) ?_
      refine lv_iload hx hb dL_isSetSo_30 (lv_at hl 5 rfl) ?_
      refine lv_ishr hx hb dL_isSetSo_32 ?_
      refine st_i (y := iI ((sv / 2 ^ n : Nat) : Int)) (ir_shr (by omega) (by omega)) ?_
      refine ib_const hx hb dL_isSetSo_33 ?_
      refine lv_iand hx hb dL_isSetSo_34 ?_
      refine st_i (y := iI ((sv / 2 ^ n &&& 1 : Nat) : Int)) (ir_and _ 1) ?_
      refine ib_add (z := (((popK sv n) + (sv / 2 ^ n &&& 1) : Nat) : Int)) hx hb dL_isSetSo_35 (by omega) ?_
      refine st_i (y := iI ((popK sv (n + 1) : Nat) : Int)) (congrArg (fun z : Nat => iI ((z : Nat) : Int)) (ps_s sv n)) ?_
      refine lv_istore_n (lv' := [(3, .int (iI ((popK sv (n + 1) : Nat) : Int))), (0, .ref o0), (1, .int (iI ((sv : Nat) : Int))), (2, .int (iI ((trN sv 1 : Nat) : Int))), (4, .int (iI 0)), (5, .int (iI ((n : Nat) : Int)))]) hx hb dL_isSetSo_36 rfl hl (by decide) rfl (fun ls hl => ?_)
      refine lv_iinc (v := iI ((n + 1 : Nat) : Int)) (lv' := [(5, .int (iI ((n + 1 : Nat) : Int))), (3, .int (iI ((popK sv (n + 1) : Nat) : Int))), (0, .ref o0), (1, .int (iI ((sv : Nat) : Int))), (2, .int (iI ((trN sv 1 : Nat) : Int))), (4, .int (iI 0))]) hx hb dL_isSetSo_37 hl (k := 5) rfl (iI_inc (by omega)) (by decide) rfl (fun ls hl => ?_)
      refine lv_goto (tgt := 21) hx hb dL_isSetSo_40 (by decide) ?_
      exact ih_21_1 (n + 1) (by omega)  _ (lv_sub hl [2, 3, 4, 1, 5, 0] rfl)
  exact lp_21_1 12 0 (by omega)  _ (lv_sub hl [4, 5, 3, 2, 1, 0] rfl)
