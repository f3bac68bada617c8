set_option maxHeartbeats 4000000 in
set_option maxRecDepth 100000 in
theorem mL_areKeptSo (l : Launch) (dC : Nat → ClassId) (dI : Nat → Nat → Nat) (o0 : Nat) (a0 a1 q : Nat → Nat) (w : Nat) (hp0 : Pm a0) (hp1 : Pm a1) (hw : w ≤ 12) (hq : ∀ i, i < w → q i < 12) (hqd : ∀ i j, i < w → j < w → q i = q j → i = j) (r cd ot ln : Nat) (hr9 : r < 2) (hcd : cd < 48) (hot : ot < 48) (hln1 : 1 ≤ ln) (hln2 : ln ≤ 12) : rd l yL_areKeptSo wsL_areKeptSo { frames := 5, cells := 0, slots := 0, locals := 128 } [.ref o0, .int (iI ((r : Nat) : Int)), .int (iI ((cd : Nat) : Int)), .int (iI ((ot : Nat) : Int)), .int (iI ((ln : Nat) : Int))] (bW (dC, dI) [(o0, .inr (0, [.long (pk a0), .long (pk a1), .long (pkn q w), .int (iI ((w : Nat) : Int))]))] []) (some (.int (iI 1))) := by
  refine Met.ofW (cc := cL_areKeptSo) (maxL := 13) (ret := (some .boolean)) (by decide) rfl ?_
  intro P0 e s m args below meth c s₁ B hml hv
  obtain ⟨rfl, hP, hK⟩ := hv
  have hx := B.exec
  have hb := B.bytes
  have hr := B.returns
  have hts := atoms_spec (ws := wsL_areKeptSo) B.pre
  have hown : s.vm.findClass RL = some m.cls := findClass_of_methodNamed B.named
  have hlocks := B.notSynchronized
  have hl := lv_entry ([.ref o0, .int (iI ((r : Nat) : Int)), .int (iI ((cd : Nat) : Int)), .int (iI ((ot : Nat) : Int)), .int (iI ((ln : Nat) : Int))]) (n := 13) (Nat.le_of_ble_eq_true rfl)
  rw [lg_entry_eq]
  generalize (lg_sl ([.ref o0, .int (iI ((r : Nat) : Int)), .int (iI ((cd : Nat) : Int)), .int (iI ((ot : Nat) : Int)), .int (iI ((ln : Nat) : Int))]) ++ List.replicate (13 - (lg_sl ([.ref o0, .int (iI ((r : Nat) : Int)), .int (iI ((cd : Nat) : Int)), .int (iI ((ot : Nat) : Int)), .int (iI ((ln : Nat) : Int))])).length) Slot.unset).toArray = ls at hl ⊢
  have hl : lv_has ls 13 [(0, .ref o0), (1, .int (iI ((r : Nat) : Int))), (2, .int (iI ((cd : Nat) : Int))), (3, .int (iI ((ot : Nat) : Int))), (4, .int (iI ((ln : Nat) : Int)))] := hl
  have hR := rw_Pm hp0 hp1 r
  have h12 : ln % 10 < 10 := Nat.mod_lt _ (by decide)
  have hsk := skN_le (rw_ r a0 a1) cd ln (13 - ln)
  have hg1 := lk_ge hR hcd
  have hg2 := lkO_le (rw_ r a0 a1) (fm (rw_ r a0 a1) cd) 12
  have hg3 := lk_sk hR hcd hln1 hln2
  have hk1 := sk_1 hR hcd
  have hk12 := sk_12 hR hcd
  obtain ⟨bs, hb1, hb2, hb3, hb4⟩ := mk_48 (k := 2 + ln % 10) hR
  have hb5 := hb4 cd hcd
  have hsb := skN_le (rw_ r a0 a1) bs (2 + ln % 10) (13 - (2 + ln % 10))
  have hsc := skN_le (rw_ r a0 a1) cd (2 + ln % 10) (13 - (2 + ln % 10))
  have hc0 := ct_0 (f := fm (rw_ 0 a0 a1) cd) (g := fm (rw_ 1 a0 a1) ot) (fm_Pm (rw_Pm hp0 hp1 1) hot)
  have hc12 := ct_12 (f := fm (rw_ 0 a0 a1) cd) (g := fm (rw_ 1 a0 a1) ot) (fm_Pm (rw_Pm hp0 hp1 0) hcd)
  refine lv_aload_n hx hb dL_areKeptSo_0 rfl (lv_at hl 0 rfl) ?_
  refine lv_iload_n hx hb dL_areKeptSo_1 rfl (lv_at hl 1 rfl) ?_
  refine lv_iload_n hx hb dL_areKeptSo_2 rfl (lv_at hl 2 rfl) ?_
  refine ib_bi hx hb dL_areKeptSo_3 (by decide) ?_
  refine ib_div (z := ((cd / 12 : Nat) : Int)) hx hb dL_areKeptSo_5 (by omega) (by omega) (by omega) (by omega) (by first | omega | rfl) ?_
  refine lv_iload_n hx hb dL_areKeptSo_6 rfl (lv_at hl 2 rfl) ?_
  refine ib_bi hx hb dL_areKeptSo_7 (by decide) ?_
  refine ib_rem (z := ((cd % 12 : Nat) : Int)) hx hb dL_areKeptSo_9 (by omega) (by omega) (by omega) (by omega) (by first | omega | rfl) ?_
  refine lv_iload hx hb dL_areKeptSo_10 (lv_at hl 4 rfl) ?_
  refine rd_call (va_runV (As := [.int (iI ((r : Nat) : Int)), .int (iI ((cd / 12 : Nat) : Int)), .int (iI ((cd % 12 : Nat) : Int)), .int (iI ((ln : Nat) : Int))]) (rest := []) ⟨hx, hb, hml, hown, hts⟩ (mX0_keptSets_ok l dC dI o0 a0 a1 q w hp0 hp1 hw hq hqd r (cd / 12) (cd % 12) ln (by omega) (by omega) (by omega) (by omega) (by omega)) (cwV 4 hts gL_areKeptSo_X0_keptSets rfl rfl rfl hvX0_keptSets ⟨Nat.le_of_ble_eq_true rfl, Nat.le_of_ble_eq_true rfl⟩) (bW_pre (ci := 0) (q0 := 0) hK hP rfl rfl rfl) rfl rfl hl.1 rfl (lv_room (Nat.le_of_ble_eq_true rfl)) dL_areKeptSo_12 ⟨Nat.le_of_ble_eq_true rfl, Nat.le_of_ble_eq_true rfl⟩) ?_
  have hf_12 := skN_le (rw_ r a0 a1) (12 * (cd / 12) + (cd % 12)) ln (13 - ln)
  refine st_i (y := iI ((skN (rw_ r a0 a1) cd (ln) (13 - (ln)) : Nat) : Int)) (congrArg (fun z : Nat => iI ((z : Nat) : Int)) (show skN (rw_ r a0 a1) (12 * (cd / 12) + cd % 12) (ln) (13 - (ln)) = skN (rw_ r a0 a1) cd (ln) (13 - (ln)) by rw [show 12 * (cd / 12) + cd % 12 = cd by omega])) ?_
  refine lv_istore (lv' := [(5, .int (iI ((skN (rw_ r a0 a1) cd (ln) (13 - (ln)) : Nat) : Int))), (0, .ref o0), (1, .int (iI ((r : Nat) : Int))), (2, .int (iI ((cd : Nat) : Int))), (3, .int (iI ((ot : Nat) : Int))), (4, .int (iI ((ln : Nat) : Int)))]) hx hb dL_areKeptSo_15 hl (by decide) rfl (fun ls hl => ?_)
  refine lv_aload_n hx hb dL_areKeptSo_17 rfl (lv_at hl 1 rfl) ?_
  refine lv_iload_n hx hb dL_areKeptSo_18 rfl (lv_at hl 2 rfl) ?_
  refine lv_iload_n hx hb dL_areKeptSo_19 rfl (lv_at hl 3 rfl) ?_
  refine ib_bi hx hb dL_areKeptSo_20 (by decide) ?_
  refine ib_div (z := ((cd / 12 : Nat) : Int)) hx hb dL_areKeptSo_22 (by omega) (by omega) (by omega) (by omega) (by first | omega | rfl) ?_
  refine lv_iload_n hx hb dL_areKeptSo_23 rfl (lv_at hl 3 rfl) ?_
  refine ib_bi hx hb dL_areKeptSo_24 (by decide) ?_
  refine ib_rem (z := ((cd % 12 : Nat) : Int)) hx hb dL_areKeptSo_26 (by omega) (by omega) (by omega) (by omega) (by first | omega | rfl) ?_
  refine rd_call (va_runV (As := [.int (iI ((r : Nat) : Int)), .int (iI ((cd / 12 : Nat) : Int)), .int (iI ((cd % 12 : Nat) : Int))]) (rest := []) ⟨hx, hb, hml, hown, hts⟩ (mX0_longestKept_ok l dC dI o0 a0 a1 q w hp0 hp1 hw hq hqd r (cd / 12) (cd % 12) (by omega) (by omega) (by omega)) (cwV 3 hts gL_areKeptSo_X0_longestKept rfl rfl rfl hvX0_longestKept ⟨Nat.le_of_ble_eq_true rfl, Nat.le_of_ble_eq_true rfl⟩) (bW_pre (ci := 0) (q0 := 0) hK hP rfl rfl rfl) rfl rfl hl.1 rfl (lv_room (Nat.le_of_ble_eq_true rfl)) dL_areKeptSo_27 ⟨Nat.le_of_ble_eq_true rfl, Nat.le_of_ble_eq_true rfl⟩) ?_
  have hf_27 := lkO_le (rw_ r a0 a1) (fm (rw_ r a0 a1) (12 * (cd / 12) + (cd % 12))) 12
  refine st_i (y := iI ((lkO (rw_ r a0 a1) (fm (rw_ r a0 a1) cd) 12 : Nat) : Int)) (congrArg (fun z : Nat => iI ((z : Nat) : Int)) (show lkO (rw_ r a0 a1) (fm (rw_ r a0 a1) (12 * (cd / 12) + cd % 12)) 12 = lkO (rw_ r a0 a1) (fm (rw_ r a0 a1) cd) 12 by rw [show 12 * (cd / 12) + cd % 12 = cd by omega])) ?_
  refine lv_istore (lv' := [(6, .int (iI ((lkO (rw_ r a0 a1) (fm (rw_ r a0 a1) cd) 12 : Nat) : Int))), (5, .int (iI ((skN (rw_ r a0 a1) cd (ln) (13 - (ln)) : Nat) : Int))), (0, .ref o0), (1, .int (iI ((r : Nat) : Int))), (2, .int (iI ((cd : Nat) : Int))), (3, .int (iI ((ot : Nat) : Int))), (4, .int (iI ((ln : Nat) : Int)))]) hx hb dL_areKeptSo_30 hl (by decide) rfl (fun ls hl => ?_)
  refine lv_iload hx hb dL_areKeptSo_32 (lv_at hl 1 rfl) ?_
  refine ib_if_lt (tgt := 115) hx hb dL_areKeptSo_34 (by decide) ⟨by omega, by omega⟩ (fun c_34 => absurd c_34 (by omega)) (fun c_34 => ?_)
  refine lv_iload hx hb dL_areKeptSo_37 (lv_at hl 1 rfl) ?_
  refine ib_bi hx hb dL_areKeptSo_39 (by decide) ?_
  refine lv_iload hx hb dL_areKeptSo_41 (lv_at hl 6 rfl) ?_
  refine ib_sub (z := 13 - ((ln : Nat) : Int)) hx hb dL_areKeptSo_43 (by omega) ?_
  refine ib_icmp_gt (tgt := 115) hx hb dL_areKeptSo_44 (by decide) ⟨by omega, by omega⟩ ⟨by omega, by omega⟩ (fun c_44 => absurd c_44 (by omega)) (fun c_44 => ?_)
  refine lv_iload hx hb dL_areKeptSo_47 (lv_at hl 0 rfl) ?_
  refine ib_const hx hb dL_areKeptSo_49 ?_
  refine ib_icmp_lt (tgt := 115) hx hb dL_areKeptSo_50 (by decide) ⟨by omega, by omega⟩ ⟨by omega, by omega⟩ (fun c_50 => absurd c_50 (by omega)) (fun c_50 => ?_)
  refine lv_iload hx hb dL_areKeptSo_53 (lv_at hl 0 rfl) ?_
  refine ib_bi hx hb dL_areKeptSo_55 (by decide) ?_
  refine ib_icmp_gt (tgt := 115) hx hb dL_areKeptSo_57 (by decide) ⟨by omega, by omega⟩ ⟨by omega, by omega⟩ (fun c_57 => absurd c_57 (by omega)) (fun c_57 => ?_)
  refine lv_iload hx hb dL_areKeptSo_60 (lv_at hl 0 rfl) ?_
  refine lv_iload hx hb dL_areKeptSo_62 (lv_at hl 6 rfl) ?_
  refine ib_icmp_lt (tgt := 73) hx hb dL_areKeptSo_64 (by decide) ⟨by omega, by omega⟩ ⟨by omega, by omega⟩ (fun c_64 => ?_) (fun c_64 => ?_)
  · skip
    refine lv_aload_n hx hb dL_areKeptSo_73 rfl (lv_at hl 2 rfl) ?_
    refine lv_iload_n hx hb dL_areKeptSo_74 rfl (lv_at hl 3 rfl) ?_
    refine lv_iload_n hx hb dL_areKeptSo_75 rfl (lv_at hl 4 rfl) ?_
    refine ib_bi hx hb dL_areKeptSo_76 (by decide) ?_
    refine ib_div (z := ((cd / 12 : Nat) : Int)) hx hb dL_areKeptSo_78 (by omega) (by omega) (by omega) (by omega) (by first | omega | rfl) ?_
    refine lv_iload_n hx hb dL_areKeptSo_79 rfl (lv_at hl 4 rfl) ?_
    refine ib_bi hx hb dL_areKeptSo_80 (by decide) ?_
    refine ib_rem (z := ((cd % 12 : Nat) : Int)) hx hb dL_areKeptSo_82 (by omega) (by omega) (by omega) (by omega) (by first | omega | rfl) ?_
    refine ib_const hx hb dL_areKeptSo_83 ?_
    refine rd_call (va_runV (As := [.int (iI ((r : Nat) : Int)), .int (iI ((cd / 12 : Nat) : Int)), .int (iI ((cd % 12 : Nat) : Int)), .int (iI 1)]) (rest := []) ⟨hx, hb, hml, hown, hts⟩ (mX0_keptSets_ok l dC dI o0 a0 a1 q w hp0 hp1 hw hq hqd r (cd / 12) (cd % 12) 1 (by omega) (by omega) (by omega) (by omega) (by omega)) (cwV 4 hts gL_areKeptSo_X0_keptSets rfl rfl rfl hvX0_keptSets ⟨Nat.le_of_ble_eq_true rfl, Nat.le_of_ble_eq_true rfl⟩) (bW_pre (ci := 0) (q0 := 0) hK hP rfl rfl rfl) rfl rfl hl.1 rfl (lv_room (Nat.le_of_ble_eq_true rfl)) dL_areKeptSo_84 ⟨Nat.le_of_ble_eq_true rfl, Nat.le_of_ble_eq_true rfl⟩) ?_
    have hf_84 := skN_le (rw_ r a0 a1) (12 * (cd / 12) + (cd % 12)) 1 (13 - 1)
    refine st_i (y := iI ((skN (rw_ r a0 a1) cd (1) (13 - (1)) : Nat) : Int)) (congrArg (fun z : Nat => iI ((z : Nat) : Int)) (show skN (rw_ r a0 a1) (12 * (cd / 12) + cd % 12) (1) (13 - (1)) = skN (rw_ r a0 a1) cd (1) (13 - (1)) by rw [show 12 * (cd / 12) + cd % 12 = cd by omega])) ?_
    refine ib_bi hx hb dL_areKeptSo_87 (by decide) ?_
    refine ib_icmp_ne (tgt := 115) hx hb dL_areKeptSo_89 (by decide) ⟨by omega, by omega⟩ ⟨by omega, by omega⟩ (fun c_89 => absurd c_89 (by omega)) (fun c_89 => ?_)
    refine lv_aload_n hx hb dL_areKeptSo_92 rfl (lv_at hl 2 rfl) ?_
    refine lv_iload_n hx hb dL_areKeptSo_93 rfl (lv_at hl 3 rfl) ?_
    refine lv_iload_n hx hb dL_areKeptSo_94 rfl (lv_at hl 4 rfl) ?_
    refine ib_bi hx hb dL_areKeptSo_95 (by decide) ?_
    refine ib_div (z := ((cd / 12 : Nat) : Int)) hx hb dL_areKeptSo_97 (by omega) (by omega) (by omega) (by omega) (by first | omega | rfl) ?_
    refine lv_iload_n hx hb dL_areKeptSo_98 rfl (lv_at hl 4 rfl) ?_
    refine ib_bi hx hb dL_areKeptSo_99 (by decide) ?_
    refine ib_rem (z := ((cd % 12 : Nat) : Int)) hx hb dL_areKeptSo_101 (by omega) (by omega) (by omega) (by omega) (by first | omega | rfl) ?_
    refine ib_bi hx hb dL_areKeptSo_102 (by decide) ?_
    refine rd_call (va_runV (As := [.int (iI ((r : Nat) : Int)), .int (iI ((cd / 12 : Nat) : Int)), .int (iI ((cd % 12 : Nat) : Int)), .int (iI 12)]) (rest := []) ⟨hx, hb, hml, hown, hts⟩ (mX0_keptSets_ok l dC dI o0 a0 a1 q w hp0 hp1 hw hq hqd r (cd / 12) (cd % 12) 12 (by omega) (by omega) (by omega) (by omega) (by omega)) (cwV 4 hts gL_areKeptSo_X0_keptSets rfl rfl rfl hvX0_keptSets ⟨Nat.le_of_ble_eq_true rfl, Nat.le_of_ble_eq_true rfl⟩) (bW_pre (ci := 0) (q0 := 0) hK hP rfl rfl rfl) rfl rfl hl.1 rfl (lv_room (Nat.le_of_ble_eq_true rfl)) dL_areKeptSo_104 ⟨Nat.le_of_ble_eq_true rfl, Nat.le_of_ble_eq_true rfl⟩) ?_
    have hf_104 := skN_le (rw_ r a0 a1) (12 * (cd / 12) + (cd % 12)) 12 (13 - 12)
    refine st_i (y := iI ((skN (rw_ r a0 a1) cd (12) (13 - (12)) : Nat) : Int)) (congrArg (fun z : Nat => iI ((z : Nat) : Int)) (show skN (rw_ r a0 a1) (12 * (cd / 12) + cd % 12) (12) (13 - (12)) = skN (rw_ r a0 a1) cd (12) (13 - (12)) by rw [show 12 * (cd / 12) + cd % 12 = cd by omega])) ?_
    refine ib_const hx hb dL_areKeptSo_107 ?_
    refine ib_icmp_ne (tgt := 115) hx hb dL_areKeptSo_108 (by decide) ⟨by omega, by omega⟩ ⟨by omega, by omega⟩ (fun c_108 => absurd c_108 (by omega)) (fun c_108 => ?_)
    refine ib_const hx hb dL_areKeptSo_111 ?_
    refine lv_goto (tgt := 116) hx hb dL_areKeptSo_112 (by decide) ?_
    refine lv_istore (lv' := [(7, .int (iI 1)), (6, .int (iI ((lkO (rw_ r a0 a1) (fm (rw_ r a0 a1) cd) 12 : Nat) : Int))), (5, .int (iI ((skN (rw_ r a0 a1) cd (ln) (13 - (ln)) : Nat) : Int))), (0, .ref o0), (1, .int (iI ((r : Nat) : Int))), (2, .int (iI ((cd : Nat) : Int))), (3, .int (iI ((ot : Nat) : Int))), (4, .int (iI ((ln : Nat) : Int)))]) hx hb dL_areKeptSo_116 hl (by decide) rfl (fun ls hl => ?_)
    refine lv_aload_n hx hb dL_areKeptSo_118 rfl (lv_at hl 3 rfl) ?_
    refine lv_iload_n hx hb dL_areKeptSo_119 rfl (lv_at hl 4 rfl) ?_
    refine ib_const hx hb dL_areKeptSo_120 ?_
    refine lv_iload hx hb dL_areKeptSo_121 (lv_at hl 7 rfl) ?_
    refine ib_bi hx hb dL_areKeptSo_123 (by decide) ?_
    refine ib_rem (z := ((ln % 10 : Nat) : Int)) hx hb dL_areKeptSo_125 (by omega) (by omega) (by omega) (by omega) (by first | omega | rfl) ?_
    refine ib_add (z := ((2 + (ln % 10) : Nat) : Int)) hx hb dL_areKeptSo_126 (by omega) ?_
    refine rd_call (va_runV (As := [.int (iI ((r : Nat) : Int)), .int (iI ((2 + (ln % 10) : Nat) : Int))]) (rest := []) ⟨hx, hb, hml, hown, hts⟩ (mX0_mostKept_ok l dC dI o0 a0 a1 q w hp0 hp1 hw hq hqd r (2 + (ln % 10)) (by omega) (by omega) (by omega)) (cwV 2 hts gL_areKeptSo_X0_mostKept rfl rfl rfl hvX0_mostKept ⟨Nat.le_of_ble_eq_true rfl, Nat.le_of_ble_eq_true rfl⟩) (bW_pre (ci := 0) (q0 := 0) hK hP rfl rfl rfl) rfl rfl hl.1 rfl (lv_room (Nat.le_of_ble_eq_true rfl)) dL_areKeptSo_127 ⟨Nat.le_of_ble_eq_true rfl, Nat.le_of_ble_eq_true rfl⟩) ?_
    refine st_i (y := iI ((bs : Nat) : Int)) (congrArg iI hb1) ?_
    refine lv_istore (lv' := [(8, .int (iI ((bs : Nat) : Int))), (7, .int (iI 1)), (6, .int (iI ((lkO (rw_ r a0 a1) (fm (rw_ r a0 a1) cd) 12 : Nat) : Int))), (5, .int (iI ((skN (rw_ r a0 a1) cd (ln) (13 - (ln)) : Nat) : Int))), (0, .ref o0), (1, .int (iI ((r : Nat) : Int))), (2, .int (iI ((cd : Nat) : Int))), (3, .int (iI ((ot : Nat) : Int))), (4, .int (iI ((ln : Nat) : Int)))]) hx hb dL_areKeptSo_130 hl (by decide) rfl (fun ls hl => ?_)
    refine lv_iload hx hb dL_areKeptSo_132 (lv_at hl 1 rfl) ?_
    refine ib_if_eq (tgt := 207) hx hb dL_areKeptSo_134 (by decide) ⟨by omega, by omega⟩ (fun c_134 => absurd c_134 (by decide)) (fun c_134 => ?_)
    refine lv_iload hx hb dL_areKeptSo_137 (lv_at hl 0 rfl) ?_
    refine lv_aload_n hx hb dL_areKeptSo_139 rfl (lv_at hl 4 rfl) ?_
    refine lv_iload_n hx hb dL_areKeptSo_140 rfl (lv_at hl 5 rfl) ?_
    refine ib_const hx hb dL_areKeptSo_141 ?_
    refine rd_call (va_runV (As := [.int (iI ((r : Nat) : Int)), .int (iI 0)]) (rest := [.int (iI ((bs : Nat) : Int))]) ⟨hx, hb, hml, hown, hts⟩ (mX0_tone_ok l dC dI o0 a0 a1 q w hp0 hp1 hw hq hqd r 0 (by omega) (by omega)) (cwV 2 hts gL_areKeptSo_X0_tone rfl rfl rfl hvX0_tone ⟨Nat.le_of_ble_eq_true rfl, Nat.le_of_ble_eq_true rfl⟩) (bW_pre (ci := 0) (q0 := 0) hK hP rfl rfl rfl) rfl rfl hl.1 rfl (lv_room (Nat.le_of_ble_eq_true rfl)) dL_areKeptSo_142 ⟨Nat.le_of_ble_eq_true rfl, Nat.le_of_ble_eq_true rfl⟩) ?_
    have hf_142 := rw_lt hp0.1 hp1.1 r (i := 0) (by omega)
    refine ib_icmp_eq (tgt := 207) hx hb dL_areKeptSo_145 (by decide) ⟨by omega, by omega⟩ ⟨by omega, by omega⟩ (fun c_145 => absurd c_145 (by omega)) (fun c_145 => ?_)
    refine lv_iload_n hx hb dL_areKeptSo_148 rfl (lv_at hl 6 rfl) ?_
    refine lv_aload_n hx hb dL_areKeptSo_149 rfl (lv_at hl 4 rfl) ?_
    refine lv_iload_n hx hb dL_areKeptSo_150 rfl (lv_at hl 5 rfl) ?_
    refine ib_const hx hb dL_areKeptSo_151 ?_
    refine rd_call (va_runV (As := [.int (iI ((r : Nat) : Int)), .int (iI 0)]) (rest := [.int (iI ((cd : Nat) : Int))]) ⟨hx, hb, hml, hown, hts⟩ (mX0_tone_ok l dC dI o0 a0 a1 q w hp0 hp1 hw hq hqd r 0 (by omega) (by omega)) (cwV 2 hts gL_areKeptSo_X0_tone rfl rfl rfl hvX0_tone ⟨Nat.le_of_ble_eq_true rfl, Nat.le_of_ble_eq_true rfl⟩) (bW_pre (ci := 0) (q0 := 0) hK hP rfl rfl rfl) rfl rfl hl.1 rfl (lv_room (Nat.le_of_ble_eq_true rfl)) dL_areKeptSo_152 ⟨Nat.le_of_ble_eq_true rfl, Nat.le_of_ble_eq_true rfl⟩) ?_
    have hf_152 := rw_lt hp0.1 hp1.1 r (i := 0) (by omega)
    refine ib_icmp_eq (tgt := 203) hx hb dL_areKeptSo_155 (by decide) ⟨by omega, by omega⟩ ⟨by omega, by omega⟩ (fun c_155 => ?_) (fun c_155 => ?_)
    · skip
      refine ib_const hx hb dL_areKeptSo_203 ?_
      refine lv_goto (tgt := 208) hx hb dL_areKeptSo_204 (by decide) ?_
      refine lv_istore (lv' := [(7, .int (iI 1)), (8, .int (iI ((bs : Nat) : Int))), (6, .int (iI ((lkO (rw_ r a0 a1) (fm (rw_ r a0 a1) cd) 12 : Nat) : Int))), (5, .int (iI ((skN (rw_ r a0 a1) cd (ln) (13 - (ln)) : Nat) : Int))), (0, .ref o0), (1, .int (iI ((r : Nat) : Int))), (2, .int (iI ((cd : Nat) : Int))), (3, .int (iI ((ot : Nat) : Int))), (4, .int (iI ((ln : Nat) : Int)))]) hx hb dL_areKeptSo_208 hl (by decide) rfl (fun ls hl => ?_)
      refine lv_aload_n hx hb dL_areKeptSo_210 rfl (lv_at hl 4 rfl) ?_
      refine lv_iload_n hx hb dL_areKeptSo_211 rfl (lv_at hl 6 rfl) ?_
      refine lv_iload_n hx hb dL_areKeptSo_212 rfl (lv_at hl 7 rfl) ?_
      refine rd_call (va_runV (As := [.int (iI ((cd : Nat) : Int)), .int (iI ((ot : Nat) : Int))]) (rest := []) ⟨hx, hb, hml, hown, hts⟩ (mX0_cuts_ok l dC dI o0 a0 a1 q w hp0 hp1 hw hq hqd cd ot (by omega) (by omega)) (cwV 2 hts gL_areKeptSo_X0_cuts rfl rfl rfl hvX0_cuts ⟨Nat.le_of_ble_eq_true rfl, Nat.le_of_ble_eq_true rfl⟩) (bW_pre (ci := 0) (q0 := 0) hK hP rfl rfl rfl) rfl rfl hl.1 rfl (lv_room (Nat.le_of_ble_eq_true rfl)) dL_areKeptSo_213 ⟨Nat.le_of_ble_eq_true rfl, Nat.le_of_ble_eq_true rfl⟩) ?_
      have hf_213 := ctN_lt (fm (rw_ 0 a0 a1) cd) (fm (rw_ 1 a0 a1) ot) 13 (by decide)
      refine lv_istore (lv' := [(9, .int (iI ((ctN (fm (rw_ 0 a0 a1) cd) (fm (rw_ 1 a0 a1) ot) 13 : Nat) : Int))), (7, .int (iI 1)), (8, .int (iI ((bs : Nat) : Int))), (6, .int (iI ((lkO (rw_ r a0 a1) (fm (rw_ r a0 a1) cd) 12 : Nat) : Int))), (5, .int (iI ((skN (rw_ r a0 a1) cd (ln) (13 - (ln)) : Nat) : Int))), (0, .ref o0), (1, .int (iI ((r : Nat) : Int))), (2, .int (iI ((cd : Nat) : Int))), (3, .int (iI ((ot : Nat) : Int))), (4, .int (iI ((ln : Nat) : Int)))]) hx hb dL_areKeptSo_216 hl (by decide) rfl (fun ls hl => ?_)
      refine lv_iload hx hb dL_areKeptSo_218 (lv_at hl 1 rfl) ?_
      refine ib_if_eq (tgt := 246) hx hb dL_areKeptSo_220 (by decide) ⟨by omega, by omega⟩ (fun c_220 => absurd c_220 (by decide)) (fun c_220 => ?_)
      refine lv_iload hx hb dL_areKeptSo_223 (lv_at hl 0 rfl) ?_
      refine ib_const hx hb dL_areKeptSo_225 ?_
      refine lv_iand hx hb dL_areKeptSo_226 ?_
      refine st_i (y := iI 1) ((ir_and _ 1).trans (congrArg (fun z : Nat => iI ((z : Nat) : Int)) hc0)) ?_
      refine ib_const hx hb dL_areKeptSo_227 ?_
      refine ib_icmp_ne (tgt := 246) hx hb dL_areKeptSo_228 (by decide) ⟨by omega, by omega⟩ ⟨by omega, by omega⟩ (fun c_228 => absurd c_228 (by decide)) (fun c_228 => ?_)
      refine lv_iload hx hb dL_areKeptSo_231 (lv_at hl 0 rfl) ?_
      refine ib_bi hx hb dL_areKeptSo_233 (by decide) ?_
      refine lv_ishr hx hb dL_areKeptSo_235 ?_
      refine st_i (y := iI ((ctN (fm (rw_ 0 a0 a1) cd) (fm (rw_ 1 a0 a1) ot) 13 / 2 ^ 12 : Nat) : Int)) (ir_shr (by decide) (by omega)) ?_
      refine ib_const hx hb dL_areKeptSo_236 ?_
      refine lv_iand hx hb dL_areKeptSo_237 ?_
      refine st_i (y := iI 1) ((ir_and _ 1).trans (congrArg (fun z : Nat => iI ((z : Nat) : Int)) hc12)) ?_
      refine ib_const hx hb dL_areKeptSo_238 ?_
      refine ib_icmp_ne (tgt := 246) hx hb dL_areKeptSo_239 (by decide) ⟨by omega, by omega⟩ ⟨by omega, by omega⟩ (fun c_239 => absurd c_239 (by decide)) (fun c_239 => ?_)
      refine ib_const hx hb dL_areKeptSo_242 ?_
      refine lv_goto (tgt := 247) hx hb dL_areKeptSo_243 (by decide) ?_
      refine lv_istore (lv' := [(7, .int (iI 1)), (9, .int (iI ((ctN (fm (rw_ 0 a0 a1) cd) (fm (rw_ 1 a0 a1) ot) 13 : Nat) : Int))), (8, .int (iI ((bs : Nat) : Int))), (6, .int (iI ((lkO (rw_ r a0 a1) (fm (rw_ r a0 a1) cd) 12 : Nat) : Int))), (5, .int (iI ((skN (rw_ r a0 a1) cd (ln) (13 - (ln)) : Nat) : Int))), (0, .ref o0), (1, .int (iI ((r : Nat) : Int))), (2, .int (iI ((cd : Nat) : Int))), (3, .int (iI ((ot : Nat) : Int))), (4, .int (iI ((ln : Nat) : Int)))]) hx hb dL_areKeptSo_247 hl (by decide) rfl (fun ls hl => ?_)
      refine lv_aload_n hx hb dL_areKeptSo_249 rfl (lv_at hl 5 rfl) ?_
      refine lv_iload_n hx hb dL_areKeptSo_250 rfl (lv_at hl 6 rfl) ?_
      refine rd_call (va_runV (As := [.int (iI ((r : Nat) : Int))]) (rest := []) ⟨hx, hb, hml, hown, hts⟩ (mX0_formsWithPhrase_ok l dC dI o0 a0 a1 q w hp0 hp1 hw hq hqd r (by omega)) (cwV 1 hts gL_areKeptSo_X0_formsWithPhrase rfl rfl rfl hvX0_formsWithPhrase ⟨Nat.le_of_ble_eq_true rfl, Nat.le_of_ble_eq_true rfl⟩) (bW_pre (ci := 0) (q0 := 0) hK hP rfl rfl rfl) rfl rfl hl.1 rfl (lv_room (Nat.le_of_ble_eq_true rfl)) dL_areKeptSo_251 ⟨Nat.le_of_ble_eq_true rfl, Nat.le_of_ble_eq_true rfl⟩) ?_
      refine lv_lstore (lv' := [(10, .long (fpL (rw_ r a0 a1) q w 48)), (7, .int (iI 1)), (9, .int (iI ((ctN (fm (rw_ 0 a0 a1) cd) (fm (rw_ 1 a0 a1) ot) 13 : Nat) : Int))), (8, .int (iI ((bs : Nat) : Int))), (6, .int (iI ((lkO (rw_ r a0 a1) (fm (rw_ r a0 a1) cd) 12 : Nat) : Int))), (5, .int (iI ((skN (rw_ r a0 a1) cd (ln) (13 - (ln)) : Nat) : Int))), (0, .ref o0), (1, .int (iI ((r : Nat) : Int))), (2, .int (iI ((cd : Nat) : Int))), (3, .int (iI ((ot : Nat) : Int))), (4, .int (iI ((ln : Nat) : Int)))]) hx hb dL_areKeptSo_254 hl (by decide) rfl (fun ls hl => ?_)
      refine lv_aload_n hx hb dL_areKeptSo_256 rfl (lv_at hl 6 rfl) ?_
      refine lv_iload_n hx hb dL_areKeptSo_257 rfl (lv_at hl 7 rfl) ?_
      refine lv_iload_n hx hb dL_areKeptSo_258 rfl (lv_at hl 8 rfl) ?_
      refine rd_call (va_runV (As := [.int (iI ((r : Nat) : Int)), .int (iI ((cd : Nat) : Int))]) (rest := []) ⟨hx, hb, hml, hown, hts⟩ (mX0_placeOfPhrase_ok l dC dI o0 a0 a1 q w hp0 hp1 hw hq hqd r cd (by omega) (by omega)) (cwV 2 hts gL_areKeptSo_X0_placeOfPhrase rfl rfl rfl hvX0_placeOfPhrase ⟨Nat.le_of_ble_eq_true rfl, Nat.le_of_ble_eq_true rfl⟩) (bW_pre (ci := 0) (q0 := 0) hK hP rfl rfl rfl) rfl rfl hl.1 rfl (lv_room (Nat.le_of_ble_eq_true rfl)) dL_areKeptSo_259 ⟨Nat.le_of_ble_eq_true rfl, Nat.le_of_ble_eq_true rfl⟩) ?_
      have hf_259 := plF_in (rw_ r a0 a1) q cd w
      refine lv_istore (lv' := [(12, .int (iI (if w = 0 then -1 else plF (rw_ r a0 a1) q cd w))), (10, .long (fpL (rw_ r a0 a1) q w 48)), (7, .int (iI 1)), (9, .int (iI ((ctN (fm (rw_ 0 a0 a1) cd) (fm (rw_ 1 a0 a1) ot) 13 : Nat) : Int))), (8, .int (iI ((bs : Nat) : Int))), (6, .int (iI ((lkO (rw_ r a0 a1) (fm (rw_ r a0 a1) cd) 12 : Nat) : Int))), (5, .int (iI ((skN (rw_ r a0 a1) cd (ln) (13 - (ln)) : Nat) : Int))), (0, .ref o0), (1, .int (iI ((r : Nat) : Int))), (2, .int (iI ((cd : Nat) : Int))), (3, .int (iI ((ot : Nat) : Int))), (4, .int (iI ((ln : Nat) : Int)))]) hx hb dL_areKeptSo_262 hl (by decide) rfl (fun ls hl => ?_)
      refine lv_iload hx hb dL_areKeptSo_264 (lv_at hl 2 rfl) ?_
      refine ib_if_eq (tgt := 299) hx hb dL_areKeptSo_266 (by decide) ⟨by omega, by omega⟩ (fun c_266 => absurd c_266 (by decide)) (fun c_266 => ?_)
      refine lv_iload hx hb dL_areKeptSo_269 (lv_at hl 0 rfl) ?_
      refine ib_if_lt (tgt := 285) hx hb dL_areKeptSo_271 (by decide) ⟨by omega, by omega⟩ (fun c_271 => ?_) (fun c_271 => ?_)
      · skip
        refine lv_lload hx hb dL_areKeptSo_285 (lv_at hl 1 rfl) ?_
        refine ib_bi hx hb dL_areKeptSo_287 (by decide) ?_
        refine lv_lshr hx hb dL_areKeptSo_289 rfl ?_
        refine st_l (y := (0 : Int64)) (ls_48 (fp_lt _ _ _)) ?_
        refine lv_lconst (v := 0) hx hb dL_areKeptSo_290 (by decide) ?_
        refine W.lcmp hx hb dL_areKeptSo_291 ?_
        refine bl_ne (tgt := 299) hx hb dL_areKeptSo_292 (by decide) (fun c_292 => absurd c_292 (fun h => h rfl)) (fun c_292 => ?_)
        refine ib_const hx hb dL_areKeptSo_295 ?_
        refine lv_goto (tgt := 300) hx hb dL_areKeptSo_296 (by decide) ?_
        exact W.zret hx hb hr (nar_1) (fun t ht _ => ⟨rfl, ht⟩) (fun _ h => nomatch h) dL_areKeptSo_300
      · skip
        refine lv_lload hx hb dL_areKeptSo_274 (lv_at hl 1 rfl) ?_
        refine lv_iload_n hx hb dL_areKeptSo_276 rfl (lv_at hl 9 rfl) ?_
        refine lv_lshr hx hb dL_areKeptSo_277 rfl ?_
        refine lv_lconst (v := 1) hx hb dL_areKeptSo_278 (by decide) ?_
        refine lv_land hx hb dL_areKeptSo_279 ?_
        refine st_l (y := (1 : Int64)) (fp_at hcd (by omega)) ?_
        refine lv_lconst (v := 1) hx hb dL_areKeptSo_280 (by decide) ?_
        refine W.lcmp hx hb dL_areKeptSo_281 ?_
        refine bl_ne (tgt := 299) hx hb dL_areKeptSo_282 (by decide) (fun c_282 => absurd c_282 (fun h => h rfl)) (fun c_282 => ?_)
        refine lv_lload hx hb dL_areKeptSo_285 (lv_at hl 1 rfl) ?_
        refine ib_bi hx hb dL_areKeptSo_287 (by decide) ?_
        refine lv_lshr hx hb dL_areKeptSo_289 rfl ?_
        refine st_l (y := (0 : Int64)) (ls_48 (fp_lt _ _ _)) ?_
        refine lv_lconst (v := 0) hx hb dL_areKeptSo_290 (by decide) ?_
        refine W.lcmp hx hb dL_areKeptSo_291 ?_
        refine bl_ne (tgt := 299) hx hb dL_areKeptSo_292 (by decide) (fun c_292 => absurd c_292 (fun h => h rfl)) (fun c_292 => ?_)
        refine ib_const hx hb dL_areKeptSo_295 ?_
        refine lv_goto (tgt := 300) hx hb dL_areKeptSo_296 (by decide) ?_
        exact W.zret hx hb hr (nar_1) (fun t ht _ => ⟨rfl, ht⟩) (fun _ h => nomatch h) dL_areKeptSo_300
    · skip
      have hb6 := hb5 (by omega)
      refine lv_aload_n hx hb dL_areKeptSo_158 rfl (lv_at hl 4 rfl) ?_
      refine lv_iload_n hx hb dL_areKeptSo_159 rfl (lv_at hl 5 rfl) ?_
      refine lv_iload hx hb dL_areKeptSo_160 (lv_at hl 0 rfl) ?_
      refine ib_bi hx hb dL_areKeptSo_162 (by decide) ?_
      refine ib_div (z := ((bs / 12 : Nat) : Int)) hx hb dL_areKeptSo_164 (by omega) (by omega) (by omega) (by omega) (by first | omega | rfl) ?_
      refine lv_iload hx hb dL_areKeptSo_165 (lv_at hl 0 rfl) ?_
      refine ib_bi hx hb dL_areKeptSo_167 (by decide) ?_
      refine ib_rem (z := ((bs % 12 : Nat) : Int)) hx hb dL_areKeptSo_169 (by omega) (by omega) (by omega) (by omega) (by first | omega | rfl) ?_
      refine ib_const hx hb dL_areKeptSo_170 ?_
      refine lv_iload hx hb dL_areKeptSo_171 (lv_at hl 8 rfl) ?_
      refine ib_bi hx hb dL_areKeptSo_173 (by decide) ?_
      refine ib_rem (z := ((ln % 10 : Nat) : Int)) hx hb dL_areKeptSo_175 (by omega) (by omega) (by omega) (by omega) (by first | omega | rfl) ?_
      refine ib_add (z := ((2 + (ln % 10) : Nat) : Int)) hx hb dL_areKeptSo_176 (by omega) ?_
      refine rd_call (va_runV (As := [.int (iI ((r : Nat) : Int)), .int (iI ((bs / 12 : Nat) : Int)), .int (iI ((bs % 12 : Nat) : Int)), .int (iI ((2 + (ln % 10) : Nat) : Int))]) (rest := []) ⟨hx, hb, hml, hown, hts⟩ (mX0_keptSets_ok l dC dI o0 a0 a1 q w hp0 hp1 hw hq hqd r (bs / 12) (bs % 12) (2 + (ln % 10)) (by omega) (by omega) (by omega) (by omega) (by omega)) (cwV 4 hts gL_areKeptSo_X0_keptSets rfl rfl rfl hvX0_keptSets ⟨Nat.le_of_ble_eq_true rfl, Nat.le_of_ble_eq_true rfl⟩) (bW_pre (ci := 0) (q0 := 0) hK hP rfl rfl rfl) rfl rfl hl.1 rfl (lv_room (Nat.le_of_ble_eq_true rfl)) dL_areKeptSo_177 ⟨Nat.le_of_ble_eq_true rfl, Nat.le_of_ble_eq_true rfl⟩) ?_
      have hf_177 := skN_le (rw_ r a0 a1) (12 * (bs / 12) + (bs % 12)) (2 + (ln % 10)) (13 - (2 + (ln % 10)))
      refine st_i (y := iI ((skN (rw_ r a0 a1) bs (2 + ln % 10) (13 - (2 + ln % 10)) : Nat) : Int)) (congrArg (fun z : Nat => iI ((z : Nat) : Int)) (show skN (rw_ r a0 a1) (12 * (bs / 12) + bs % 12) (2 + ln % 10) (13 - (2 + ln % 10)) = skN (rw_ r a0 a1) bs (2 + ln % 10) (13 - (2 + ln % 10)) by rw [show 12 * (bs / 12) + bs % 12 = bs by omega])) ?_
      refine lv_aload_n hx hb dL_areKeptSo_180 rfl (lv_at hl 4 rfl) ?_
      refine lv_iload_n hx hb dL_areKeptSo_181 rfl (lv_at hl 5 rfl) ?_
      refine lv_iload_n hx hb dL_areKeptSo_182 rfl (lv_at hl 6 rfl) ?_
      refine ib_bi hx hb dL_areKeptSo_183 (by decide) ?_
      refine ib_div (z := ((cd / 12 : Nat) : Int)) hx hb dL_areKeptSo_185 (by omega) (by omega) (by omega) (by omega) (by first | omega | rfl) ?_
      refine lv_iload_n hx hb dL_areKeptSo_186 rfl (lv_at hl 6 rfl) ?_
      refine ib_bi hx hb dL_areKeptSo_187 (by decide) ?_
      refine ib_rem (z := ((cd % 12 : Nat) : Int)) hx hb dL_areKeptSo_189 (by omega) (by omega) (by omega) (by omega) (by first | omega | rfl) ?_
      refine ib_const hx hb dL_areKeptSo_190 ?_
      refine lv_iload hx hb dL_areKeptSo_191 (lv_at hl 8 rfl) ?_
      refine ib_bi hx hb dL_areKeptSo_193 (by decide) ?_
      refine ib_rem (z := ((ln % 10 : Nat) : Int)) hx hb dL_areKeptSo_195 (by omega) (by omega) (by omega) (by omega) (by first | omega | rfl) ?_
      refine ib_add (z := ((2 + (ln % 10) : Nat) : Int)) hx hb dL_areKeptSo_196 (by omega) ?_
      refine rd_call (va_runV (As := [.int (iI ((r : Nat) : Int)), .int (iI ((cd / 12 : Nat) : Int)), .int (iI ((cd % 12 : Nat) : Int)), .int (iI ((2 + (ln % 10) : Nat) : Int))]) (rest := [.int (iI ((skN (rw_ r a0 a1) bs (2 + ln % 10) (13 - (2 + ln % 10)) : Nat) : Int))]) ⟨hx, hb, hml, hown, hts⟩ (mX0_keptSets_ok l dC dI o0 a0 a1 q w hp0 hp1 hw hq hqd r (cd / 12) (cd % 12) (2 + (ln % 10)) (by omega) (by omega) (by omega) (by omega) (by omega)) (cwV 4 hts gL_areKeptSo_X0_keptSets rfl rfl rfl hvX0_keptSets ⟨Nat.le_of_ble_eq_true rfl, Nat.le_of_ble_eq_true rfl⟩) (bW_pre (ci := 0) (q0 := 0) hK hP rfl rfl rfl) rfl rfl hl.1 rfl (lv_room (Nat.le_of_ble_eq_true rfl)) dL_areKeptSo_197 ⟨Nat.le_of_ble_eq_true rfl, Nat.le_of_ble_eq_true rfl⟩) ?_
      have hf_197 := skN_le (rw_ r a0 a1) (12 * (cd / 12) + (cd % 12)) (2 + (ln % 10)) (13 - (2 + (ln % 10)))
      refine st_i (y := iI ((skN (rw_ r a0 a1) cd (2 + ln % 10) (13 - (2 + ln % 10)) : Nat) : Int)) (congrArg (fun z : Nat => iI ((z : Nat) : Int)) (show skN (rw_ r a0 a1) (12 * (cd / 12) + cd % 12) (2 + ln % 10) (13 - (2 + ln % 10)) = skN (rw_ r a0 a1) cd (2 + ln % 10) (13 - (2 + ln % 10)) by rw [show 12 * (cd / 12) + cd % 12 = cd by omega])) ?_
      refine ib_icmp_lt (tgt := 207) hx hb dL_areKeptSo_200 (by decide) ⟨by omega, by omega⟩ ⟨by omega, by omega⟩ (fun c_200 => absurd c_200 (by omega)) (fun c_200 => ?_)
      refine ib_const hx hb dL_areKeptSo_203 ?_
      refine lv_goto (tgt := 208) hx hb dL_areKeptSo_204 (by decide) ?_
      refine lv_istore (lv' := [(7, .int (iI 1)), (8, .int (iI ((bs : Nat) : Int))), (6, .int (iI ((lkO (rw_ r a0 a1) (fm (rw_ r a0 a1) cd) 12 : Nat) : Int))), (5, .int (iI ((skN (rw_ r a0 a1) cd (ln) (13 - (ln)) : Nat) : Int))), (0, .ref o0), (1, .int (iI ((r : Nat) : Int))), (2, .int (iI ((cd : Nat) : Int))), (3, .int (iI ((ot : Nat) : Int))), (4, .int (iI ((ln : Nat) : Int)))]) hx hb dL_areKeptSo_208 hl (by decide) rfl (fun ls hl => ?_)
      refine lv_aload_n hx hb dL_areKeptSo_210 rfl (lv_at hl 4 rfl) ?_
      refine lv_iload_n hx hb dL_areKeptSo_211 rfl (lv_at hl 6 rfl) ?_
      refine lv_iload_n hx hb dL_areKeptSo_212 rfl (lv_at hl 7 rfl) ?_
      refine rd_call (va_runV (As := [.int (iI ((cd : Nat) : Int)), .int (iI ((ot : Nat) : Int))]) (rest := []) ⟨hx, hb, hml, hown, hts⟩ (mX0_cuts_ok l dC dI o0 a0 a1 q w hp0 hp1 hw hq hqd cd ot (by omega) (by omega)) (cwV 2 hts gL_areKeptSo_X0_cuts rfl rfl rfl hvX0_cuts ⟨Nat.le_of_ble_eq_true rfl, Nat.le_of_ble_eq_true rfl⟩) (bW_pre (ci := 0) (q0 := 0) hK hP rfl rfl rfl) rfl rfl hl.1 rfl (lv_room (Nat.le_of_ble_eq_true rfl)) dL_areKeptSo_213 ⟨Nat.le_of_ble_eq_true rfl, Nat.le_of_ble_eq_true rfl⟩) ?_
      have hf_213 := ctN_lt (fm (rw_ 0 a0 a1) cd) (fm (rw_ 1 a0 a1) ot) 13 (by decide)
      refine lv_istore (lv' := [(9, .int (iI ((ctN (fm (rw_ 0 a0 a1) cd) (fm (rw_ 1 a0 a1) ot) 13 : Nat) : Int))), (7, .int (iI 1)), (8, .int (iI ((bs : Nat) : Int))), (6, .int (iI ((lkO (rw_ r a0 a1) (fm (rw_ r a0 a1) cd) 12 : Nat) : Int))), (5, .int (iI ((skN (rw_ r a0 a1) cd (ln) (13 - (ln)) : Nat) : Int))), (0, .ref o0), (1, .int (iI ((r : Nat) : Int))), (2, .int (iI ((cd : Nat) : Int))), (3, .int (iI ((ot : Nat) : Int))), (4, .int (iI ((ln : Nat) : Int)))]) hx hb dL_areKeptSo_216 hl (by decide) rfl (fun ls hl => ?_)
      refine lv_iload hx hb dL_areKeptSo_218 (lv_at hl 1 rfl) ?_
      refine ib_if_eq (tgt := 246) hx hb dL_areKeptSo_220 (by decide) ⟨by omega, by omega⟩ (fun c_220 => absurd c_220 (by decide)) (fun c_220 => ?_)
      refine lv_iload hx hb dL_areKeptSo_223 (lv_at hl 0 rfl) ?_
      refine ib_const hx hb dL_areKeptSo_225 ?_
      refine lv_iand hx hb dL_areKeptSo_226 ?_
      refine st_i (y := iI 1) ((ir_and _ 1).trans (congrArg (fun z : Nat => iI ((z : Nat) : Int)) hc0)) ?_
      refine ib_const hx hb dL_areKeptSo_227 ?_
      refine ib_icmp_ne (tgt := 246) hx hb dL_areKeptSo_228 (by decide) ⟨by omega, by omega⟩ ⟨by omega, by omega⟩ (fun c_228 => absurd c_228 (by decide)) (fun c_228 => ?_)
      refine lv_iload hx hb dL_areKeptSo_231 (lv_at hl 0 rfl) ?_
      refine ib_bi hx hb dL_areKeptSo_233 (by decide) ?_
      refine lv_ishr hx hb dL_areKeptSo_235 ?_
      refine st_i (y := iI ((ctN (fm (rw_ 0 a0 a1) cd) (fm (rw_ 1 a0 a1) ot) 13 / 2 ^ 12 : Nat) : Int)) (ir_shr (by decide) (by omega)) ?_
      refine ib_const hx hb dL_areKeptSo_236 ?_
      refine lv_iand hx hb dL_areKeptSo_237 ?_
      refine st_i (y := iI 1) ((ir_and _ 1).trans (congrArg (fun z : Nat => iI ((z : Nat) : Int)) hc12)) ?_
      refine ib_const hx hb dL_areKeptSo_238 ?_
      refine ib_icmp_ne (tgt := 246) hx hb dL_areKeptSo_239 (by decide) ⟨by omega, by omega⟩ ⟨by omega, by omega⟩ (fun c_239 => absurd c_239 (by decide)) (fun c_239 => ?_)
      refine ib_const hx hb dL_areKeptSo_242 ?_
      refine lv_goto (tgt := 247) hx hb dL_areKeptSo_243 (by decide) ?_
      refine lv_istore (lv' := [(7, .int (iI 1)), (9, .int (iI ((ctN (fm (rw_ 0 a0 a1) cd) (fm (rw_ 1 a0 a1) ot) 13 : Nat) : Int))), (8, .int (iI ((bs : Nat) : Int))), (6, .int (iI ((lkO (rw_ r a0 a1) (fm (rw_ r a0 a1) cd) 12 : Nat) : Int))), (5, .int (iI ((skN (rw_ r a0 a1) cd (ln) (13 - (ln)) : Nat) : Int))), (0, .ref o0), (1, .int (iI ((r : Nat) : Int))), (2, .int (iI ((cd : Nat) : Int))), (3, .int (iI ((ot : Nat) : Int))), (4, .int (iI ((ln : Nat) : Int)))]) hx hb dL_areKeptSo_247 hl (by decide) rfl (fun ls hl => ?_)
      refine lv_aload_n hx hb dL_areKeptSo_249 rfl (lv_at hl 5 rfl) ?_
      refine lv_iload_n hx hb dL_areKeptSo_250 rfl (lv_at hl 6 rfl) ?_
      refine rd_call (va_runV (As := [.int (iI ((r : Nat) : Int))]) (rest := []) ⟨hx, hb, hml, hown, hts⟩ (mX0_formsWithPhrase_ok l dC dI o0 a0 a1 q w hp0 hp1 hw hq hqd r (by omega)) (cwV 1 hts gL_areKeptSo_X0_formsWithPhrase rfl rfl rfl hvX0_formsWithPhrase ⟨Nat.le_of_ble_eq_true rfl, Nat.le_of_ble_eq_true rfl⟩) (bW_pre (ci := 0) (q0 := 0) hK hP rfl rfl rfl) rfl rfl hl.1 rfl (lv_room (Nat.le_of_ble_eq_true rfl)) dL_areKeptSo_251 ⟨Nat.le_of_ble_eq_true rfl, Nat.le_of_ble_eq_true rfl⟩) ?_
      refine lv_lstore (lv' := [(10, .long (fpL (rw_ r a0 a1) q w 48)), (7, .int (iI 1)), (9, .int (iI ((ctN (fm (rw_ 0 a0 a1) cd) (fm (rw_ 1 a0 a1) ot) 13 : Nat) : Int))), (8, .int (iI ((bs : Nat) : Int))), (6, .int (iI ((lkO (rw_ r a0 a1) (fm (rw_ r a0 a1) cd) 12 : Nat) : Int))), (5, .int (iI ((skN (rw_ r a0 a1) cd (ln) (13 - (ln)) : Nat) : Int))), (0, .ref o0), (1, .int (iI ((r : Nat) : Int))), (2, .int (iI ((cd : Nat) : Int))), (3, .int (iI ((ot : Nat) : Int))), (4, .int (iI ((ln : Nat) : Int)))]) hx hb dL_areKeptSo_254 hl (by decide) rfl (fun ls hl => ?_)
      refine lv_aload_n hx hb dL_areKeptSo_256 rfl (lv_at hl 6 rfl) ?_
      refine lv_iload_n hx hb dL_areKeptSo_257 rfl (lv_at hl 7 rfl) ?_
      refine lv_iload_n hx hb dL_areKeptSo_258 rfl (lv_at hl 8 rfl) ?_
      refine rd_call (va_runV (As := [.int (iI ((r : Nat) : Int)), .int (iI ((cd : Nat) : Int))]) (rest := []) ⟨hx, hb, hml, hown, hts⟩ (mX0_placeOfPhrase_ok l dC dI o0 a0 a1 q w hp0 hp1 hw hq hqd r cd (by omega) (by omega)) (cwV 2 hts gL_areKeptSo_X0_placeOfPhrase rfl rfl rfl hvX0_placeOfPhrase ⟨Nat.le_of_ble_eq_true rfl, Nat.le_of_ble_eq_true rfl⟩) (bW_pre (ci := 0) (q0 := 0) hK hP rfl rfl rfl) rfl rfl hl.1 rfl (lv_room (Nat.le_of_ble_eq_true rfl)) dL_areKeptSo_259 ⟨Nat.le_of_ble_eq_true rfl, Nat.le_of_ble_eq_true rfl⟩) ?_
      have hf_259 := plF_in (rw_ r a0 a1) q cd w
      refine lv_istore (lv' := [(12, .int (iI (if w = 0 then -1 else plF (rw_ r a0 a1) q cd w))), (10, .long (fpL (rw_ r a0 a1) q w 48)), (7, .int (iI 1)), (9, .int (iI ((ctN (fm (rw_ 0 a0 a1) cd) (fm (rw_ 1 a0 a1) ot) 13 : Nat) : Int))), (8, .int (iI ((bs : Nat) : Int))), (6, .int (iI ((lkO (rw_ r a0 a1) (fm (rw_ r a0 a1) cd) 12 : Nat) : Int))), (5, .int (iI ((skN (rw_ r a0 a1) cd (ln) (13 - (ln)) : Nat) : Int))), (0, .ref o0), (1, .int (iI ((r : Nat) : Int))), (2, .int (iI ((cd : Nat) : Int))), (3, .int (iI ((ot : Nat) : Int))), (4, .int (iI ((ln : Nat) : Int)))]) hx hb dL_areKeptSo_262 hl (by decide) rfl (fun ls hl => ?_)
      refine lv_iload hx hb dL_areKeptSo_264 (lv_at hl 2 rfl) ?_
      refine ib_if_eq (tgt := 299) hx hb dL_areKeptSo_266 (by decide) ⟨by omega, by omega⟩ (fun c_266 => absurd c_266 (by decide)) (fun c_266 => ?_)
      refine lv_iload hx hb dL_areKeptSo_269 (lv_at hl 0 rfl) ?_
      refine ib_if_lt (tgt := 285) hx hb dL_areKeptSo_271 (by decide) ⟨by omega, by omega⟩ (fun c_271 => ?_) (fun c_271 => ?_)
      · skip
        refine lv_lload hx hb dL_areKeptSo_285 (lv_at hl 1 rfl) ?_
        refine ib_bi hx hb dL_areKeptSo_287 (by decide) ?_
        refine lv_lshr hx hb dL_areKeptSo_289 rfl ?_
        refine st_l (y := (0 : Int64)) (ls_48 (fp_lt _ _ _)) ?_
        refine lv_lconst (v := 0) hx hb dL_areKeptSo_290 (by decide) ?_
        refine W.lcmp hx hb dL_areKeptSo_291 ?_
        refine bl_ne (tgt := 299) hx hb dL_areKeptSo_292 (by decide) (fun c_292 => absurd c_292 (fun h => h rfl)) (fun c_292 => ?_)
        refine ib_const hx hb dL_areKeptSo_295 ?_
        refine lv_goto (tgt := 300) hx hb dL_areKeptSo_296 (by decide) ?_
        exact W.zret hx hb hr (nar_1) (fun t ht _ => ⟨rfl, ht⟩) (fun _ h => nomatch h) dL_areKeptSo_300
      · skip
        refine lv_lload hx hb dL_areKeptSo_274 (lv_at hl 1 rfl) ?_
        refine lv_iload_n hx hb dL_areKeptSo_276 rfl (lv_at hl 9 rfl) ?_
        refine lv_lshr hx hb dL_areKeptSo_277 rfl ?_
        refine lv_lconst (v := 1) hx hb dL_areKeptSo_278 (by decide) ?_
        refine lv_land hx hb dL_areKeptSo_279 ?_
        refine st_l (y := (1 : Int64)) (fp_at hcd (by omega)) ?_
        refine lv_lconst (v := 1) hx hb dL_areKeptSo_280 (by decide) ?_
        refine W.lcmp hx hb dL_areKeptSo_281 ?_
        refine bl_ne (tgt := 299) hx hb dL_areKeptSo_282 (by decide) (fun c_282 => absurd c_282 (fun h => h rfl)) (fun c_282 => ?_)
        refine lv_lload hx hb dL_areKeptSo_285 (lv_at hl 1 rfl) ?_
        refine ib_bi hx hb dL_areKeptSo_287 (by decide) ?_
        refine lv_lshr hx hb dL_areKeptSo_289 rfl ?_
        refine st_l (y := (0 : Int64)) (ls_48 (fp_lt _ _ _)) ?_
        refine lv_lconst (v := 0) hx hb dL_areKeptSo_290 (by decide) ?_
        refine W.lcmp hx hb dL_areKeptSo_291 ?_
        refine bl_ne (tgt := 299) hx hb dL_areKeptSo_292 (by decide) (fun c_292 => absurd c_292 (fun h => h rfl)) (fun c_292 => ?_)
        refine ib_const hx hb dL_areKeptSo_295 ?_
        refine lv_goto (tgt := 300) hx hb dL_areKeptSo_296 (by decide) ?_
        exact W.zret hx hb hr (nar_1) (fun t ht _ => ⟨rfl, ht⟩) (fun _ h => nomatch h) dL_areKeptSo_300
  · skip
    refine lv_iload hx hb dL_areKeptSo_67 (lv_at hl 1 rfl) ?_
    refine ib_const hx hb dL_areKeptSo_69 ?_
    have hg4 := hg3 (by omega)
    refine ib_icmp_lt (tgt := 115) hx hb dL_areKeptSo_70 (by decide) ⟨by omega, by omega⟩ ⟨by omega, by omega⟩ (fun c_70 => absurd c_70 (by omega)) (fun c_70 => ?_)
    refine lv_aload_n hx hb dL_areKeptSo_73 rfl (lv_at hl 2 rfl) ?_
    refine lv_iload_n hx hb dL_areKeptSo_74 rfl (lv_at hl 3 rfl) ?_
    refine lv_iload_n hx hb dL_areKeptSo_75 rfl (lv_at hl 4 rfl) ?_
    refine ib_bi hx hb dL_areKeptSo_76 (by decide) ?_
    refine ib_div (z := ((cd / 12 : Nat) : Int)) hx hb dL_areKeptSo_78 (by omega) (by omega) (by omega) (by omega) (by first | omega | rfl) ?_
    refine lv_iload_n hx hb dL_areKeptSo_79 rfl (lv_at hl 4 rfl) ?_
    refine ib_bi hx hb dL_areKeptSo_80 (by decide) ?_
    refine ib_rem (z := ((cd % 12 : Nat) : Int)) hx hb dL_areKeptSo_82 (by omega) (by omega) (by omega) (by omega) (by first | omega | rfl) ?_
    refine ib_const hx hb dL_areKeptSo_83 ?_
    refine rd_call (va_runV (As := [.int (iI ((r : Nat) : Int)), .int (iI ((cd / 12 : Nat) : Int)), .int (iI ((cd % 12 : Nat) : Int)), .int (iI 1)]) (rest := []) ⟨hx, hb, hml, hown, hts⟩ (mX0_keptSets_ok l dC dI o0 a0 a1 q w hp0 hp1 hw hq hqd r (cd / 12) (cd % 12) 1 (by omega) (by omega) (by omega) (by omega) (by omega)) (cwV 4 hts gL_areKeptSo_X0_keptSets rfl rfl rfl hvX0_keptSets ⟨Nat.le_of_ble_eq_true rfl, Nat.le_of_ble_eq_true rfl⟩) (bW_pre (ci := 0) (q0 := 0) hK hP rfl rfl rfl) rfl rfl hl.1 rfl (lv_room (Nat.le_of_ble_eq_true rfl)) dL_areKeptSo_84 ⟨Nat.le_of_ble_eq_true rfl, Nat.le_of_ble_eq_true rfl⟩) ?_
    have hf_84 := skN_le (rw_ r a0 a1) (12 * (cd / 12) + (cd % 12)) 1 (13 - 1)
    refine st_i (y := iI ((skN (rw_ r a0 a1) cd (1) (13 - (1)) : Nat) : Int)) (congrArg (fun z : Nat => iI ((z : Nat) : Int)) (show skN (rw_ r a0 a1) (12 * (cd / 12) + cd % 12) (1) (13 - (1)) = skN (rw_ r a0 a1) cd (1) (13 - (1)) by rw [show 12 * (cd / 12) + cd % 12 = cd by omega])) ?_
    refine ib_bi hx hb dL_areKeptSo_87 (by decide) ?_
    refine ib_icmp_ne (tgt := 115) hx hb dL_areKeptSo_89 (by decide) ⟨by omega, by omega⟩ ⟨by omega, by omega⟩ (fun c_89 => absurd c_89 (by omega)) (fun c_89 => ?_)
    refine lv_aload_n hx hb dL_areKeptSo_92 rfl (lv_at hl 2 rfl) ?_
    refine lv_iload_n hx hb dL_areKeptSo_93 rfl (lv_at hl 3 rfl) ?_
    refine lv_iload_n hx hb dL_areKeptSo_94 rfl (lv_at hl 4 rfl) ?_
    refine ib_bi hx hb dL_areKeptSo_95 (by decide) ?_
    refine ib_div (z := ((cd / 12 : Nat) : Int)) hx hb dL_areKeptSo_97 (by omega) (by omega) (by omega) (by omega) (by first | omega | rfl) ?_
    refine lv_iload_n hx hb dL_areKeptSo_98 rfl (lv_at hl 4 rfl) ?_
    refine ib_bi hx hb dL_areKeptSo_99 (by decide) ?_
    refine ib_rem (z := ((cd % 12 : Nat) : Int)) hx hb dL_areKeptSo_101 (by omega) (by omega) (by omega) (by omega) (by first | omega | rfl) ?_
    refine ib_bi hx hb dL_areKeptSo_102 (by decide) ?_
    refine rd_call (va_runV (As := [.int (iI ((r : Nat) : Int)), .int (iI ((cd / 12 : Nat) : Int)), .int (iI ((cd % 12 : Nat) : Int)), .int (iI 12)]) (rest := []) ⟨hx, hb, hml, hown, hts⟩ (mX0_keptSets_ok l dC dI o0 a0 a1 q w hp0 hp1 hw hq hqd r (cd / 12) (cd % 12) 12 (by omega) (by omega) (by omega) (by omega) (by omega)) (cwV 4 hts gL_areKeptSo_X0_keptSets rfl rfl rfl hvX0_keptSets ⟨Nat.le_of_ble_eq_true rfl, Nat.le_of_ble_eq_true rfl⟩) (bW_pre (ci := 0) (q0 := 0) hK hP rfl rfl rfl) rfl rfl hl.1 rfl (lv_room (Nat.le_of_ble_eq_true rfl)) dL_areKeptSo_104 ⟨Nat.le_of_ble_eq_true rfl, Nat.le_of_ble_eq_true rfl⟩) ?_
    have hf_104 := skN_le (rw_ r a0 a1) (12 * (cd / 12) + (cd % 12)) 12 (13 - 12)
    refine st_i (y := iI ((skN (rw_ r a0 a1) cd (12) (13 - (12)) : Nat) : Int)) (congrArg (fun z : Nat => iI ((z : Nat) : Int)) (show skN (rw_ r a0 a1) (12 * (cd / 12) + cd % 12) (12) (13 - (12)) = skN (rw_ r a0 a1) cd (12) (13 - (12)) by rw [show 12 * (cd / 12) + cd % 12 = cd by omega])) ?_
    refine ib_const hx hb dL_areKeptSo_107 ?_
    refine ib_icmp_ne (tgt := 115) hx hb dL_areKeptSo_108 (by decide) ⟨by omega, by omega⟩ ⟨by omega, by omega⟩ (fun c_108 => absurd c_108 (by omega)) (fun c_108 => ?_)
    refine ib_const hx hb dL_areKeptSo_111 ?_
    refine lv_goto (tgt := 116) hx hb dL_areKeptSo_112 (by decide) ?_
    refine lv_istore (lv' := [(7, .int (iI 1)), (6, .int (iI ((lkO (rw_ r a0 a1) (fm (rw_ r a0 a1) cd) 12 : Nat) : Int))), (5, .int (iI ((skN (rw_ r a0 a1) cd (ln) (13 - (ln)) : Nat) : Int))), (0, .ref o0), (1, .int (iI ((r : Nat) : Int))), (2, .int (iI ((cd : Nat) : Int))), (3, .int (iI ((ot : Nat) : Int))), (4, .int (iI ((ln : Nat) : Int)))]) hx hb dL_areKeptSo_116 hl (by decide) rfl (fun ls hl => ?_)
    refine lv_aload_n hx hb dL_areKeptSo_118 rfl (lv_at hl 3 rfl) ?_
    refine lv_iload_n hx hb dL_areKeptSo_119 rfl (lv_at hl 4 rfl) ?_
    refine ib_const hx hb dL_areKeptSo_120 ?_
    refine lv_iload hx hb dL_areKeptSo_121 (lv_at hl 7 rfl) ?_
    refine ib_bi hx hb dL_areKeptSo_123 (by decide) ?_
    refine ib_rem (z := ((ln % 10 : Nat) : Int)) hx hb dL_areKeptSo_125 (by omega) (by omega) (by omega) (by omega) (by first | omega | rfl) ?_
    refine ib_add (z := ((2 + (ln % 10) : Nat) : Int)) hx hb dL_areKeptSo_126 (by omega) ?_
    refine rd_call (va_runV (As := [.int (iI ((r : Nat) : Int)), .int (iI ((2 + (ln % 10) : Nat) : Int))]) (rest := []) ⟨hx, hb, hml, hown, hts⟩ (mX0_mostKept_ok l dC dI o0 a0 a1 q w hp0 hp1 hw hq hqd r (2 + (ln % 10)) (by omega) (by omega) (by omega)) (cwV 2 hts gL_areKeptSo_X0_mostKept rfl rfl rfl hvX0_mostKept ⟨Nat.le_of_ble_eq_true rfl, Nat.le_of_ble_eq_true rfl⟩) (bW_pre (ci := 0) (q0 := 0) hK hP rfl rfl rfl) rfl rfl hl.1 rfl (lv_room (Nat.le_of_ble_eq_true rfl)) dL_areKeptSo_127 ⟨Nat.le_of_ble_eq_true rfl, Nat.le_of_ble_eq_true rfl⟩) ?_
    refine st_i (y := iI ((bs : Nat) : Int)) (congrArg iI hb1) ?_
    refine lv_istore (lv' := [(8, .int (iI ((bs : Nat) : Int))), (7, .int (iI 1)), (6, .int (iI ((lkO (rw_ r a0 a1) (fm (rw_ r a0 a1) cd) 12 : Nat) : Int))), (5, .int (iI ((skN (rw_ r a0 a1) cd (ln) (13 - (ln)) : Nat) : Int))), (0, .ref o0), (1, .int (iI ((r : Nat) : Int))), (2, .int (iI ((cd : Nat) : Int))), (3, .int (iI ((ot : Nat) : Int))), (4, .int (iI ((ln : Nat) : Int)))]) hx hb dL_areKeptSo_130 hl (by decide) rfl (fun ls hl => ?_)
    refine lv_iload hx hb dL_areKeptSo_132 (lv_at hl 1 rfl) ?_
    refine ib_if_eq (tgt := 207) hx hb dL_areKeptSo_134 (by decide) ⟨by omega, by omega⟩ (fun c_134 => absurd c_134 (by decide)) (fun c_134 => ?_)
    refine lv_iload hx hb dL_areKeptSo_137 (lv_at hl 0 rfl) ?_
    refine lv_aload_n hx hb dL_areKeptSo_139 rfl (lv_at hl 4 rfl) ?_
    refine lv_iload_n hx hb dL_areKeptSo_140 rfl (lv_at hl 5 rfl) ?_
    refine ib_const hx hb dL_areKeptSo_141 ?_
    refine rd_call (va_runV (As := [.int (iI ((r : Nat) : Int)), .int (iI 0)]) (rest := [.int (iI ((bs : Nat) : Int))]) ⟨hx, hb, hml, hown, hts⟩ (mX0_tone_ok l dC dI o0 a0 a1 q w hp0 hp1 hw hq hqd r 0 (by omega) (by omega)) (cwV 2 hts gL_areKeptSo_X0_tone rfl rfl rfl hvX0_tone ⟨Nat.le_of_ble_eq_true rfl, Nat.le_of_ble_eq_true rfl⟩) (bW_pre (ci := 0) (q0 := 0) hK hP rfl rfl rfl) rfl rfl hl.1 rfl (lv_room (Nat.le_of_ble_eq_true rfl)) dL_areKeptSo_142 ⟨Nat.le_of_ble_eq_true rfl, Nat.le_of_ble_eq_true rfl⟩) ?_
    have hf_142 := rw_lt hp0.1 hp1.1 r (i := 0) (by omega)
    refine ib_icmp_eq (tgt := 207) hx hb dL_areKeptSo_145 (by decide) ⟨by omega, by omega⟩ ⟨by omega, by omega⟩ (fun c_145 => absurd c_145 (by omega)) (fun c_145 => ?_)
    refine lv_iload_n hx hb dL_areKeptSo_148 rfl (lv_at hl 6 rfl) ?_
    refine lv_aload_n hx hb dL_areKeptSo_149 rfl (lv_at hl 4 rfl) ?_
    refine lv_iload_n hx hb dL_areKeptSo_150 rfl (lv_at hl 5 rfl) ?_
    refine ib_const hx hb dL_areKeptSo_151 ?_
    refine rd_call (va_runV (As := [.int (iI ((r : Nat) : Int)), .int (iI 0)]) (rest := [.int (iI ((cd : Nat) : Int))]) ⟨hx, hb, hml, hown, hts⟩ (mX0_tone_ok l dC dI o0 a0 a1 q w hp0 hp1 hw hq hqd r 0 (by omega) (by omega)) (cwV 2 hts gL_areKeptSo_X0_tone rfl rfl rfl hvX0_tone ⟨Nat.le_of_ble_eq_true rfl, Nat.le_of_ble_eq_true rfl⟩) (bW_pre (ci := 0) (q0 := 0) hK hP rfl rfl rfl) rfl rfl hl.1 rfl (lv_room (Nat.le_of_ble_eq_true rfl)) dL_areKeptSo_152 ⟨Nat.le_of_ble_eq_true rfl, Nat.le_of_ble_eq_true rfl⟩) ?_
    have hf_152 := rw_lt hp0.1 hp1.1 r (i := 0) (by omega)
    refine ib_icmp_eq (tgt := 203) hx hb dL_areKeptSo_155 (by decide) ⟨by omega, by omega⟩ ⟨by omega, by omega⟩ (fun c_155 => ?_) (fun c_155 => ?_)
    · skip
      refine ib_const hx hb dL_areKeptSo_203 ?_
      refine lv_goto (tgt := 208) hx hb dL_areKeptSo_204 (by decide) ?_
      refine lv_istore (lv' := [(7, .int (iI 1)), (8, .int (iI ((bs : Nat) : Int))), (6, .int (iI ((lkO (rw_ r a0 a1) (fm (rw_ r a0 a1) cd) 12 : Nat) : Int))), (5, .int (iI ((skN (rw_ r a0 a1) cd (ln) (13 - (ln)) : Nat) : Int))), (0, .ref o0), (1, .int (iI ((r : Nat) : Int))), (2, .int (iI ((cd : Nat) : Int))), (3, .int (iI ((ot : Nat) : Int))), (4, .int (iI ((ln : Nat) : Int)))]) hx hb dL_areKeptSo_208 hl (by decide) rfl (fun ls hl => ?_)
      refine lv_aload_n hx hb dL_areKeptSo_210 rfl (lv_at hl 4 rfl) ?_
      refine lv_iload_n hx hb dL_areKeptSo_211 rfl (lv_at hl 6 rfl) ?_
      refine lv_iload_n hx hb dL_areKeptSo_212 rfl (lv_at hl 7 rfl) ?_
      refine rd_call (va_runV (As := [.int (iI ((cd : Nat) : Int)), .int (iI ((ot : Nat) : Int))]) (rest := []) ⟨hx, hb, hml, hown, hts⟩ (mX0_cuts_ok l dC dI o0 a0 a1 q w hp0 hp1 hw hq hqd cd ot (by omega) (by omega)) (cwV 2 hts gL_areKeptSo_X0_cuts rfl rfl rfl hvX0_cuts ⟨Nat.le_of_ble_eq_true rfl, Nat.le_of_ble_eq_true rfl⟩) (bW_pre (ci := 0) (q0 := 0) hK hP rfl rfl rfl) rfl rfl hl.1 rfl (lv_room (Nat.le_of_ble_eq_true rfl)) dL_areKeptSo_213 ⟨Nat.le_of_ble_eq_true rfl, Nat.le_of_ble_eq_true rfl⟩) ?_
      have hf_213 := ctN_lt (fm (rw_ 0 a0 a1) cd) (fm (rw_ 1 a0 a1) ot) 13 (by decide)
      refine lv_istore (lv' := [(9, .int (iI ((ctN (fm (rw_ 0 a0 a1) cd) (fm (rw_ 1 a0 a1) ot) 13 : Nat) : Int))), (7, .int (iI 1)), (8, .int (iI ((bs : Nat) : Int))), (6, .int (iI ((lkO (rw_ r a0 a1) (fm (rw_ r a0 a1) cd) 12 : Nat) : Int))), (5, .int (iI ((skN (rw_ r a0 a1) cd (ln) (13 - (ln)) : Nat) : Int))), (0, .ref o0), (1, .int (iI ((r : Nat) : Int))), (2, .int (iI ((cd : Nat) : Int))), (3, .int (iI ((ot : Nat) : Int))), (4, .int (iI ((ln : Nat) : Int)))]) hx hb dL_areKeptSo_216 hl (by decide) rfl (fun ls hl => ?_)
      refine lv_iload hx hb dL_areKeptSo_218 (lv_at hl 1 rfl) ?_
      refine ib_if_eq (tgt := 246) hx hb dL_areKeptSo_220 (by decide) ⟨by omega, by omega⟩ (fun c_220 => absurd c_220 (by decide)) (fun c_220 => ?_)
      refine lv_iload hx hb dL_areKeptSo_223 (lv_at hl 0 rfl) ?_
      refine ib_const hx hb dL_areKeptSo_225 ?_
      refine lv_iand hx hb dL_areKeptSo_226 ?_
      refine st_i (y := iI 1) ((ir_and _ 1).trans (congrArg (fun z : Nat => iI ((z : Nat) : Int)) hc0)) ?_
      refine ib_const hx hb dL_areKeptSo_227 ?_
      refine ib_icmp_ne (tgt := 246) hx hb dL_areKeptSo_228 (by decide) ⟨by omega, by omega⟩ ⟨by omega, by omega⟩ (fun c_228 => absurd c_228 (by decide)) (fun c_228 => ?_)
      refine lv_iload hx hb dL_areKeptSo_231 (lv_at hl 0 rfl) ?_
      refine ib_bi hx hb dL_areKeptSo_233 (by decide) ?_
      refine lv_ishr hx hb dL_areKeptSo_235 ?_
      refine st_i (y := iI ((ctN (fm (rw_ 0 a0 a1) cd) (fm (rw_ 1 a0 a1) ot) 13 / 2 ^ 12 : Nat) : Int)) (ir_shr (by decide) (by omega)) ?_
      refine ib_const hx hb dL_areKeptSo_236 ?_
      refine lv_iand hx hb dL_areKeptSo_237 ?_
      refine st_i (y := iI 1) ((ir_and _ 1).trans (congrArg (fun z : Nat => iI ((z : Nat) : Int)) hc12)) ?_
      refine ib_const hx hb dL_areKeptSo_238 ?_
      refine ib_icmp_ne (tgt := 246) hx hb dL_areKeptSo_239 (by decide) ⟨by omega, by omega⟩ ⟨by omega, by omega⟩ (fun c_239 => absurd c_239 (by decide)) (fun c_239 => ?_)
      refine ib_const hx hb dL_areKeptSo_242 ?_
      refine lv_goto (tgt := 247) hx hb dL_areKeptSo_243 (by decide) ?_
      refine lv_istore (lv' := [(7, .int (iI 1)), (9, .int (iI ((ctN (fm (rw_ 0 a0 a1) cd) (fm (rw_ 1 a0 a1) ot) 13 : Nat) : Int))), (8, .int (iI ((bs : Nat) : Int))), (6, .int (iI ((lkO (rw_ r a0 a1) (fm (rw_ r a0 a1) cd) 12 : Nat) : Int))), (5, .int (iI ((skN (rw_ r a0 a1) cd (ln) (13 - (ln)) : Nat) : Int))), (0, .ref o0), (1, .int (iI ((r : Nat) : Int))), (2, .int (iI ((cd : Nat) : Int))), (3, .int (iI ((ot : Nat) : Int))), (4, .int (iI ((ln : Nat) : Int)))]) hx hb dL_areKeptSo_247 hl (by decide) rfl (fun ls hl => ?_)
      refine lv_aload_n hx hb dL_areKeptSo_249 rfl (lv_at hl 5 rfl) ?_
      refine lv_iload_n hx hb dL_areKeptSo_250 rfl (lv_at hl 6 rfl) ?_
      refine rd_call (va_runV (As := [.int (iI ((r : Nat) : Int))]) (rest := []) ⟨hx, hb, hml, hown, hts⟩ (mX0_formsWithPhrase_ok l dC dI o0 a0 a1 q w hp0 hp1 hw hq hqd r (by omega)) (cwV 1 hts gL_areKeptSo_X0_formsWithPhrase rfl rfl rfl hvX0_formsWithPhrase ⟨Nat.le_of_ble_eq_true rfl, Nat.le_of_ble_eq_true rfl⟩) (bW_pre (ci := 0) (q0 := 0) hK hP rfl rfl rfl) rfl rfl hl.1 rfl (lv_room (Nat.le_of_ble_eq_true rfl)) dL_areKeptSo_251 ⟨Nat.le_of_ble_eq_true rfl, Nat.le_of_ble_eq_true rfl⟩) ?_
      refine lv_lstore (lv' := [(10, .long (fpL (rw_ r a0 a1) q w 48)), (7, .int (iI 1)), (9, .int (iI ((ctN (fm (rw_ 0 a0 a1) cd) (fm (rw_ 1 a0 a1) ot) 13 : Nat) : Int))), (8, .int (iI ((bs : Nat) : Int))), (6, .int (iI ((lkO (rw_ r a0 a1) (fm (rw_ r a0 a1) cd) 12 : Nat) : Int))), (5, .int (iI ((skN (rw_ r a0 a1) cd (ln) (13 - (ln)) : Nat) : Int))), (0, .ref o0), (1, .int (iI ((r : Nat) : Int))), (2, .int (iI ((cd : Nat) : Int))), (3, .int (iI ((ot : Nat) : Int))), (4, .int (iI ((ln : Nat) : Int)))]) hx hb dL_areKeptSo_254 hl (by decide) rfl (fun ls hl => ?_)
      refine lv_aload_n hx hb dL_areKeptSo_256 rfl (lv_at hl 6 rfl) ?_
      refine lv_iload_n hx hb dL_areKeptSo_257 rfl (lv_at hl 7 rfl) ?_
      refine lv_iload_n hx hb dL_areKeptSo_258 rfl (lv_at hl 8 rfl) ?_
      refine rd_call (va_runV (As := [.int (iI ((r : Nat) : Int)), .int (iI ((cd : Nat) : Int))]) (rest := []) ⟨hx, hb, hml, hown, hts⟩ (mX0_placeOfPhrase_ok l dC dI o0 a0 a1 q w hp0 hp1 hw hq hqd r cd (by omega) (by omega)) (cwV 2 hts gL_areKeptSo_X0_placeOfPhrase rfl rfl rfl hvX0_placeOfPhrase ⟨Nat.le_of_ble_eq_true rfl, Nat.le_of_ble_eq_true rfl⟩) (bW_pre (ci := 0) (q0 := 0) hK hP rfl rfl rfl) rfl rfl hl.1 rfl (lv_room (Nat.le_of_ble_eq_true rfl)) dL_areKeptSo_259 ⟨Nat.le_of_ble_eq_true rfl, Nat.le_of_ble_eq_true rfl⟩) ?_
      have hf_259 := plF_in (rw_ r a0 a1) q cd w
      refine lv_istore (lv' := [(12, .int (iI (if w = 0 then -1 else plF (rw_ r a0 a1) q cd w))), (10, .long (fpL (rw_ r a0 a1) q w 48)), (7, .int (iI 1)), (9, .int (iI ((ctN (fm (rw_ 0 a0 a1) cd) (fm (rw_ 1 a0 a1) ot) 13 : Nat) : Int))), (8, .int (iI ((bs : Nat) : Int))), (6, .int (iI ((lkO (rw_ r a0 a1) (fm (rw_ r a0 a1) cd) 12 : Nat) : Int))), (5, .int (iI ((skN (rw_ r a0 a1) cd (ln) (13 - (ln)) : Nat) : Int))), (0, .ref o0), (1, .int (iI ((r : Nat) : Int))), (2, .int (iI ((cd : Nat) : Int))), (3, .int (iI ((ot : Nat) : Int))), (4, .int (iI ((ln : Nat) : Int)))]) hx hb dL_areKeptSo_262 hl (by decide) rfl (fun ls hl => ?_)
      refine lv_iload hx hb dL_areKeptSo_264 (lv_at hl 2 rfl) ?_
      refine ib_if_eq (tgt := 299) hx hb dL_areKeptSo_266 (by decide) ⟨by omega, by omega⟩ (fun c_266 => absurd c_266 (by decide)) (fun c_266 => ?_)
      refine lv_iload hx hb dL_areKeptSo_269 (lv_at hl 0 rfl) ?_
      refine ib_if_lt (tgt := 285) hx hb dL_areKeptSo_271 (by decide) ⟨by omega, by omega⟩ (fun c_271 => ?_) (fun c_271 => ?_)
      · skip
        refine lv_lload hx hb dL_areKeptSo_285 (lv_at hl 1 rfl) ?_
        refine ib_bi hx hb dL_areKeptSo_287 (by decide) ?_
        refine lv_lshr hx hb dL_areKeptSo_289 rfl ?_
        refine st_l (y := (0 : Int64)) (ls_48 (fp_lt _ _ _)) ?_
        refine lv_lconst (v := 0) hx hb dL_areKeptSo_290 (by decide) ?_
        refine W.lcmp hx hb dL_areKeptSo_291 ?_
        refine bl_ne (tgt := 299) hx hb dL_areKeptSo_292 (by decide) (fun c_292 => absurd c_292 (fun h => h rfl)) (fun c_292 => ?_)
        refine ib_const hx hb dL_areKeptSo_295 ?_
        refine lv_goto (tgt := 300) hx hb dL_areKeptSo_296 (by decide) ?_
        exact W.zret hx hb hr (nar_1) (fun t ht _ => ⟨rfl, ht⟩) (fun _ h => nomatch h) dL_areKeptSo_300
      · skip
        refine lv_lload hx hb dL_areKeptSo_274 (lv_at hl 1 rfl) ?_
        refine lv_iload_n hx hb dL_areKeptSo_276 rfl (lv_at hl 9 rfl) ?_
        refine lv_lshr hx hb dL_areKeptSo_277 rfl ?_
        refine lv_lconst (v := 1) hx hb dL_areKeptSo_278 (by decide) ?_
        refine lv_land hx hb dL_areKeptSo_279 ?_
        refine st_l (y := (1 : Int64)) (fp_at hcd (by omega)) ?_
        refine lv_lconst (v := 1) hx hb dL_areKeptSo_280 (by decide) ?_
        refine W.lcmp hx hb dL_areKeptSo_281 ?_
        refine bl_ne (tgt := 299) hx hb dL_areKeptSo_282 (by decide) (fun c_282 => absurd c_282 (fun h => h rfl)) (fun c_282 => ?_)
        refine lv_lload hx hb dL_areKeptSo_285 (lv_at hl 1 rfl) ?_
        refine ib_bi hx hb dL_areKeptSo_287 (by decide) ?_
        refine lv_lshr hx hb dL_areKeptSo_289 rfl ?_
        refine st_l (y := (0 : Int64)) (ls_48 (fp_lt _ _ _)) ?_
        refine lv_lconst (v := 0) hx hb dL_areKeptSo_290 (by decide) ?_
        refine W.lcmp hx hb dL_areKeptSo_291 ?_
        refine bl_ne (tgt := 299) hx hb dL_areKeptSo_292 (by decide) (fun c_292 => absurd c_292 (fun h => h rfl)) (fun c_292 => ?_)
        refine ib_const hx hb dL_areKeptSo_295 ?_
        refine lv_goto (tgt := 300) hx hb dL_areKeptSo_296 (by decide) ?_
        exact W.zret hx hb hr (nar_1) (fun t ht _ => ⟨rfl, ht⟩) (fun _ h => nomatch h) dL_areKeptSo_300
    · skip
      have hb6 := hb5 (by omega)
      refine lv_aload_n hx hb dL_areKeptSo_158 rfl (lv_at hl 4 rfl) ?_
      refine lv_iload_n hx hb dL_areKeptSo_159 rfl (lv_at hl 5 rfl) ?_
      refine lv_iload hx hb dL_areKeptSo_160 (lv_at hl 0 rfl) ?_
      refine ib_bi hx hb dL_areKeptSo_162 (by decide) ?_
      refine ib_div (z := ((bs / 12 : Nat) : Int)) hx hb dL_areKeptSo_164 (by omega) (by omega) (by omega) (by omega) (by first | omega | rfl) ?_
      refine lv_iload hx hb dL_areKeptSo_165 (lv_at hl 0 rfl) ?_
      refine ib_bi hx hb dL_areKeptSo_167 (by decide) ?_
      refine ib_rem (z := ((bs % 12 : Nat) : Int)) hx hb dL_areKeptSo_169 (by omega) (by omega) (by omega) (by omega) (by first | omega | rfl) ?_
      refine ib_const hx hb dL_areKeptSo_170 ?_
      refine lv_iload hx hb dL_areKeptSo_171 (lv_at hl 8 rfl) ?_
      refine ib_bi hx hb dL_areKeptSo_173 (by decide) ?_
      refine ib_rem (z := ((ln % 10 : Nat) : Int)) hx hb dL_areKeptSo_175 (by omega) (by omega) (by omega) (by omega) (by first | omega | rfl) ?_
      refine ib_add (z := ((2 + (ln % 10) : Nat) : Int)) hx hb dL_areKeptSo_176 (by omega) ?_
      refine rd_call (va_runV (As := [.int (iI ((r : Nat) : Int)), .int (iI ((bs / 12 : Nat) : Int)), .int (iI ((bs % 12 : Nat) : Int)), .int (iI ((2 + (ln % 10) : Nat) : Int))]) (rest := []) ⟨hx, hb, hml, hown, hts⟩ (mX0_keptSets_ok l dC dI o0 a0 a1 q w hp0 hp1 hw hq hqd r (bs / 12) (bs % 12) (2 + (ln % 10)) (by omega) (by omega) (by omega) (by omega) (by omega)) (cwV 4 hts gL_areKeptSo_X0_keptSets rfl rfl rfl hvX0_keptSets ⟨Nat.le_of_ble_eq_true rfl, Nat.le_of_ble_eq_true rfl⟩) (bW_pre (ci := 0) (q0 := 0) hK hP rfl rfl rfl) rfl rfl hl.1 rfl (lv_room (Nat.le_of_ble_eq_true rfl)) dL_areKeptSo_177 ⟨Nat.le_of_ble_eq_true rfl, Nat.le_of_ble_eq_true rfl⟩) ?_
      have hf_177 := skN_le (rw_ r a0 a1) (12 * (bs / 12) + (bs % 12)) (2 + (ln % 10)) (13 - (2 + (ln % 10)))
      refine st_i (y := iI ((skN (rw_ r a0 a1) bs (2 + ln % 10) (13 - (2 + ln % 10)) : Nat) : Int)) (congrArg (fun z : Nat => iI ((z : Nat) : Int)) (show skN (rw_ r a0 a1) (12 * (bs / 12) + bs % 12) (2 + ln % 10) (13 - (2 + ln % 10)) = skN (rw_ r a0 a1) bs (2 + ln % 10) (13 - (2 + ln % 10)) by rw [show 12 * (bs / 12) + bs % 12 = bs by omega])) ?_
      refine lv_aload_n hx hb dL_areKeptSo_180 rfl (lv_at hl 4 rfl) ?_
      refine lv_iload_n hx hb dL_areKeptSo_181 rfl (lv_at hl 5 rfl) ?_
      refine lv_iload_n hx hb dL_areKeptSo_182 rfl (lv_at hl 6 rfl) ?_
      refine ib_bi hx hb dL_areKeptSo_183 (by decide) ?_
      refine ib_div (z := ((cd / 12 : Nat) : Int)) hx hb dL_areKeptSo_185 (by omega) (by omega) (by omega) (by omega) (by first | omega | rfl) ?_
      refine lv_iload_n hx hb dL_areKeptSo_186 rfl (lv_at hl 6 rfl) ?_
      refine ib_bi hx hb dL_areKeptSo_187 (by decide) ?_
      refine ib_rem (z := ((cd % 12 : Nat) : Int)) hx hb dL_areKeptSo_189 (by omega) (by omega) (by omega) (by omega) (by first | omega | rfl) ?_
      refine ib_const hx hb dL_areKeptSo_190 ?_
      refine lv_iload hx hb dL_areKeptSo_191 (lv_at hl 8 rfl) ?_
      refine ib_bi hx hb dL_areKeptSo_193 (by decide) ?_
      refine ib_rem (z := ((ln % 10 : Nat) : Int)) hx hb dL_areKeptSo_195 (by omega) (by omega) (by omega) (by omega) (by first | omega | rfl) ?_
      refine ib_add (z := ((2 + (ln % 10) : Nat) : Int)) hx hb dL_areKeptSo_196 (by omega) ?_
      refine rd_call (va_runV (As := [.int (iI ((r : Nat) : Int)), .int (iI ((cd / 12 : Nat) : Int)), .int (iI ((cd % 12 : Nat) : Int)), .int (iI ((2 + (ln % 10) : Nat) : Int))]) (rest := [.int (iI ((skN (rw_ r a0 a1) bs (2 + ln % 10) (13 - (2 + ln % 10)) : Nat) : Int))]) ⟨hx, hb, hml, hown, hts⟩ (mX0_keptSets_ok l dC dI o0 a0 a1 q w hp0 hp1 hw hq hqd r (cd / 12) (cd % 12) (2 + (ln % 10)) (by omega) (by omega) (by omega) (by omega) (by omega)) (cwV 4 hts gL_areKeptSo_X0_keptSets rfl rfl rfl hvX0_keptSets ⟨Nat.le_of_ble_eq_true rfl, Nat.le_of_ble_eq_true rfl⟩) (bW_pre (ci := 0) (q0 := 0) hK hP rfl rfl rfl) rfl rfl hl.1 rfl (lv_room (Nat.le_of_ble_eq_true rfl)) dL_areKeptSo_197 ⟨Nat.le_of_ble_eq_true rfl, Nat.le_of_ble_eq_true rfl⟩) ?_
      have hf_197 := skN_le (rw_ r a0 a1) (12 * (cd / 12) + (cd % 12)) (2 + (ln % 10)) (13 - (2 + (ln % 10)))
      refine st_i (y := iI ((skN (rw_ r a0 a1) cd (2 + ln % 10) (13 - (2 + ln % 10)) : Nat) : Int)) (congrArg (fun z : Nat => iI ((z : Nat) : Int)) (show skN (rw_ r a0 a1) (12 * (cd / 12) + cd % 12) (2 + ln % 10) (13 - (2 + ln % 10)) = skN (rw_ r a0 a1) cd (2 + ln % 10) (13 - (2 + ln % 10)) by rw [show 12 * (cd / 12) + cd % 12 = cd by omega])) ?_
      refine ib_icmp_lt (tgt := 207) hx hb dL_areKeptSo_200 (by decide) ⟨by omega, by omega⟩ ⟨by omega, by omega⟩ (fun c_200 => absurd c_200 (by omega)) (fun c_200 => ?_)
      refine ib_const hx hb dL_areKeptSo_203 ?_
      refine lv_goto (tgt := 208) hx hb dL_areKeptSo_204 (by decide) ?_
      refine lv_istore (lv' := [(7, .int (iI 1)), (8, .int (iI ((bs : Nat) : Int))), (6, .int (iI ((lkO (rw_ r a0 a1) (fm (rw_ r a0 a1) cd) 12 : Nat) : Int))), (5, .int (iI ((skN (rw_ r a0 a1) cd (ln) (13 - (ln)) : Nat) : Int))), (0, .ref o0), (1, .int (iI ((r : Nat) : Int))), (2, .int (iI ((cd : Nat) : Int))), (3, .int (iI ((ot : Nat) : Int))), (4, .int (iI ((ln : Nat) : Int)))]) hx hb dL_areKeptSo_208 hl (by decide) rfl (fun ls hl => ?_)
      refine lv_aload_n hx hb dL_areKeptSo_210 rfl (lv_at hl 4 rfl) ?_
      refine lv_iload_n hx hb dL_areKeptSo_211 rfl (lv_at hl 6 rfl) ?_
      refine lv_iload_n hx hb dL_areKeptSo_212 rfl (lv_at hl 7 rfl) ?_
      refine rd_call (va_runV (As := [.int (iI ((cd : Nat) : Int)), .int (iI ((ot : Nat) : Int))]) (rest := []) ⟨hx, hb, hml, hown, hts⟩ (mX0_cuts_ok l dC dI o0 a0 a1 q w hp0 hp1 hw hq hqd cd ot (by omega) (by omega)) (cwV 2 hts gL_areKeptSo_X0_cuts rfl rfl rfl hvX0_cuts ⟨Nat.le_of_ble_eq_true rfl, Nat.le_of_ble_eq_true rfl⟩) (bW_pre (ci := 0) (q0 := 0) hK hP rfl rfl rfl) rfl rfl hl.1 rfl (lv_room (Nat.le_of_ble_eq_true rfl)) dL_areKeptSo_213 ⟨Nat.le_of_ble_eq_true rfl, Nat.le_of_ble_eq_true rfl⟩) ?_
      have hf_213 := ctN_lt (fm (rw_ 0 a0 a1) cd) (fm (rw_ 1 a0 a1) ot) 13 (by decide)
      refine lv_istore (lv' := [(9, .int (iI ((ctN (fm (rw_ 0 a0 a1) cd) (fm (rw_ 1 a0 a1) ot) 13 : Nat) : Int))), (7, .int (iI 1)), (8, .int (iI ((bs : Nat) : Int))), (6, .int (iI ((lkO (rw_ r a0 a1) (fm (rw_ r a0 a1) cd) 12 : Nat) : Int))), (5, .int (iI ((skN (rw_ r a0 a1) cd (ln) (13 - (ln)) : Nat) : Int))), (0, .ref o0), (1, .int (iI ((r : Nat) : Int))), (2, .int (iI ((cd : Nat) : Int))), (3, .int (iI ((ot : Nat) : Int))), (4, .int (iI ((ln : Nat) : Int)))]) hx hb dL_areKeptSo_216 hl (by decide) rfl (fun ls hl => ?_)
      refine lv_iload hx hb dL_areKeptSo_218 (lv_at hl 1 rfl) ?_
      refine ib_if_eq (tgt := 246) hx hb dL_areKeptSo_220 (by decide) ⟨by omega, by omega⟩ (fun c_220 => absurd c_220 (by decide)) (fun c_220 => ?_)
      refine lv_iload hx hb dL_areKeptSo_223 (lv_at hl 0 rfl) ?_
      refine ib_const hx hb dL_areKeptSo_225 ?_
      refine lv_iand hx hb dL_areKeptSo_226 ?_
      refine st_i (y := iI 1) ((ir_and _ 1).trans (congrArg (fun z : Nat => iI ((z : Nat) : Int)) hc0)) ?_
      refine ib_const hx hb dL_areKeptSo_227 ?_
      refine ib_icmp_ne (tgt := 246) hx hb dL_areKeptSo_228 (by decide) ⟨by omega, by omega⟩ ⟨by omega, by omega⟩ (fun c_228 => absurd c_228 (by decide)) (fun c_228 => ?_)
      refine lv_iload hx hb dL_areKeptSo_231 (lv_at hl 0 rfl) ?_
      refine ib_bi hx hb dL_areKeptSo_233 (by decide) ?_
      refine lv_ishr hx hb dL_areKeptSo_235 ?_
      refine st_i (y := iI ((ctN (fm (rw_ 0 a0 a1) cd) (fm (rw_ 1 a0 a1) ot) 13 / 2 ^ 12 : Nat) : Int)) (ir_shr (by decide) (by omega)) ?_
      refine ib_const hx hb dL_areKeptSo_236 ?_
      refine lv_iand hx hb dL_areKeptSo_237 ?_
      refine st_i (y := iI 1) ((ir_and _ 1).trans (congrArg (fun z : Nat => iI ((z : Nat) : Int)) hc12)) ?_
      refine ib_const hx hb dL_areKeptSo_238 ?_
      refine ib_icmp_ne (tgt := 246) hx hb dL_areKeptSo_239 (by decide) ⟨by omega, by omega⟩ ⟨by omega, by omega⟩ (fun c_239 => absurd c_239 (by decide)) (fun c_239 => ?_)
      refine ib_const hx hb dL_areKeptSo_242 ?_
      refine lv_goto (tgt := 247) hx hb dL_areKeptSo_243 (by decide) ?_
      refine lv_istore (lv' := [(7, .int (iI 1)), (9, .int (iI ((ctN (fm (rw_ 0 a0 a1) cd) (fm (rw_ 1 a0 a1) ot) 13 : Nat) : Int))), (8, .int (iI ((bs : Nat) : Int))), (6, .int (iI ((lkO (rw_ r a0 a1) (fm (rw_ r a0 a1) cd) 12 : Nat) : Int))), (5, .int (iI ((skN (rw_ r a0 a1) cd (ln) (13 - (ln)) : Nat) : Int))), (0, .ref o0), (1, .int (iI ((r : Nat) : Int))), (2, .int (iI ((cd : Nat) : Int))), (3, .int (iI ((ot : Nat) : Int))), (4, .int (iI ((ln : Nat) : Int)))]) hx hb dL_areKeptSo_247 hl (by decide) rfl (fun ls hl => ?_)
      refine lv_aload_n hx hb dL_areKeptSo_249 rfl (lv_at hl 5 rfl) ?_
      refine lv_iload_n hx hb dL_areKeptSo_250 rfl (lv_at hl 6 rfl) ?_
      refine rd_call (va_runV (As := [.int (iI ((r : Nat) : Int))]) (rest := []) ⟨hx, hb, hml, hown, hts⟩ (mX0_formsWithPhrase_ok l dC dI o0 a0 a1 q w hp0 hp1 hw hq hqd r (by omega)) (cwV 1 hts gL_areKeptSo_X0_formsWithPhrase rfl rfl rfl hvX0_formsWithPhrase ⟨Nat.le_of_ble_eq_true rfl, Nat.le_of_ble_eq_true rfl⟩) (bW_pre (ci := 0) (q0 := 0) hK hP rfl rfl rfl) rfl rfl hl.1 rfl (lv_room (Nat.le_of_ble_eq_true rfl)) dL_areKeptSo_251 ⟨Nat.le_of_ble_eq_true rfl, Nat.le_of_ble_eq_true rfl⟩) ?_
      refine lv_lstore (lv' := [(10, .long (fpL (rw_ r a0 a1) q w 48)), (7, .int (iI 1)), (9, .int (iI ((ctN (fm (rw_ 0 a0 a1) cd) (fm (rw_ 1 a0 a1) ot) 13 : Nat) : Int))), (8, .int (iI ((bs : Nat) : Int))), (6, .int (iI ((lkO (rw_ r a0 a1) (fm (rw_ r a0 a1) cd) 12 : Nat) : Int))), (5, .int (iI ((skN (rw_ r a0 a1) cd (ln) (13 - (ln)) : Nat) : Int))), (0, .ref o0), (1, .int (iI ((r : Nat) : Int))), (2, .int (iI ((cd : Nat) : Int))), (3, .int (iI ((ot : Nat) : Int))), (4, .int (iI ((ln : Nat) : Int)))]) hx hb dL_areKeptSo_254 hl (by decide) rfl (fun ls hl => ?_)
      refine lv_aload_n hx hb dL_areKeptSo_256 rfl (lv_at hl 6 rfl) ?_
      refine lv_iload_n hx hb dL_areKeptSo_257 rfl (lv_at hl 7 rfl) ?_
      refine lv_iload_n hx hb dL_areKeptSo_258 rfl (lv_at hl 8 rfl) ?_
      refine rd_call (va_runV (As := [.int (iI ((r : Nat) : Int)), .int (iI ((cd : Nat) : Int))]) (rest := []) ⟨hx, hb, hml, hown, hts⟩ (mX0_placeOfPhrase_ok l dC dI o0 a0 a1 q w hp0 hp1 hw hq hqd r cd (by omega) (by omega)) (cwV 2 hts gL_areKeptSo_X0_placeOfPhrase rfl rfl rfl hvX0_placeOfPhrase ⟨Nat.le_of_ble_eq_true rfl, Nat.le_of_ble_eq_true rfl⟩) (bW_pre (ci := 0) (q0 := 0) hK hP rfl rfl rfl) rfl rfl hl.1 rfl (lv_room (Nat.le_of_ble_eq_true rfl)) dL_areKeptSo_259 ⟨Nat.le_of_ble_eq_true rfl, Nat.le_of_ble_eq_true rfl⟩) ?_
      have hf_259 := plF_in (rw_ r a0 a1) q cd w
      refine lv_istore (lv' := [(12, .int (iI (if w = 0 then -1 else plF (rw_ r a0 a1) q cd w))), (10, .long (fpL (rw_ r a0 a1) q w 48)), (7, .int (iI 1)), (9, .int (iI ((ctN (fm (rw_ 0 a0 a1) cd) (fm (rw_ 1 a0 a1) ot) 13 : Nat) : Int))), (8, .int (iI ((bs : Nat) : Int))), (6, .int (iI ((lkO (rw_ r a0 a1) (fm (rw_ r a0 a1) cd) 12 : Nat) : Int))), (5, .int (iI ((skN (rw_ r a0 a1) cd (ln) (13 - (ln)) : Nat) : Int))), (0, .ref o0), (1, .int (iI ((r : Nat) : Int))), (2, .int (iI ((cd : Nat) : Int))), (3, .int (iI ((ot : Nat) : Int))), (4, .int (iI ((ln : Nat) : Int)))]) hx hb dL_areKeptSo_262 hl (by decide) rfl (fun ls hl => ?_)
      refine lv_iload hx hb dL_areKeptSo_264 (lv_at hl 2 rfl) ?_
      refine ib_if_eq (tgt := 299) hx hb dL_areKeptSo_266 (by decide) ⟨by omega, by omega⟩ (fun c_266 => absurd c_266 (by decide)) (fun c_266 => ?_)
      refine lv_iload hx hb dL_areKeptSo_269 (lv_at hl 0 rfl) ?_
      refine ib_if_lt (tgt := 285) hx hb dL_areKeptSo_271 (by decide) ⟨by omega, by omega⟩ (fun c_271 => ?_) (fun c_271 => ?_)
      · skip
        refine lv_lload hx hb dL_areKeptSo_285 (lv_at hl 1 rfl) ?_
        refine ib_bi hx hb dL_areKeptSo_287 (by decide) ?_
        refine lv_lshr hx hb dL_areKeptSo_289 rfl ?_
        refine st_l (y := (0 : Int64)) (ls_48 (fp_lt _ _ _)) ?_
        refine lv_lconst (v := 0) hx hb dL_areKeptSo_290 (by decide) ?_
        refine W.lcmp hx hb dL_areKeptSo_291 ?_
        refine bl_ne (tgt := 299) hx hb dL_areKeptSo_292 (by decide) (fun c_292 => absurd c_292 (fun h => h rfl)) (fun c_292 => ?_)
        refine ib_const hx hb dL_areKeptSo_295 ?_
        refine lv_goto (tgt := 300) hx hb dL_areKeptSo_296 (by decide) ?_
        exact W.zret hx hb hr (nar_1) (fun t ht _ => ⟨rfl, ht⟩) (fun _ h => nomatch h) dL_areKeptSo_300
      · skip
        refine lv_lload hx hb dL_areKeptSo_274 (lv_at hl 1 rfl) ?_
        refine lv_iload_n hx hb dL_areKeptSo_276 rfl (lv_at hl 9 rfl) ?_
        refine lv_lshr hx hb dL_areKeptSo_277 rfl ?_
        refine lv_lconst (v := 1) hx hb dL_areKeptSo_278 (by decide) ?_
        refine lv_land hx hb dL_areKeptSo_279 ?_
        refine st_l (y := (1 : Int64)) (fp_at hcd (by omega)) ?_
        refine lv_lconst (v := 1) hx hb dL_areKeptSo_280 (by decide) ?_
        refine W.lcmp hx hb dL_areKeptSo_281 ?_
        refine bl_ne (tgt := 299) hx hb dL_areKeptSo_282 (by decide) (fun c_282 => absurd c_282 (fun h => h rfl)) (fun c_282 => ?_)
        refine lv_lload hx hb dL_areKeptSo_285 (lv_at hl 1 rfl) ?_
        refine ib_bi hx hb dL_areKeptSo_287 (by decide) ?_
        refine lv_lshr hx hb dL_areKeptSo_289 rfl ?_
        refine st_l (y := (0 : Int64)) (ls_48 (fp_lt _ _ _)) ?_
        refine lv_lconst (v := 0) hx hb dL_areKeptSo_290 (by decide) ?_
        refine W.lcmp hx hb dL_areKeptSo_291 ?_
        refine bl_ne (tgt := 299) hx hb dL_areKeptSo_292 (by decide) (fun c_292 => absurd c_292 (fun h => h rfl)) (fun c_292 => ?_)
        refine ib_const hx hb dL_areKeptSo_295 ?_
        refine lv_goto (tgt := 300) hx hb dL_areKeptSo_296 (by decide) ?_
        exact W.zret hx hb hr (nar_1) (fun t ht _ => ⟨rfl, ht⟩) (fun _ h => nomatch h) dL_areKeptSo_300
