theorem va_D_one {A : Nat → Prop} {q : Nat} {e : va_E} (h : A q) : va_D A [(q, e)] := ⟨fun i j p r hi hj _ => by
    have h1 : i < 1 := (List.getElem?_eq_some_iff.mp hi).1
    have h2 : j < 1 := (List.getElem?_eq_some_iff.mp hj).1
    omega, fun k r hk => by
    have h1 : k < 1 := (List.getElem?_eq_some_iff.mp hk).1
    rw [show k = 0 by omega] at hk
    cases hk
    exact h⟩
set_option maxHeartbeats 4000000 in
set_option maxRecDepth 100000 in
theorem mX0_init (l : Launch) (dC : Nat → ClassId) (dI : Nat → Nat → Nat) (o0 : Nat) (q : Nat → Nat) : wr l yX0_init wsX0_init { frames := 1, cells := 0, slots := 0, locals := 24 } [.ref o0] (dC, dI) [(o0, .inr (0, [.long (0 : Int64), .long (0 : Int64), .long (0 : Int64), .int (iI 0)]))] [] [(o0, .inr (0, [.long (pk (fun i => i)), .long (pk (fun i => i)), .long (pkn q 0), .int (iI 0)]))] (none) := by
  refine Met.ofW (cc := cX0_init) (maxL := 4) (ret := none) (by decide) rfl ?_
  intro P0 e s m args below meth c s₁ B hml hv
  obtain ⟨rfl, hP, hK, hD0⟩ := hv
  have hx := B.exec
  have hb := B.bytes
  have hr := B.returns
  have hts := atoms_spec (ws := wsX0_init) B.pre
  have hown : s.vm.findClass RX0 = some m.cls := findClass_of_methodNamed B.named
  have hlocks := B.notSynchronized
  have hinX : ∀ w ∈ u_ws RX0 TX0 4, w ∈ wsX0_init := by decide +kernel
  have hD : va_D (inW [(o0, .inr (0, [.long (0 : Int64), .long (0 : Int64), .long (0 : Int64), .int (iI 0)]))]) [(o0, .inr (0, [.long (0 : Int64), .long (0 : Int64), .long (0 : Int64), .int (iI 0)]))] := va_D_in hD0
  have hS : va_S (inW [(o0, .inr (0, [.long (0 : Int64), .long (0 : Int64), .long (0 : Int64), .int (iI 0)]))]) s.heap s.heap [] := va_S.rf
  have hin : meth.name = "<init>" := (name_of_methodNamed B.named B.method).1
  have hl := lv_entry ([.ref o0]) (n := 4) (Nat.le_of_ble_eq_true rfl)
  rw [lg_entry_eq]
  generalize (lg_sl ([.ref o0]) ++ List.replicate (4 - (lg_sl ([.ref o0])).length) Slot.unset).toArray = ls at hl ⊢
  have hl : lv_has ls 4 [(0, .ref o0)] := hl
  refine lv_aload_n hx hb dX0_init_0 rfl (lv_at hl 0 rfl) ?_
  refine W.objInit hx hb hown (hts (.methodLink RX0 3 objectInit) (by decide +kernel)) (hts (.instanceMethod objectInit) (by decide +kernel)) (hts (.code objectInit ⟨#[0xb1]⟩ 1 none) (by decide +kernel)) rfl (by rw [hml]; exact hl.1) rfl dX0_init_1 (Nat.le_of_ble_eq_true rfl) (Nat.le_of_ble_eq_true rfl) ?_
  refine W.eq (g2 := F0 m 4 ls []) rfl ?_
  refine lv_lconst (v := 0) hx hb dX0_init_4 (by decide) ?_
  refine lv_lstore_n (lv' := [(1, .long (0 : Int64)), (0, .ref o0)]) hx hb dX0_init_5 rfl hl (by decide) rfl (fun ls hl => ?_)
  refine ib_const hx hb dX0_init_6 ?_
  refine lv_istore_n (lv' := [(3, .int (iI 0)), (1, .long (0 : Int64)), (0, .ref o0)]) hx hb dX0_init_7 rfl hl (by decide) rfl (fun ls hl => ?_)
  have lp_8_1 : ∀ (j n : Nat), n + j = 12 → ∀ ls : Array Slot, lv_has ls 4 [(0, .ref o0), (1, .long (pkn (fun i => i) n)), (3, .int (iI ((n : Nat) : Int)))] → W P0 l e (headSpec wsX0_init { frames := 1, cells := 0, slots := 0, locals := 24 }).room s m ([.ref o0] : List Value).toArray below meth c s.heap [] 0 0 (MQ below (wrQ (dC, dI) (inW [(o0, .inr (0, [.long (0 : Int64), .long (0 : Int64), .long (0 : Int64), .int (iI 0)]))]) [(o0, .inr (0, [.long (pk (fun i => i)), .long (pk (fun i => i)), .long (pkn q 0), .int (iI 0)]))] (none)) ([.ref o0] : List Value).toArray s 0 0 (inW [(o0, .inr (0, [.long (0 : Int64), .long (0 : Int64), .long (0 : Int64), .int (iI 0)]))])) (F0 m 8 ls []) := by
    intro j
    induction j with
    | zero =>
      intro n hn_8  ls hl
      refine lv_iload_n hx hb dX0_init_8 rfl (lv_at hl 2 rfl) ?_
      refine ib_bi hx hb dX0_init_9 (by decide) ?_
      refine ib_icmp_ge (tgt := 27) hx hb dX0_init_11 (by decide) ⟨by omega, by omega⟩ ⟨by omega, by omega⟩ (fun c_11 => ?_) (fun c_11 => absurd c_11 (by omega))
      refine lv_aload_n hx hb dX0_init_27 rfl (lv_at hl 0 rfl) ?_
      refine lv_lload_n hx hb dX0_init_28 rfl (lv_at hl 1 rfl) ?_
      refine st_l (y := pk (fun i => i)) (congrArg (pkn (fun i => i)) (show n = 12 by omega)) ?_
      refine va_put (D := (dC, dI)) (ci := 0) (v := .long (pk (fun i => i))) (ty := .long) (C := RX0) (T := TX0) (N := 4) hx hb hts hinX tyX0 tyX0_ok nmX0 hown hK hP hD hS 0 rfl rfl 0 (by decide) (hts (.fieldLink RX0 13 "ToneRows" "row0" "J") (by decide +kernel)) (fun _ h9 => h9) rfl (by decide +kernel) rfl rfl (Nat.le_of_ble_eq_true rfl) dX0_init_29 (fun H locs hP hD hS => ?_)
      have hP : va_P (dC, dI) vwCl [(o0, .inr (0, [.long (pk (fun i => i)), .long (0 : Int64), .long (0 : Int64), .int (iI 0)]))] H := hP
      have hD : va_D (inW [(o0, .inr (0, [.long (0 : Int64), .long (0 : Int64), .long (0 : Int64), .int (iI 0)]))]) [(o0, .inr (0, [.long (pk (fun i => i)), .long (0 : Int64), .long (0 : Int64), .int (iI 0)]))] := hD
      refine lv_aload_n hx hb dX0_init_32 rfl (lv_at hl 0 rfl) ?_
      refine lv_lload_n hx hb dX0_init_33 rfl (lv_at hl 1 rfl) ?_
      refine st_l (y := pk (fun i => i)) (congrArg (pkn (fun i => i)) (show n = 12 by omega)) ?_
      refine va_put (D := (dC, dI)) (ci := 0) (v := .long (pk (fun i => i))) (ty := .long) (C := RX0) (T := TX0) (N := 4) hx hb hts hinX tyX0 tyX0_ok nmX0 hown hK hP hD hS 0 rfl rfl 1 (by decide) (hts (.fieldLink RX0 17 "ToneRows" "row1" "J") (by decide +kernel)) (fun _ h9 => h9) rfl (by decide +kernel) rfl rfl (Nat.le_of_ble_eq_true rfl) dX0_init_34 (fun H locs hP hD hS => ?_)
      have hP : va_P (dC, dI) vwCl [(o0, .inr (0, [.long (pk (fun i => i)), .long (pk (fun i => i)), .long (0 : Int64), .int (iI 0)]))] H := hP
      have hD : va_D (inW [(o0, .inr (0, [.long (0 : Int64), .long (0 : Int64), .long (0 : Int64), .int (iI 0)]))]) [(o0, .inr (0, [.long (pk (fun i => i)), .long (pk (fun i => i)), .long (0 : Int64), .int (iI 0)]))] := hD
      exact W.vret hx hb hr (fun t ht _ => ⟨rfl, by rw [ht]; exact hP, hS.F ht⟩) hS.2.2 dX0_init_37
    | succ j ih_8_1 =>
      intro n hn_8  ls hl
      refine lv_iload_n hx hb dX0_init_8 rfl (lv_at hl 2 rfl) ?_
      refine ib_bi hx hb dX0_init_9 (by decide) ?_
      refine ib_icmp_ge (tgt := 27) hx hb dX0_init_11 (by decide) ⟨by omega, by omega⟩ ⟨by omega, by omega⟩ (fun c_11 => absurd c_11 (by omega)) (fun c_11 => ?_)
      refine lv_lload_n hx hb dX0_init_14 rfl (lv_at hl 1 rfl) ?_
      refine lv_iload_n hx hb dX0_init_15 rfl (lv_at hl 2 rfl) ?_
      refine lv_iload_n hx hb dX0_init_16 rfl (lv_at hl 2 rfl) ?_
      refine rd_call (va_runS (As := [.long (pkn (fun i => i) n), .int (iI ((n : Nat) : Int)), .int (iI ((n : Nat) : Int))]) (rest := []) ⟨hx, hb, hml, hown, hts⟩ (mX0_withEntry l (pkn (fun i => i) n) n n (by omega)) (va_cwS 3 hts gX0_init_X0_withEntry rfl rfl rfl hdX0_withEntry ⟨Nat.le_of_ble_eq_true rfl, Nat.le_of_ble_eq_true rfl⟩) tt_pre rfl rfl hl.1 rfl (lv_room (Nat.le_of_ble_eq_true rfl)) dX0_init_17 ⟨Nat.le_of_ble_eq_true rfl, Nat.le_of_ble_eq_true rfl⟩) ?_
      refine st_l (y := pkn (fun i => i) (n + 1)) (rfl) ?_
      refine lv_lstore_n (lv' := [(1, .long (pkn (fun i => i) (n + 1))), (0, .ref o0), (3, .int (iI ((n : Nat) : Int)))]) hx hb dX0_init_20 rfl hl (by decide) rfl (fun ls hl => ?_)
      refine lv_iinc (v := iI ((n + 1 : Nat) : Int)) (lv' := [(3, .int (iI ((n + 1 : Nat) : Int))), (1, .long (pkn (fun i => i) (n + 1))), (0, .ref o0)]) hx hb dX0_init_21 hl (k := 2) rfl (iI_inc (by omega)) (by decide) rfl (fun ls hl => ?_)
      refine lv_goto (tgt := 8) hx hb dX0_init_24 (by decide) ?_
      exact ih_8_1 (n + 1) (by omega)  _ (lv_sub hl [2, 1, 0] rfl)
  exact lp_8_1 12 0 (by omega)  _ (lv_sub hl [2, 1, 0] rfl)

