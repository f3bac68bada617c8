/-! ===== constructors ===== -/
def iniQ (D : va_G) (m0 : Nat) : Array Value → State → Outcome → State → Prop := fun _ st o t => o = .returned none ∧ ∃ (cI : ClassId) (t0 k0 p0 : Nat),
  va_P D vwCl [(m0, .inr (1, [.int (iI 0), .ref t0, .ref k0, .ref p0, .int (iI 0)])), (t0, .inl (cI, 24, .inl (fun j => iI ((tb (fun i => i) (fun i => i) j : Nat) : Int)))), (k0, .inl (cI, 12, .inl (fun _ => iI ((0 : Nat) : Int)))), (p0, .inl (cI, 12, .inl (fun _ => iI ((0 : Nat) : Int))))] t.heap ∧ va_K D vwCl [(cI, .int)] t ∧
  va_D (fun q => q = m0 ∨ st.heap.size ≤ q) [(m0, .inr (1, [.int (iI 0), .ref t0, .ref k0, .ref p0, .int (iI 0)])), (t0, .inl (cI, 24, .inl (fun j => iI ((tb (fun i => i) (fun i => i) j : Nat) : Int)))), (k0, .inl (cI, 12, .inl (fun _ => iI ((0 : Nat) : Int)))), (p0, .inl (cI, 12, .inl (fun _ => iI ((0 : Nat) : Int))))] ∧ va_F (fun q => q = m0) st t
theorem tys_eq {D : va_G} {cl : List vw_C} {tys : List (ClassId × FieldType)} {U : State} {i j : Nat} {c1 c2 : ClassId} (hK : va_K D cl tys U) (h1 : tys[i]? = some (c1, .int)) (h2 : tys[j]? = some (c2, .int)) : c1 = c2 := by
  have e1 : U.vm.findClass ("[" ++ (FieldType.int).toString) = some c1 := (hK.2 i _ h1).2
  have e2 : U.vm.findClass ("[" ++ (FieldType.int).toString) = some c2 := (hK.2 j _ h2).2
  exact Option.some.inj (e1.symm.trans e2)
theorem va_D_one {A : Nat → Prop} {q : Nat} {e : va_E} (h : A q) : va_D A [(q, e)] := ⟨fun i j p r hi hj _ => by
    have h1 : i < 1 := (List.getElem?_eq_some_iff.mp hi).1
    have h2 : j < 1 := (List.getElem?_eq_some_iff.mp hj).1
    omega, fun k r hk => by
    have h1 : k < 1 := (List.getElem?_eq_some_iff.mp hk).1
    rw [show k = 0 by omega] at hk
    cases hk
    exact h⟩
theorem in_st {n j : Nat} (hj : j < 24) : (if j = n then iI ((n % 12 : Nat) : Int) else if j < n then iI ((j % 12 : Nat) : Int) else 0) = (if j < n + 1 then iI ((j % 12 : Nat) : Int) else 0) := by
  by_cases h : j = n
  · rw [if_pos h, if_pos (by omega), h]
  · rw [if_neg h]
    by_cases h2 : j < n
    · rw [if_pos h2, if_pos (by omega)]
    · rw [if_neg h2, if_neg (by omega)]
theorem tb_id {n j : Nat} (hj : j < 24) (hn : n = 24) : (if j < n then iI ((j % 12 : Nat) : Int) else 0) = iI ((tb (fun i => i) (fun i => i) j : Nat) : Int) := by
  rw [if_pos (by omega)]
  refine congrArg (fun z : Nat => iI ((z : Nat) : Int)) ?_
  show j % 12 = if j < 12 then j else j - 12
  split <;> omega

set_option maxHeartbeats 4000000 in
set_option maxRecDepth 100000 in
theorem mX0_init (l : Launch) (dC : Nat → ClassId) (dI : Nat → Nat → Nat) (o0 : Nat) (q : Nat → Nat) : wr l yX0_init wsX0_init { frames := 1, cells := 0, slots := 0, locals := 24 } [.ref o0] (dC, dI) [(o0, .inr (0, [.long (0 : Int64), .long (0 : Int64), .long (0 : Int64), .int (iI 0)]))] [] [(o0, .inr (0, [.long (pk (fun i => i)), .long (pk (fun i => i)), .long (pkn q 0), .int (iI 0)]))] (none) := by
  refine Met.ofW (cc := cX0_init) (maxL := 4) (ret := none) (by decide) rfl ?_
  intro P0 e s m args below meth c s₁ B hml hv
  obtain ⟨rfl, hP, hK, hD0⟩ := hv
  have hx := B.exec
  have hb := B.bytes
  have hr := B.returns
  have hts := atoms_spec (ws := wsX0_init) B.pre
  have hown : s.vm.findClass RX0 = some m.cls := findClass_of_methodNamed B.named
  have hlocks := B.notSynchronized
  have hinX : ∀ w ∈ u_ws RX0 TX0 4, w ∈ wsX0_init := by decide +kernel
  have hD : va_D (inW [(o0, .inr (0, [.long (0 : Int64), .long (0 : Int64), .long (0 : Int64), .int (iI 0)]))]) [(o0, .inr (0, [.long (0 : Int64), .long (0 : Int64), .long (0 : Int64), .int (iI 0)]))] := va_D_in hD0
  have hS : va_S (inW [(o0, .inr (0, [.long (0 : Int64), .long (0 : Int64), .long (0 : Int64), .int (iI 0)]))]) s.heap s.heap [] := va_S.rf
  have hin : meth.name = "<init>" := (name_of_methodNamed B.named B.method).1
  have hl := lv_entry ([.ref o0]) (n := 4) (Nat.le_of_ble_eq_true rfl)
  rw [lg_entry_eq]
  generalize (lg_sl ([.ref o0]) ++ List.replicate (4 - (lg_sl ([.ref o0])).length) Slot.unset).toArray = ls at hl ⊢
  have hl : lv_has ls 4 [(0, .ref o0)] := hl
  refine lv_aload_n hx hb dX0_init_0 rfl (lv_at hl 0 rfl) ?_
  refine W.objInit hx hb hown (hts (.methodLink RX0 3 objectInit) (by decide +kernel)) (hts (.instanceMethod objectInit) (by decide +kernel)) (hts (.code objectInit ⟨#[0xb1]⟩ 1 none) (by decide +kernel)) rfl (by rw [hml]; exact hl.1) rfl dX0_init_1 (Nat.le_of_ble_eq_true rfl) (Nat.le_of_ble_eq_true rfl) ?_
  refine W.eq (g2 := F0 m 4 ls []) rfl ?_
  refine lv_lconst (v := 0) hx hb dX0_init_4 (by decide) ?_
  refine lv_lstore_n (lv' := [(1, .long (0 : Int64)), (0, .ref o0)]) hx hb dX0_init_5 rfl hl (by decide) rfl (fun ls hl => ?_)
  refine ib_const hx hb dX0_init_6 ?_
  refine lv_istore_n (lv' := [(3, .int (iI 0)), (1, .long (0 : Int64)), (0, .ref o0)]) hx hb dX0_init_7 rfl hl (by decide) rfl (fun ls hl => ?_)
  have lp_8_1 : ∀ (j n : Nat), n + j = 12 → ∀ ls : Array Slot, lv_has ls 4 [(0, .ref o0), (1, .long (pkn (fun i => i) n)), (3, .int (iI ((n : Nat) : Int)))] → W P0 l e (headSpec wsX0_init { frames := 1, cells := 0, slots := 0, locals := 24 }).room s m ([.ref o0] : List Value).toArray below meth c s.heap [] 0 0 (MQ below (wrQ (dC, dI) (inW [(o0, .inr (0, [.long (0 : Int64), .long (0 : Int64), .long (0 : Int64), .int (iI 0)]))]) [(o0, .inr (0, [.long (pk (fun i => i)), .long (pk (fun i => i)), .long (pkn q 0), .int (iI 0)]))] (none)) ([.ref o0] : List Value).toArray s 0 0 (inW [(o0, .inr (0, [.long (0 : Int64), .long (0 : Int64), .long (0 : Int64), .int (iI 0)]))])) (F0 m 8 ls []) := by
    intro j
    induction j with
    | zero =>
      intro n hn_8  ls hl
      refine lv_iload_n hx hb dX0_init_8 rfl (lv_at hl 2 rfl) ?_
      refine ib_bi hx hb dX0_init_9 (by decide) ?_
      refine ib_icmp_ge (tgt := 27) hx hb dX0_init_11 (by decide) ⟨by omega, by omega⟩ ⟨by omega, by omega⟩ (fun c_11 => ?_) (fun c_11 => absurd c_11 (by omega))
      refine lv_aload_n hx hb dX0_init_27 rfl (lv_at hl 0 rfl) ?_
      refine lv_lload_n hx hb dX0_init_28 rfl (lv_at hl 1 rfl) ?_
      refine st_l (y := pk (fun i => i)) (congrArg (pkn (fun i => i)) (show n = 12 by omega)) ?_
      refine va_put (D := (dC, dI)) (ci := 0) (v := .long (pk (fun i => i))) (ty := .long) (C := RX0) (T := TX0) (N := 4) hx hb hts hinX tyX0 tyX0_ok nmX0 hown hK hP hD hS 0 rfl rfl 0 (by decide) (hts (.fieldLink RX0 13 "ToneRows" "row0" "J") (by decide +kernel)) (fun _ h9 => h9) rfl (by decide +kernel) rfl rfl (Nat.le_of_ble_eq_true rfl) dX0_init_29 (fun H locs hP hD hS => ?_)
      have hP : va_P (dC, dI) vwCl [(o0, .inr (0, [.long (pk (fun i => i)), .long (0 : Int64), .long (0 : Int64), .int (iI 0)]))] H := hP
      have hD : va_D (inW [(o0, .inr (0, [.long (0 : Int64), .long (0 : Int64), .long (0 : Int64), .int (iI 0)]))]) [(o0, .inr (0, [.long (pk (fun i => i)), .long (0 : Int64), .long (0 : Int64), .int (iI 0)]))] := hD
      refine lv_aload_n hx hb dX0_init_32 rfl (lv_at hl 0 rfl) ?_
      refine lv_lload_n hx hb dX0_init_33 rfl (lv_at hl 1 rfl) ?_
      refine st_l (y := pk (fun i => i)) (congrArg (pkn (fun i => i)) (show n = 12 by omega)) ?_
      refine va_put (D := (dC, dI)) (ci := 0) (v := .long (pk (fun i => i))) (ty := .long) (C := RX0) (T := TX0) (N := 4) hx hb hts hinX tyX0 tyX0_ok nmX0 hown hK hP hD hS 0 rfl rfl 1 (by decide) (hts (.fieldLink RX0 17 "ToneRows" "row1" "J") (by decide +kernel)) (fun _ h9 => h9) rfl (by decide +kernel) rfl rfl (Nat.le_of_ble_eq_true rfl) dX0_init_34 (fun H locs hP hD hS => ?_)
      have hP : va_P (dC, dI) vwCl [(o0, .inr (0, [.long (pk (fun i => i)), .long (pk (fun i => i)), .long (0 : Int64), .int (iI 0)]))] H := hP
      have hD : va_D (inW [(o0, .inr (0, [.long (0 : Int64), .long (0 : Int64), .long (0 : Int64), .int (iI 0)]))]) [(o0, .inr (0, [.long (pk (fun i => i)), .long (pk (fun i => i)), .long (0 : Int64), .int (iI 0)]))] := hD
      exact W.vret hx hb hr (fun t ht _ => ⟨rfl, by rw [ht]; exact hP, hS.F ht⟩) hS.2.2 dX0_init_37
    | succ j ih_8_1 =>
      intro n hn_8  ls hl
      refine lv_iload_n hx hb dX0_init_8 rfl (lv_at hl 2 rfl) ?_
      refine ib_bi hx hb dX0_init_9 (by decide) ?_
      refine ib_icmp_ge (tgt := 27) hx hb dX0_init_11 (by decide) ⟨by omega, by omega⟩ ⟨by omega, by omega⟩ (fun c_11 => absurd c_11 (by omega)) (fun c_11 => ?_)
      refine lv_lload_n hx hb dX0_init_14 rfl (lv_at hl 1 rfl) ?_
      refine lv_iload_n hx hb dX0_init_15 rfl (lv_at hl 2 rfl) ?_
      refine lv_iload_n hx hb dX0_init_16 rfl (lv_at hl 2 rfl) ?_
      refine rd_call (va_runS (As := [.long (pkn (fun i => i) n), .int (iI ((n : Nat) : Int)), .int (iI ((n : Nat) : Int))]) (rest := []) ⟨hx, hb, hml, hown, hts⟩ (mX0_withEntry l (pkn (fun i => i) n) n n (by omega)) (va_cwS 3 hts gX0_init_X0_withEntry rfl rfl rfl hdX0_withEntry ⟨Nat.le_of_ble_eq_true rfl, Nat.le_of_ble_eq_true rfl⟩) tt_pre rfl rfl hl.1 rfl (lv_room (Nat.le_of_ble_eq_true rfl)) dX0_init_17 ⟨Nat.le_of_ble_eq_true rfl, Nat.le_of_ble_eq_true rfl⟩) ?_
      refine st_l (y := pkn (fun i => i) (n + 1)) (rfl) ?_
      refine lv_lstore_n (lv' := [(1, .long (pkn (fun i => i) (n + 1))), (0, .ref o0), (3, .int (iI ((n : Nat) : Int)))]) hx hb dX0_init_20 rfl hl (by decide) rfl (fun ls hl => ?_)
      refine lv_iinc (v := iI ((n + 1 : Nat) : Int)) (lv' := [(3, .int (iI ((n + 1 : Nat) : Int))), (1, .long (pkn (fun i => i) (n + 1))), (0, .ref o0)]) hx hb dX0_init_21 hl (k := 2) rfl (iI_inc (by omega)) (by decide) rfl (fun ls hl => ?_)
      refine lv_goto (tgt := 8) hx hb dX0_init_24 (by decide) ?_
      exact ih_8_1 (n + 1) (by omega)  _ (lv_sub hl [2, 1, 0] rfl)
  exact lp_8_1 12 0 (by omega)  _ (lv_sub hl [2, 1, 0] rfl)

set_option maxHeartbeats 4000000 in
set_option maxRecDepth 100000 in
theorem mX1_init (l : Launch) (dC : Nat → ClassId) (dI : Nat → Nat → Nat) (m0 sz : Nat) : Met l yX1_init wsX1_init { frames := 1, cells := 3, slots := 48, locals := 12 } (va_Pc [.ref m0] (fun U => U.heap.size = sz ∧ va_P (dC, dI) vwCl [(m0, .inr (1, [.int (iI 0), .null, .null, .null, .int (iI 0)]))] U.heap ∧ va_K (dC, dI) vwCl [] U)) (iniQ (dC, dI) m0) 3 48 (fun q9 => q9 = m0 ∨ sz ≤ q9) := by
  refine Met.ofW (cc := cX1_init) (maxL := 2) (ret := none) (by decide) rfl ?_
  intro P0 e s m args below meth c s₁ B hml hv
  obtain ⟨rfl, hsz, hP, hK⟩ := hv
  subst hsz
  have hx := B.exec
  have hb := B.bytes
  have hr := B.returns
  have hts := atoms_spec (ws := wsX1_init) B.pre
  have hown : s.vm.findClass RX1 = some m.cls := findClass_of_methodNamed B.named
  have hlocks := B.notSynchronized
  have hinX : ∀ w ∈ u_ws RX1 TX1 5, w ∈ wsX1_init := by decide +kernel
  have hA : ∀ q9 : Nat, s.heap.size ≤ q9 → (fun q9 => q9 = m0 ∨ s.heap.size ≤ q9) q9 := fun q9 h9 => Or.inr h9
  have hD : va_D (fun q9 => q9 = m0 ∨ s.heap.size ≤ q9) [(m0, .inr (1, [.int (iI 0), .null, .null, .null, .int (iI 0)]))] := va_D_one (Or.inl rfl)
  have hS : va_S (fun q9 => q9 = m0 ∨ s.heap.size ≤ q9) s.heap s.heap [] := va_S.rf
  have hin : meth.name = "<init>" := (name_of_methodNamed B.named B.method).1
  have hl := lv_entry ([.ref m0]) (n := 2) (Nat.le_of_ble_eq_true rfl)
  rw [lg_entry_eq]
  generalize (lg_sl ([.ref m0]) ++ List.replicate (2 - (lg_sl ([.ref m0])).length) Slot.unset).toArray = ls at hl ⊢
  have hl : lv_has ls 2 [(0, .ref m0)] := hl
  refine lv_aload_n hx hb dX1_init_0 rfl (lv_at hl 0 rfl) ?_
  refine W.objInit hx hb hown (hts (.methodLink RX1 1 objectInit) (by decide +kernel)) (hts (.instanceMethod objectInit) (by decide +kernel)) (hts (.code objectInit ⟨#[0xb1]⟩ 1 none) (by decide +kernel)) rfl (by rw [hml]; exact hl.1) rfl dX1_init_1 (Nat.le_of_ble_eq_true rfl) (Nat.le_of_ble_eq_true rfl) ?_
  refine W.eq (g2 := F0 m 4 ls []) rfl ?_
  refine lv_aload_n hx hb dX1_init_4 rfl (lv_at hl 0 rfl) ?_
  refine ib_bi hx hb dX1_init_5 (by decide) ?_
  refine va_newa (atype := .int) (ty := .int) (N' := 24) (a0 := (24, .inl (fun _ => 0))) hx hb (hts (.arrayClass .int) (by decide +kernel)) rfl hK hP hD hS hA (fun cA => rfl) (by decide +kernel) (by decide +kernel) (by decide +kernel) (Nat.le_of_ble_eq_true rfl) (Nat.le_of_ble_eq_true rfl) dX1_init_7 (fun t0 c_t0 H hK hP hD hS => ?_)
  have hK : va_K (dC, dI) vwCl [(c_t0, .int)] s := hK
  have hP : va_P (dC, dI) vwCl [(m0, .inr (1, [.int (iI 0), .null, .null, .null, .int (iI 0)])), (t0, .inl (c_t0, 24, .inl (fun _ => 0)))] H := hP
  have hD : va_D (fun q9 => q9 = m0 ∨ s.heap.size ≤ q9) [(m0, .inr (1, [.int (iI 0), .null, .null, .null, .int (iI 0)])), (t0, .inl (c_t0, 24, .inl (fun _ => 0)))] := hD
  refine va_putF (D := (dC, dI)) (ci := 1) (v := .ref t0) (ty := .array .int) (C := RX1) (T := TX1) (N := 5) hx hb hts hinX tyX1 tyX1_ok nmX1 hown hK hP hD hS 0 rfl rfl 1 (by decide) (hts (.fieldLink RX1 7 "ToneRowsModel" "tones" "[I") (by decide +kernel)) (fun _ h9 => h9) rfl hin rfl (by decide +kernel) rfl rfl (Nat.le_of_ble_eq_true rfl) dX1_init_9 (fun H locs hP hD hS => ?_)
  have hP : va_P (dC, dI) vwCl [(m0, .inr (1, [.int (iI 0), .ref t0, .null, .null, .int (iI 0)])), (t0, .inl (c_t0, 24, .inl (fun _ => 0)))] H := hP
  have hD : va_D (fun q9 => q9 = m0 ∨ s.heap.size ≤ q9) [(m0, .inr (1, [.int (iI 0), .ref t0, .null, .null, .int (iI 0)])), (t0, .inl (c_t0, 24, .inl (fun _ => 0)))] := hD
  refine lv_aload_n hx hb dX1_init_12 rfl (lv_at hl 0 rfl) ?_
  refine ib_bi hx hb dX1_init_13 (by decide) ?_
  refine va_newa (atype := .int) (ty := .int) (N' := 12) (a0 := (12, .inl (fun _ => 0))) hx hb (hts (.arrayClass .int) (by decide +kernel)) rfl hK hP hD hS hA (fun cA => rfl) (by decide +kernel) (by decide +kernel) (by decide +kernel) (Nat.le_of_ble_eq_true rfl) (Nat.le_of_ble_eq_true rfl) dX1_init_15 (fun k0 c_k0 H hK hP hD hS => ?_)
  obtain rfl : c_t0 = c_k0 := tys_eq hK (i := 0) (j := 1) rfl rfl
  have hK : va_K (dC, dI) vwCl [(c_t0, .int)] s := hK.sub [0] rfl
  have hP : va_P (dC, dI) vwCl [(m0, .inr (1, [.int (iI 0), .ref t0, .null, .null, .int (iI 0)])), (t0, .inl (c_t0, 24, .inl (fun _ => 0))), (k0, .inl (c_t0, 12, .inl (fun _ => 0)))] H := hP
  have hD : va_D (fun q9 => q9 = m0 ∨ s.heap.size ≤ q9) [(m0, .inr (1, [.int (iI 0), .ref t0, .null, .null, .int (iI 0)])), (t0, .inl (c_t0, 24, .inl (fun _ => 0))), (k0, .inl (c_t0, 12, .inl (fun _ => 0)))] := hD
  refine va_putF (D := (dC, dI)) (ci := 1) (v := .ref k0) (ty := .array .int) (C := RX1) (T := TX1) (N := 5) hx hb hts hinX tyX1 tyX1_ok nmX1 hown hK hP hD hS 0 rfl rfl 2 (by decide) (hts (.fieldLink RX1 13 "ToneRowsModel" "kept" "[I") (by decide +kernel)) (fun _ h9 => h9) rfl hin rfl (by decide +kernel) rfl rfl (Nat.le_of_ble_eq_true rfl) dX1_init_17 (fun H locs hP hD hS => ?_)
  have hP : va_P (dC, dI) vwCl [(m0, .inr (1, [.int (iI 0), .ref t0, .ref k0, .null, .int (iI 0)])), (t0, .inl (c_t0, 24, .inl (fun _ => 0))), (k0, .inl (c_t0, 12, .inl (fun _ => 0)))] H := hP
  have hD : va_D (fun q9 => q9 = m0 ∨ s.heap.size ≤ q9) [(m0, .inr (1, [.int (iI 0), .ref t0, .ref k0, .null, .int (iI 0)])), (t0, .inl (c_t0, 24, .inl (fun _ => 0))), (k0, .inl (c_t0, 12, .inl (fun _ => 0)))] := hD
  refine lv_aload_n hx hb dX1_init_20 rfl (lv_at hl 0 rfl) ?_
  refine ib_bi hx hb dX1_init_21 (by decide) ?_
  refine va_newa (atype := .int) (ty := .int) (N' := 12) (a0 := (12, .inl (fun _ => 0))) hx hb (hts (.arrayClass .int) (by decide +kernel)) rfl hK hP hD hS hA (fun cA => rfl) (by decide +kernel) (by decide +kernel) (by decide +kernel) (Nat.le_of_ble_eq_true rfl) (Nat.le_of_ble_eq_true rfl) dX1_init_23 (fun p0 c_p0 H hK hP hD hS => ?_)
  obtain rfl : c_t0 = c_p0 := tys_eq hK (i := 0) (j := 1) rfl rfl
  have hK : va_K (dC, dI) vwCl [(c_t0, .int)] s := hK.sub [0] rfl
  have hP : va_P (dC, dI) vwCl [(m0, .inr (1, [.int (iI 0), .ref t0, .ref k0, .null, .int (iI 0)])), (t0, .inl (c_t0, 24, .inl (fun _ => 0))), (k0, .inl (c_t0, 12, .inl (fun _ => 0))), (p0, .inl (c_t0, 12, .inl (fun _ => 0)))] H := hP
  have hD : va_D (fun q9 => q9 = m0 ∨ s.heap.size ≤ q9) [(m0, .inr (1, [.int (iI 0), .ref t0, .ref k0, .null, .int (iI 0)])), (t0, .inl (c_t0, 24, .inl (fun _ => 0))), (k0, .inl (c_t0, 12, .inl (fun _ => 0))), (p0, .inl (c_t0, 12, .inl (fun _ => 0)))] := hD
  refine va_putF (D := (dC, dI)) (ci := 1) (v := .ref p0) (ty := .array .int) (C := RX1) (T := TX1) (N := 5) hx hb hts hinX tyX1 tyX1_ok nmX1 hown hK hP hD hS 0 rfl rfl 3 (by decide) (hts (.fieldLink RX1 16 "ToneRowsModel" "phrase" "[I") (by decide +kernel)) (fun _ h9 => h9) rfl hin rfl (by decide +kernel) rfl rfl (Nat.le_of_ble_eq_true rfl) dX1_init_25 (fun H locs hP hD hS => ?_)
  have hP : va_P (dC, dI) vwCl [(m0, .inr (1, [.int (iI 0), .ref t0, .ref k0, .ref p0, .int (iI 0)])), (t0, .inl (c_t0, 24, .inl (fun _ => 0))), (k0, .inl (c_t0, 12, .inl (fun _ => 0))), (p0, .inl (c_t0, 12, .inl (fun _ => 0)))] H := hP
  have hD : va_D (fun q9 => q9 = m0 ∨ s.heap.size ≤ q9) [(m0, .inr (1, [.int (iI 0), .ref t0, .ref k0, .ref p0, .int (iI 0)])), (t0, .inl (c_t0, 24, .inl (fun _ => 0))), (k0, .inl (c_t0, 12, .inl (fun _ => 0))), (p0, .inl (c_t0, 12, .inl (fun _ => 0)))] := hD
  refine ib_const hx hb dX1_init_28 ?_
  refine lv_istore_n (lv' := [(1, .int (iI 0)), (0, .ref m0)]) hx hb dX1_init_29 rfl hl (by decide) rfl (fun ls hl => ?_)
  have hP : va_P (dC, dI) vwCl [(m0, .inr (1, [.int (iI 0), .ref t0, .ref k0, .ref p0, .int (iI 0)])), (t0, .inl (c_t0, 24, .inl (fun j => if j < 0 then iI ((j % 12 : Nat) : Int) else 0))), (k0, .inl (c_t0, 12, .inl (fun _ => 0))), (p0, .inl (c_t0, 12, .inl (fun _ => 0)))] H := va_P_arr (q0 := 1) (f := fun _ => 0) (g := fun j => if j < 0 then iI ((j % 12 : Nat) : Int) else 0) (fun j hj => (if_neg (Nat.not_lt_zero _)).symm) rfl hP
  have hD : va_D (fun q9 => q9 = m0 ∨ s.heap.size ≤ q9) [(m0, .inr (1, [.int (iI 0), .ref t0, .ref k0, .ref p0, .int (iI 0)])), (t0, .inl (c_t0, 24, .inl (fun j => if j < 0 then iI ((j % 12 : Nat) : Int) else 0))), (k0, .inl (c_t0, 12, .inl (fun _ => 0))), (p0, .inl (c_t0, 12, .inl (fun _ => 0)))] := va_D_same (w := [(m0, .inr (1, [.int (iI 0), .ref t0, .ref k0, .ref p0, .int (iI 0)])), (t0, .inl (c_t0, 24, .inl (fun _ => 0))), (k0, .inl (c_t0, 12, .inl (fun _ => 0))), (p0, .inl (c_t0, 12, .inl (fun _ => 0)))]) (Eq.trans (b := [m0, t0, k0, p0]) rfl rfl) hD
  have lp_30_1 : ∀ (j n : Nat), n + j = 24 → ∀ (H : Heap) (locs : List Loc), va_P (dC, dI) vwCl [(m0, .inr (1, [.int (iI 0), .ref t0, .ref k0, .ref p0, .int (iI 0)])), (t0, .inl (c_t0, 24, .inl (fun j => if j < n then iI ((j % 12 : Nat) : Int) else 0))), (k0, .inl (c_t0, 12, .inl (fun _ => 0))), (p0, .inl (c_t0, 12, .inl (fun _ => 0)))] H → va_D (fun q9 => q9 = m0 ∨ s.heap.size ≤ q9) [(m0, .inr (1, [.int (iI 0), .ref t0, .ref k0, .ref p0, .int (iI 0)])), (t0, .inl (c_t0, 24, .inl (fun j => if j < n then iI ((j % 12 : Nat) : Int) else 0))), (k0, .inl (c_t0, 12, .inl (fun _ => 0))), (p0, .inl (c_t0, 12, .inl (fun _ => 0)))] → va_S (fun q9 => q9 = m0 ∨ s.heap.size ≤ q9) s.heap H locs → ∀ ls : Array Slot, lv_has ls 2 [(0, .ref m0), (1, .int (iI ((n : Nat) : Int)))] → W P0 l e (headSpec wsX1_init { frames := 1, cells := 3, slots := 48, locals := 12 }).room s m ([.ref m0] : List Value).toArray below meth c H locs 3 48 (MQ below (iniQ (dC, dI) m0) ([.ref m0] : List Value).toArray s 3 48 (fun q9 => q9 = m0 ∨ s.heap.size ≤ q9)) (F0 m 30 ls []) := by
    intro j
    induction j with
    | zero =>
      intro n hn_30  H locs hP hD hS ls hl
      refine lv_iload_n hx hb dX1_init_30 rfl (lv_at hl 1 rfl) ?_
      refine ib_bi hx hb dX1_init_31 (by decide) ?_
      refine ib_icmp_ge (tgt := 52) hx hb dX1_init_33 (by decide) ⟨by omega, by omega⟩ ⟨by omega, by omega⟩ (fun c_33 => ?_) (fun c_33 => absurd c_33 (by omega))
      have hP : va_P (dC, dI) vwCl [(m0, .inr (1, [.int (iI 0), .ref t0, .ref k0, .ref p0, .int (iI 0)])), (t0, .inl (c_t0, 24, .inl (fun j => iI ((tb (fun i => i) (fun i => i) j : Nat) : Int)))), (k0, .inl (c_t0, 12, .inl (fun _ => 0))), (p0, .inl (c_t0, 12, .inl (fun _ => 0)))] H := va_P_arr (q0 := 1) (f := fun j => if j < n then iI ((j % 12 : Nat) : Int) else 0) (g := fun j => iI ((tb (fun i => i) (fun i => i) j : Nat) : Int)) (fun j hj => tb_id hj (show n = 24 by omega)) rfl hP
      have hD : va_D (fun q9 => q9 = m0 ∨ s.heap.size ≤ q9) [(m0, .inr (1, [.int (iI 0), .ref t0, .ref k0, .ref p0, .int (iI 0)])), (t0, .inl (c_t0, 24, .inl (fun j => iI ((tb (fun i => i) (fun i => i) j : Nat) : Int)))), (k0, .inl (c_t0, 12, .inl (fun _ => 0))), (p0, .inl (c_t0, 12, .inl (fun _ => 0)))] := va_D_same (w := [(m0, .inr (1, [.int (iI 0), .ref t0, .ref k0, .ref p0, .int (iI 0)])), (t0, .inl (c_t0, 24, .inl (fun j => if j < n then iI ((j % 12 : Nat) : Int) else 0))), (k0, .inl (c_t0, 12, .inl (fun _ => 0))), (p0, .inl (c_t0, 12, .inl (fun _ => 0)))]) (Eq.trans (b := [m0, t0, k0, p0]) rfl rfl) hD
      have hP : va_P (dC, dI) vwCl [(m0, .inr (1, [.int (iI 0), .ref t0, .ref k0, .ref p0, .int (iI 0)])), (t0, .inl (c_t0, 24, .inl (fun j => iI ((tb (fun i => i) (fun i => i) j : Nat) : Int)))), (k0, .inl (c_t0, 12, .inl (fun _ => iI ((0 : Nat) : Int)))), (p0, .inl (c_t0, 12, .inl (fun _ => 0)))] H := va_P_arr (q0 := 2) (f := fun _ => 0) (g := fun _ => iI ((0 : Nat) : Int)) (fun j hj => rfl) rfl hP
      have hD : va_D (fun q9 => q9 = m0 ∨ s.heap.size ≤ q9) [(m0, .inr (1, [.int (iI 0), .ref t0, .ref k0, .ref p0, .int (iI 0)])), (t0, .inl (c_t0, 24, .inl (fun j => iI ((tb (fun i => i) (fun i => i) j : Nat) : Int)))), (k0, .inl (c_t0, 12, .inl (fun _ => iI ((0 : Nat) : Int)))), (p0, .inl (c_t0, 12, .inl (fun _ => 0)))] := va_D_same (w := [(m0, .inr (1, [.int (iI 0), .ref t0, .ref k0, .ref p0, .int (iI 0)])), (t0, .inl (c_t0, 24, .inl (fun j => iI ((tb (fun i => i) (fun i => i) j : Nat) : Int)))), (k0, .inl (c_t0, 12, .inl (fun _ => 0))), (p0, .inl (c_t0, 12, .inl (fun _ => 0)))]) (Eq.trans (b := [m0, t0, k0, p0]) rfl rfl) hD
      have hP : va_P (dC, dI) vwCl [(m0, .inr (1, [.int (iI 0), .ref t0, .ref k0, .ref p0, .int (iI 0)])), (t0, .inl (c_t0, 24, .inl (fun j => iI ((tb (fun i => i) (fun i => i) j : Nat) : Int)))), (k0, .inl (c_t0, 12, .inl (fun _ => iI ((0 : Nat) : Int)))), (p0, .inl (c_t0, 12, .inl (fun _ => iI ((0 : Nat) : Int))))] H := va_P_arr (q0 := 3) (f := fun _ => 0) (g := fun _ => iI ((0 : Nat) : Int)) (fun j hj => rfl) rfl hP
      have hD : va_D (fun q9 => q9 = m0 ∨ s.heap.size ≤ q9) [(m0, .inr (1, [.int (iI 0), .ref t0, .ref k0, .ref p0, .int (iI 0)])), (t0, .inl (c_t0, 24, .inl (fun j => iI ((tb (fun i => i) (fun i => i) j : Nat) : Int)))), (k0, .inl (c_t0, 12, .inl (fun _ => iI ((0 : Nat) : Int)))), (p0, .inl (c_t0, 12, .inl (fun _ => iI ((0 : Nat) : Int))))] := va_D_same (w := [(m0, .inr (1, [.int (iI 0), .ref t0, .ref k0, .ref p0, .int (iI 0)])), (t0, .inl (c_t0, 24, .inl (fun j => iI ((tb (fun i => i) (fun i => i) j : Nat) : Int)))), (k0, .inl (c_t0, 12, .inl (fun _ => iI ((0 : Nat) : Int)))), (p0, .inl (c_t0, 12, .inl (fun _ => 0)))]) (Eq.trans (b := [m0, t0, k0, p0]) rfl rfl) hD
      exact W.vret hx hb hr (fun t ht hw9 => ⟨rfl, c_t0, t0, k0, p0, by rw [ht]; exact hP, va_K.moved hw9.alike hK, hD, by rw [ht]; exact hS.1, fun q h1 h2 => by rw [ht]; exact hS.2.1 q h1 (fun z => z.elim h2 (fun h => absurd h1 (by omega)))⟩) hS.2.2 dX1_init_52
    | succ j ih_30_1 =>
      intro n hn_30  H locs hP hD hS ls hl
      refine lv_iload_n hx hb dX1_init_30 rfl (lv_at hl 1 rfl) ?_
      refine ib_bi hx hb dX1_init_31 (by decide) ?_
      refine ib_icmp_ge (tgt := 52) hx hb dX1_init_33 (by decide) ⟨by omega, by omega⟩ ⟨by omega, by omega⟩ (fun c_33 => absurd c_33 (by omega)) (fun c_33 => ?_)
      refine lv_aload_n hx hb dX1_init_36 rfl (lv_at hl 0 rfl) ?_
      refine va_get (D := (dC, dI)) (ci := 1) (v := .ref t0) (C := RX1) (T := TX1) (N := 5) hx hb hts hinX hown hK hP 0 rfl rfl 1 (by decide) (hts (.fieldLink RX1 7 "ToneRowsModel" "tones" "[I") (by decide +kernel)) (fun _ h9 => h9) rfl dX1_init_37 ?_
      refine lv_iload_n hx hb dX1_init_40 rfl (lv_at hl 1 rfl) ?_
      refine lv_iload_n hx hb dX1_init_41 rfl (lv_at hl 1 rfl) ?_
      refine ib_bi hx hb dX1_init_42 (by decide) ?_
      refine ib_rem (z := ((n % 12 : Nat) : Int)) hx hb dX1_init_44 (by omega) (by omega) (by omega) (by omega) (by first | omega | rfl) ?_
      refine ib_ast (f := fun j => if j < n then iI ((j % 12 : Nat) : Int) else 0) (i := n) (x := iI ((n % 12 : Nat) : Int)) hx hb hK hP hD hS 1 0 (fun j => if j < (n + 1) then iI ((j % 12 : Nat) : Int) else 0) rfl rfl (by first | rfl | omega) (by omega) (by omega) (fun j hj => in_st hj) dX1_init_45 (fun H locs hP hD hS => ?_)
      have hP : va_P (dC, dI) vwCl [(m0, .inr (1, [.int (iI 0), .ref t0, .ref k0, .ref p0, .int (iI 0)])), (t0, .inl (c_t0, 24, .inl (fun j => if j < (n + 1) then iI ((j % 12 : Nat) : Int) else 0))), (k0, .inl (c_t0, 12, .inl (fun _ => 0))), (p0, .inl (c_t0, 12, .inl (fun _ => 0)))] H := hP
      have hD : va_D (fun q9 => q9 = m0 ∨ s.heap.size ≤ q9) [(m0, .inr (1, [.int (iI 0), .ref t0, .ref k0, .ref p0, .int (iI 0)])), (t0, .inl (c_t0, 24, .inl (fun j => if j < (n + 1) then iI ((j % 12 : Nat) : Int) else 0))), (k0, .inl (c_t0, 12, .inl (fun _ => 0))), (p0, .inl (c_t0, 12, .inl (fun _ => 0)))] := hD
      refine lv_iinc (v := iI ((n + 1 : Nat) : Int)) (lv' := [(1, .int (iI ((n + 1 : Nat) : Int))), (0, .ref m0)]) hx hb dX1_init_46 hl (k := 1) rfl (iI_inc (by omega)) (by decide) rfl (fun ls hl => ?_)
      refine lv_goto (tgt := 30) hx hb dX1_init_49 (by decide) ?_
      exact ih_30_1 (n + 1) (by omega)  _ _ hP hD hS _ (lv_sub hl [1, 0] rfl)
  exact lp_30_1 24 0 (by omega)  _ _ hP hD hS _ (lv_sub hl [1, 0] rfl)
