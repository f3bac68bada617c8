set_option maxHeartbeats 4000000 in
set_option maxRecDepth 100000 in
theorem mL_low (l : Launch) (x : Int32) (n : Nat) (h1 : 0 < n) (h2 : n ≤ 4096) : rd l yL_low wsL_low { frames := 0, cells := 0, slots := 0, locals := 0 } [.int x, .int (iI ((n : Nat) : Int))] tt_ (some (.int (iI ((lo x n : Nat) : Int)))) := by
  refine Met.ofW (cc := cL_low) (maxL := 2) (ret := (some .int)) (by decide) rfl ?_
  intro P0 e s m args below meth c s₁ B hml hv
  obtain ⟨rfl, -⟩ := hv
  have hx := B.exec
  have hb := B.bytes
  have hr := B.returns
  have hts := atoms_spec (ws := wsL_low) B.pre
  have hown : s.vm.findClass RL = some m.cls := findClass_of_methodNamed B.named
  have hlocks := B.notSynchronized
  have hl := lv_entry ([.int x, .int (iI ((n : Nat) : Int))]) (n := 2) (Nat.le_of_ble_eq_true rfl)
  rw [lg_entry_eq]
  generalize (lg_sl ([.int x, .int (iI ((n : Nat) : Int))]) ++ List.replicate (2 - (lg_sl ([.int x, .int (iI ((n : Nat) : Int))])).length) Slot.unset).toArray = ls at hl ⊢
  have hl : lv_has ls 2 [(0, .int x), (1, .int (iI ((n : Nat) : Int)))] := hl
  refine lv_iload_n hx hb dL_low_0 rfl (lv_at hl 0 rfl) ?_
  refine lv_ldc (v := 2147483647) hx hb hown (hts (.constant RL 7 (2147483647)) (by decide +kernel)) dL_low_1 ?_
  refine lv_iand hx hb dL_low_3 ?_
  refine st_i (y := iI ((lo0 x : Nat) : Int)) (lo0_eq x) ?_
  have hl0 := lo0_lt x
  refine lv_iload_n hx hb dL_low_4 rfl (lv_at hl 1 rfl) ?_
  refine ib_rem (z := (((lo0 x) % n : Nat) : Int)) hx hb dL_low_5 (by omega) (by omega) (by omega) (by omega) (by first | omega | rfl) ?_
  refine st_i (y := iI ((lo x n : Nat) : Int)) (rfl) ?_
  exact W.iret hx hb hr (fun t ht _ => ⟨rfl, ht⟩) (fun _ h => nomatch h) dL_low_6

set_option maxHeartbeats 4000000 in
set_option maxRecDepth 100000 in
theorem mL_cell_in (l : Launch) (dC : Nat → ClassId) (dI : Nat → Nat → Nat) (cI : ClassId) (b L : Nat) (xs : Nat → Int32) (k : Nat) (hL : L ≤ 260) (hk : k < 44) (h : k < L) : rd l yL_cell wsL_cell { frames := 0, cells := 0, slots := 0, locals := 0 } [.ref b, .int (iI ((k : Nat) : Int))] (bW (dC, dI) [(b, .inl (cI, L, .inl (xs)))] [(cI, .int)]) (some (.int (xs k))) := by
  refine Met.ofW (cc := cL_cell) (maxL := 2) (ret := (some .int)) (by decide) rfl ?_
  intro P0 e s m args below meth c s₁ B hml hv
  obtain ⟨rfl, hP, hK⟩ := hv
  have hx := B.exec
  have hb := B.bytes
  have hr := B.returns
  have hts := atoms_spec (ws := wsL_cell) B.pre
  have hown : s.vm.findClass RL = some m.cls := findClass_of_methodNamed B.named
  have hlocks := B.notSynchronized
  have hl := lv_entry ([.ref b, .int (iI ((k : Nat) : Int))]) (n := 2) (Nat.le_of_ble_eq_true rfl)
  rw [lg_entry_eq]
  generalize (lg_sl ([.ref b, .int (iI ((k : Nat) : Int))]) ++ List.replicate (2 - (lg_sl ([.ref b, .int (iI ((k : Nat) : Int))])).length) Slot.unset).toArray = ls at hl ⊢
  have hl : lv_has ls 2 [(0, .ref b), (1, .int (iI ((k : Nat) : Int)))] := hl
  refine lv_iload_n hx hb dL_cell_0 rfl (lv_at hl 1 rfl) ?_
  refine lv_aload_n hx hb dL_cell_1 rfl (lv_at hl 0 rfl) ?_
  refine va_alen hx hb hK hP 0 0 rfl rfl rfl dL_cell_2 ?_
  refine st_i (y := iI ((L : Nat) : Int)) (iI_nat L).symm ?_
  refine ib_icmp_ge (tgt := 12) hx hb dL_cell_3 (by decide) ⟨by omega, by omega⟩ ⟨by omega, by omega⟩ (fun c_3 => absurd c_3 (by omega)) (fun c_3 => ?_)
  refine lv_aload_n hx hb dL_cell_6 rfl (lv_at hl 0 rfl) ?_
  refine lv_iload_n hx hb dL_cell_7 rfl (lv_at hl 1 rfl) ?_
  refine va_iald hx hb hK hP 0 0 rfl rfl (iI_vp (i := k) (by omega) (by omega)) dL_cell_8 ?_
  refine st_i (y := xs k) (congrArg xs (iI_cl (by omega))) ?_
  refine lv_goto (tgt := 27) hx hb dL_cell_9 (by decide) ?_
  exact W.iret hx hb hr (fun t ht _ => ⟨rfl, ht⟩) (fun _ h => nomatch h) dL_cell_27

set_option maxHeartbeats 4000000 in
set_option maxRecDepth 100000 in
theorem mL_cell_out (l : Launch) (dC : Nat → ClassId) (dI : Nat → Nat → Nat) (cI : ClassId) (b L : Nat) (xs : Nat → Int32) (k : Nat) (hL : L ≤ 260) (hk : k < 44) (h : L ≤ k) : rd l yL_cell wsL_cell { frames := 0, cells := 0, slots := 0, locals := 0 } [.ref b, .int (iI ((k : Nat) : Int))] (bW (dC, dI) [(b, .inl (cI, L, .inl (xs)))] [(cI, .int)]) (some (.int (far k))) := by
  refine Met.ofW (cc := cL_cell) (maxL := 2) (ret := (some .int)) (by decide) rfl ?_
  intro P0 e s m args below meth c s₁ B hml hv
  obtain ⟨rfl, hP, hK⟩ := hv
  have hx := B.exec
  have hb := B.bytes
  have hr := B.returns
  have hts := atoms_spec (ws := wsL_cell) B.pre
  have hown : s.vm.findClass RL = some m.cls := findClass_of_methodNamed B.named
  have hlocks := B.notSynchronized
  have hl := lv_entry ([.ref b, .int (iI ((k : Nat) : Int))]) (n := 2) (Nat.le_of_ble_eq_true rfl)
  rw [lg_entry_eq]
  generalize (lg_sl ([.ref b, .int (iI ((k : Nat) : Int))]) ++ List.replicate (2 - (lg_sl ([.ref b, .int (iI ((k : Nat) : Int))])).length) Slot.unset).toArray = ls at hl ⊢
  have hl : lv_has ls 2 [(0, .ref b), (1, .int (iI ((k : Nat) : Int)))] := hl
  refine lv_iload_n hx hb dL_cell_0 rfl (lv_at hl 1 rfl) ?_
  refine lv_aload_n hx hb dL_cell_1 rfl (lv_at hl 0 rfl) ?_
  refine va_alen hx hb hK hP 0 0 rfl rfl rfl dL_cell_2 ?_
  refine st_i (y := iI ((L : Nat) : Int)) (iI_nat L).symm ?_
  refine ib_icmp_ge (tgt := 12) hx hb dL_cell_3 (by decide) ⟨by omega, by omega⟩ ⟨by omega, by omega⟩ (fun c_3 => ?_) (fun c_3 => absurd c_3 (by omega))
  refine ib_si hx hb dL_cell_12 (by decide) ?_
  refine lv_iload_n hx hb dL_cell_15 rfl (lv_at hl 1 rfl) ?_
  refine ib_si hx hb dL_cell_16 (by decide) ?_
  refine ib_add (z := ((k + 149 : Nat) : Int)) hx hb dL_cell_19 (by omega) ?_
  refine ib_mul (z := ((7919 * (k + 149) : Nat) : Int)) hx hb dL_cell_20 (by first | omega | rfl | (push_cast; rfl)) ?_
  refine lv_iload_n hx hb dL_cell_21 rfl (lv_at hl 1 rfl) ?_
  refine ib_si hx hb dL_cell_22 (by decide) ?_
  refine ib_add (z := ((k + 1801 : Nat) : Int)) hx hb dL_cell_25 (by omega) ?_
  refine ib_mul (z := (((7919 * (k + 149)) * (k + 1801) : Nat) : Int)) hx hb dL_cell_26 (by first | omega | rfl | (push_cast; rfl)) ?_
  refine st_i (y := far k) (far_eq k hk) ?_
  exact W.iret hx hb hr (fun t ht _ => ⟨rfl, ht⟩) (fun _ h => nomatch h) dL_cell_27
