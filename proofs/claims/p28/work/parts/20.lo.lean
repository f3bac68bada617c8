set_option maxHeartbeats 4000000 in
set_option maxRecDepth 100000 in
theorem mL_low (l : Launch) (x : Int32) (n : Nat) (h1 : 0 < n) (h2 : n ≤ 4096) : rd l yL_low wsL_low { frames := 0, cells := 0, slots := 0, locals := 0 } [.int x, .int (iI ((n : Nat) : Int))] tt_ (some (.int (iI ((lo x n : Nat) : Int)))) := by
  refine Met.ofW (cc := cL_low) (maxL := 2) (ret := (some .int)) (by decide) rfl ?_
  intro P0 e s m args below meth c s₁ B hml hv
  obtain ⟨rfl, -⟩ := hv
  have hx := B.exec
  have hb := B.bytes
  have hr := B.returns
  have hts := atoms_spec (ws := wsL_low) B.pre
  have hown : s.vm.findClass RL = some m.cls := findClass_of_methodNamed B.named
  have hlocks := B.notSynchronized
  have hl := lv_entry ([.int x, .int (iI ((n : Nat) : Int))]) (n := 2) (Nat.le_of_ble_eq_true rfl)
  rw [lg_entry_eq]
  generalize (lg_sl ([.int x, .int (iI ((n : Nat) : Int))]) ++ List.replicate (2 - (lg_sl ([.int x, .int (iI ((n : Nat) : Int))])).length) Slot.unset).toArray = ls at hl ⊢
  have hl : lv_has ls 2 [(0, .int x), (1, .int (iI ((n : Nat) : Int)))] := hl
  refine lv_iload_n hx hb dL_low_0 rfl (lv_at hl 0 rfl) ?_
  refine lv_ldc (v := 2147483647) hx hb hown (hts (.constant RL 7 (2147483647)) (by decide +kernel)) dL_low_1 ?_
  refine lv_iand hx hb dL_low_3 ?_
  refine st_i (y := iI ((lo0 x : Nat) : Int)) (lo0_eq x) ?_
  have hl0 := lo0_lt x
  refine lv_iload_n hx hb dL_low_4 rfl (lv_at hl 1 rfl) ?_
  refine ib_rem (z := (((lo0 x) % n : Nat) : Int)) hx hb dL_low_5 (by omega) (by omega) (by omega) (by omega) (by first | omega | rfl) ?_
  refine st_i (y := iI ((lo x n : Nat) : Int)) (rfl) ?_
  exact W.iret hx hb hr (fun t ht _ => ⟨rfl, ht⟩) (fun _ h => nomatch h) dL_low_6
