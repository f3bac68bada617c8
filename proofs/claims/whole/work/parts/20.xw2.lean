set_option maxHeartbeats 4000000 in
set_option maxRecDepth 100000 in
theorem mL_put_x1 (l : Launch) (hfl : l.stackTraces = false) (dC : Nat → ClassId) (dI : Nat → Nat → Nat) (o0 : Nat) (a0 a1 q : Nat → Nat) (w : Nat) (hp0 : Pm a0) (hp1 : Pm a1) (hw : w ≤ 12) (hq : ∀ i, i < w → q i < 12) (hqd : ∀ i j, i < w → j < w → q i = q j → i = j) (u0 : Nat) (z0 z1 z2 : Int) (hz0 : inI z0) (hz1 : inI z1) (hz2 : inI z2) (hbad : ¬ ((z0 = 0 ∨ z0 = 1) ∧ (0 ≤ z1 ∧ z1 ≤ 11))) : wb l yL_put wsL_put { frames := 8, cells := 1, slots := 6, locals := 131 } [.ref o0, .int (iI z0), .int (iI z1), .int (iI z2), .ref u0] (dC, dI) [(o0, .inr (0, [.long (pk a0), .long (pk a1), .long (pkn q w), .int (iI ((w : Nat) : Int))]))] [] (some (.int (iI 1))) := by
  refine mt_ofWH (cc := cL_put) (maxL := 6) (ret := (some .int)) (hh := [(0, 12, 15, 13), (0, 12, 19, 15)]) (by decide +kernel) rfl ?_
  intro P0 e s m args below meth c s₁ B hml hv
  obtain ⟨rfl, hP, hK, hG, hN⟩ := hv
  have hx := B.exec
  have hb := B.bytes
  have hr := B.returns
  have hts := atoms_spec (ws := wsL_put) B.pre
  have hown : s.vm.findClass RL = some m.cls := findClass_of_methodNamed B.named
  have hlocks := B.notSynchronized
  have hl := lv_entry ([.ref o0, .int (iI z0), .int (iI z1), .int (iI z2), .ref u0]) (n := 6) (Nat.le_of_ble_eq_true rfl)
  rw [lg_entry_eq]
  generalize (lg_sl ([.ref o0, .int (iI z0), .int (iI z1), .int (iI z2), .ref u0]) ++ List.replicate (6 - (lg_sl ([.ref o0, .int (iI z0), .int (iI z1), .int (iI z2), .ref u0])).length) Slot.unset).toArray = ls at hl ⊢
  have hl : lv_has ls 6 [(0, .ref o0), (1, .int (iI z0)), (2, .int (iI z1)), (3, .int (iI z2)), (4, .ref u0)] := hl
  refine lv_aload hx hb dL_put_0 (lv_at hl 4 rfl) ?_
  refine ib_const hx hb dL_put_2 ?_
  refine lv_aload_n hx hb dL_put_3 rfl (lv_at hl 0 rfl) ?_
  refine lv_iload_n hx hb dL_put_4 rfl (lv_at hl 1 rfl) ?_
  refine lv_iload_n hx hb dL_put_5 rfl (lv_at hl 2 rfl) ?_
  refine lv_iload_n hx hb dL_put_6 rfl (lv_at hl 3 rfl) ?_
  refine th_call (vx_runV (As := [.int (iI z0), .int (iI z1), .int (iI z2)]) (rest := [.int (iI 0), .ref u0]) ⟨hx, hb, hml, hown, hts⟩ (mX0_put_x1 l hfl dC dI o0 a0 a1 q w hp0 hp1 hw hq hqd z0 z1 z2 hz0 hz1 hz2 hbad) (cwV 3 hts gL_put_X0_put rfl rfl rfl hvX0_put ⟨Nat.le_of_ble_eq_true rfl, Nat.le_of_ble_eq_true rfl⟩) (xV_pre (ci := 0) (q0 := 0) hK hP hG rfl rfl rfl) rfl rfl hl.1 rfl (lv_room (Nat.le_of_ble_eq_true rfl)) dL_put_7 ⟨Nat.le_of_ble_eq_true rfl, Nat.le_of_ble_eq_true rfl⟩) (fun ce q9 H1 hz9 hk9 hce hcv hcl => ?_)
  refine vx_catch (own := RL) (name := "java/lang/IndexOutOfBoundsException") (E := "java/lang/IndexOutOfBoundsException") hown [] ⟨0, 12, 15, 13⟩ [⟨0, 12, 19, 15⟩] (vx_table (x := yL_put) (hh := [(0, 12, 15, 13), (0, 12, 19, 15)]) B (hts _ List.mem_cons_self)) (fun _ h => nomatch h) (by decide) (by decide) (hts _ (by decide +kernel)) ((hG.1 _ (by decide +kernel)).use rfl) hce hcv hcl ?_
  refine lv_astore (lv' := [(5, .ref q9), (0, .ref o0), (1, .int (iI z0)), (2, .int (iI z1)), (3, .int (iI z2)), (4, .ref u0)]) hx hb dL_put_15 hl (by decide) rfl (fun ls hl => ?_)
  refine ib_const hx hb dL_put_17 ?_
  exact W.iret hx hb hr (fun t ht _ => ⟨rfl, by rw [ht]; exact hz9, fun q h => by rw [ht]; exact hk9 q h⟩) (fun _ h => nomatch h) dL_put_18

set_option maxHeartbeats 4000000 in
set_option maxRecDepth 100000 in
theorem mL_put_x2 (l : Launch) (hfl : l.stackTraces = false) (dC : Nat → ClassId) (dI : Nat → Nat → Nat) (o0 : Nat) (a0 a1 q : Nat → Nat) (w : Nat) (hp0 : Pm a0) (hp1 : Pm a1) (hw : w ≤ 12) (hq : ∀ i, i < w → q i < 12) (hqd : ∀ i j, i < w → j < w → q i = q j → i = j) (u0 : Nat) (z0 z1 z2 : Int) (hz0 : inI z0) (hz1 : inI z1) (hz2 : inI z2) (hbad : ((z0 = 0 ∨ z0 = 1) ∧ (0 ≤ z1 ∧ z1 ≤ 11)) ∧ ¬ (0 ≤ z2 ∧ z2 ≤ 11)) : wb l yL_put wsL_put { frames := 8, cells := 1, slots := 6, locals := 132 } [.ref o0, .int (iI z0), .int (iI z1), .int (iI z2), .ref u0] (dC, dI) [(o0, .inr (0, [.long (pk a0), .long (pk a1), .long (pkn q w), .int (iI ((w : Nat) : Int))]))] [] (some (.int (iI 2))) := by
  refine mt_ofWH (cc := cL_put) (maxL := 6) (ret := (some .int)) (hh := [(0, 12, 15, 13), (0, 12, 19, 15)]) (by decide +kernel) rfl ?_
  intro P0 e s m args below meth c s₁ B hml hv
  obtain ⟨rfl, hP, hK, hG, hN⟩ := hv
  have hx := B.exec
  have hb := B.bytes
  have hr := B.returns
  have hts := atoms_spec (ws := wsL_put) B.pre
  have hown : s.vm.findClass RL = some m.cls := findClass_of_methodNamed B.named
  have hlocks := B.notSynchronized
  have hl := lv_entry ([.ref o0, .int (iI z0), .int (iI z1), .int (iI z2), .ref u0]) (n := 6) (Nat.le_of_ble_eq_true rfl)
  rw [lg_entry_eq]
  generalize (lg_sl ([.ref o0, .int (iI z0), .int (iI z1), .int (iI z2), .ref u0]) ++ List.replicate (6 - (lg_sl ([.ref o0, .int (iI z0), .int (iI z1), .int (iI z2), .ref u0])).length) Slot.unset).toArray = ls at hl ⊢
  have hl : lv_has ls 6 [(0, .ref o0), (1, .int (iI z0)), (2, .int (iI z1)), (3, .int (iI z2)), (4, .ref u0)] := hl
  refine lv_aload hx hb dL_put_0 (lv_at hl 4 rfl) ?_
  refine ib_const hx hb dL_put_2 ?_
  refine lv_aload_n hx hb dL_put_3 rfl (lv_at hl 0 rfl) ?_
  refine lv_iload_n hx hb dL_put_4 rfl (lv_at hl 1 rfl) ?_
  refine lv_iload_n hx hb dL_put_5 rfl (lv_at hl 2 rfl) ?_
  refine lv_iload_n hx hb dL_put_6 rfl (lv_at hl 3 rfl) ?_
  refine th_call (vx_runV (As := [.int (iI z0), .int (iI z1), .int (iI z2)]) (rest := [.int (iI 0), .ref u0]) ⟨hx, hb, hml, hown, hts⟩ (mX0_put_x2 l hfl dC dI o0 a0 a1 q w hp0 hp1 hw hq hqd z0 z1 z2 hz0 hz1 hz2 hbad) (cwV 3 hts gL_put_X0_put rfl rfl rfl hvX0_put ⟨Nat.le_of_ble_eq_true rfl, Nat.le_of_ble_eq_true rfl⟩) (xV_pre (ci := 0) (q0 := 0) hK hP hG rfl rfl rfl) rfl rfl hl.1 rfl (lv_room (Nat.le_of_ble_eq_true rfl)) dL_put_7 ⟨Nat.le_of_ble_eq_true rfl, Nat.le_of_ble_eq_true rfl⟩) (fun ce q9 H1 hz9 hk9 hce hcv hcl => ?_)
  refine vx_catch (own := RL) (name := "java/lang/IllegalArgumentException") (E := "java/lang/IllegalArgumentException") hown [⟨0, 12, 15, 13⟩] ⟨0, 12, 19, 15⟩ [] (vx_table (x := yL_put) (hh := [(0, 12, 15, 13), (0, 12, 19, 15)]) B (hts _ List.mem_cons_self)) (fun z hz => by rcases List.mem_singleton.mp hz with rfl; exact Or.inr ⟨by decide, "java/lang/IndexOutOfBoundsException", hts _ (by decide +kernel), hN.1⟩) (by decide) (by decide) (hts _ (by decide +kernel)) ((hG.1 _ (by decide +kernel)).use rfl) hce hcv hcl ?_
  refine lv_astore (lv' := [(5, .ref q9), (0, .ref o0), (1, .int (iI z0)), (2, .int (iI z1)), (3, .int (iI z2)), (4, .ref u0)]) hx hb dL_put_19 hl (by decide) rfl (fun ls hl => ?_)
  refine ib_const hx hb dL_put_21 ?_
  exact W.iret hx hb hr (fun t ht _ => ⟨rfl, by rw [ht]; exact hz9, fun q h => by rw [ht]; exact hk9 q h⟩) (fun _ h => nomatch h) dL_put_22

set_option maxHeartbeats 4000000 in
set_option maxRecDepth 100000 in
theorem mL_take_x1 (l : Launch) (hfl : l.stackTraces = false) (dC : Nat → ClassId) (dI : Nat → Nat → Nat) (o0 : Nat) (a0 a1 q : Nat → Nat) (w : Nat) (hp0 : Pm a0) (hp1 : Pm a1) (hw : w ≤ 12) (hq : ∀ i, i < w → q i < 12) (hqd : ∀ i j, i < w → j < w → q i = q j → i = j) (u0 : Nat) (z0 z1 z2 z3 : Int) (hz0 : inI z0) (hz1 : inI z1) (hz2 : inI z2) (hz3 : inI z3) (hbad : ¬ ((z0 = 0 ∨ z0 = 1) ∧ (z3 = 0 ∨ z3 = 1))) : wb l yL_take wsL_take { frames := 8, cells := 1, slots := 6, locals := 126 } [.ref o0, .int (iI z0), .int (iI z1), .int (iI z2), .int (iI z3), .ref u0] (dC, dI) [(o0, .inr (0, [.long (pk a0), .long (pk a1), .long (pkn q w), .int (iI ((w : Nat) : Int))]))] [] (some (.int (iI 1))) := by
  refine mt_ofWH (cc := cL_take) (maxL := 7) (ret := (some .int)) (hh := [(0, 14, 17, 13), (0, 14, 21, 15)]) (by decide +kernel) rfl ?_
  intro P0 e s m args below meth c s₁ B hml hv
  obtain ⟨rfl, hP, hK, hG, hN⟩ := hv
  have hx := B.exec
  have hb := B.bytes
  have hr := B.returns
  have hts := atoms_spec (ws := wsL_take) B.pre
  have hown : s.vm.findClass RL = some m.cls := findClass_of_methodNamed B.named
  have hlocks := B.notSynchronized
  have hl := lv_entry ([.ref o0, .int (iI z0), .int (iI z1), .int (iI z2), .int (iI z3), .ref u0]) (n := 7) (Nat.le_of_ble_eq_true rfl)
  rw [lg_entry_eq]
  generalize (lg_sl ([.ref o0, .int (iI z0), .int (iI z1), .int (iI z2), .int (iI z3), .ref u0]) ++ List.replicate (7 - (lg_sl ([.ref o0, .int (iI z0), .int (iI z1), .int (iI z2), .int (iI z3), .ref u0])).length) Slot.unset).toArray = ls at hl ⊢
  have hl : lv_has ls 7 [(0, .ref o0), (1, .int (iI z0)), (2, .int (iI z1)), (3, .int (iI z2)), (4, .int (iI z3)), (5, .ref u0)] := hl
  refine lv_aload hx hb dL_take_0 (lv_at hl 5 rfl) ?_
  refine ib_const hx hb dL_take_2 ?_
  refine lv_aload_n hx hb dL_take_3 rfl (lv_at hl 0 rfl) ?_
  refine lv_iload_n hx hb dL_take_4 rfl (lv_at hl 1 rfl) ?_
  refine lv_iload_n hx hb dL_take_5 rfl (lv_at hl 2 rfl) ?_
  refine lv_iload_n hx hb dL_take_6 rfl (lv_at hl 3 rfl) ?_
  refine lv_iload hx hb dL_take_7 (lv_at hl 4 rfl) ?_
  refine th_call (vx_runV (As := [.int (iI z0), .int (iI z1), .int (iI z2), .int (iI z3)]) (rest := [.int (iI 0), .ref u0]) ⟨hx, hb, hml, hown, hts⟩ (mX0_take_x1 l hfl dC dI o0 a0 a1 q w hp0 hp1 hw hq hqd z0 z1 z2 z3 hz0 hz1 hz2 hz3 hbad) (cwV 4 hts gL_take_X0_take rfl rfl rfl hvX0_take ⟨Nat.le_of_ble_eq_true rfl, Nat.le_of_ble_eq_true rfl⟩) (xV_pre (ci := 0) (q0 := 0) hK hP hG rfl rfl rfl) rfl rfl hl.1 rfl (lv_room (Nat.le_of_ble_eq_true rfl)) dL_take_9 ⟨Nat.le_of_ble_eq_true rfl, Nat.le_of_ble_eq_true rfl⟩) (fun ce q9 H1 hz9 hk9 hce hcv hcl => ?_)
  refine vx_catch (own := RL) (name := "java/lang/IndexOutOfBoundsException") (E := "java/lang/IndexOutOfBoundsException") hown [] ⟨0, 14, 17, 13⟩ [⟨0, 14, 21, 15⟩] (vx_table (x := yL_take) (hh := [(0, 14, 17, 13), (0, 14, 21, 15)]) B (hts _ List.mem_cons_self)) (fun _ h => nomatch h) (by decide) (by decide) (hts _ (by decide +kernel)) ((hG.1 _ (by decide +kernel)).use rfl) hce hcv hcl ?_
  refine lv_astore (lv' := [(6, .ref q9), (0, .ref o0), (1, .int (iI z0)), (2, .int (iI z1)), (3, .int (iI z2)), (4, .int (iI z3)), (5, .ref u0)]) hx hb dL_take_17 hl (by decide) rfl (fun ls hl => ?_)
  refine ib_const hx hb dL_take_19 ?_
  exact W.iret hx hb hr (fun t ht _ => ⟨rfl, by rw [ht]; exact hz9, fun q h => by rw [ht]; exact hk9 q h⟩) (fun _ h => nomatch h) dL_take_20

set_option maxHeartbeats 4000000 in
set_option maxRecDepth 100000 in
theorem mL_take_x2 (l : Launch) (hfl : l.stackTraces = false) (dC : Nat → ClassId) (dI : Nat → Nat → Nat) (o0 : Nat) (a0 a1 q : Nat → Nat) (w : Nat) (hp0 : Pm a0) (hp1 : Pm a1) (hw : w ≤ 12) (hq : ∀ i, i < w → q i < 12) (hqd : ∀ i j, i < w → j < w → q i = q j → i = j) (u0 : Nat) (z0 z1 z2 z3 : Int) (hz0 : inI z0) (hz1 : inI z1) (hz2 : inI z2) (hz3 : inI z3) (hbad : ((z0 = 0 ∨ z0 = 1) ∧ (z3 = 0 ∨ z3 = 1)) ∧ ¬ (0 ≤ z1 ∧ z1 ≤ 3 ∧ 0 ≤ z2 ∧ z2 ≤ 11)) : wb l yL_take wsL_take { frames := 9, cells := 1, slots := 6, locals := 149 } [.ref o0, .int (iI z0), .int (iI z1), .int (iI z2), .int (iI z3), .ref u0] (dC, dI) [(o0, .inr (0, [.long (pk a0), .long (pk a1), .long (pkn q w), .int (iI ((w : Nat) : Int))]))] [] (some (.int (iI 2))) := by
  refine mt_ofWH (cc := cL_take) (maxL := 7) (ret := (some .int)) (hh := [(0, 14, 17, 13), (0, 14, 21, 15)]) (by decide +kernel) rfl ?_
  intro P0 e s m args below meth c s₁ B hml hv
  obtain ⟨rfl, hP, hK, hG, hN⟩ := hv
  have hx := B.exec
  have hb := B.bytes
  have hr := B.returns
  have hts := atoms_spec (ws := wsL_take) B.pre
  have hown : s.vm.findClass RL = some m.cls := findClass_of_methodNamed B.named
  have hlocks := B.notSynchronized
  have hl := lv_entry ([.ref o0, .int (iI z0), .int (iI z1), .int (iI z2), .int (iI z3), .ref u0]) (n := 7) (Nat.le_of_ble_eq_true rfl)
  rw [lg_entry_eq]
  generalize (lg_sl ([.ref o0, .int (iI z0), .int (iI z1), .int (iI z2), .int (iI z3), .ref u0]) ++ List.replicate (7 - (lg_sl ([.ref o0, .int (iI z0), .int (iI z1), .int (iI z2), .int (iI z3), .ref u0])).length) Slot.unset).toArray = ls at hl ⊢
  have hl : lv_has ls 7 [(0, .ref o0), (1, .int (iI z0)), (2, .int (iI z1)), (3, .int (iI z2)), (4, .int (iI z3)), (5, .ref u0)] := hl
  refine lv_aload hx hb dL_take_0 (lv_at hl 5 rfl) ?_
  refine ib_const hx hb dL_take_2 ?_
  refine lv_aload_n hx hb dL_take_3 rfl (lv_at hl 0 rfl) ?_
  refine lv_iload_n hx hb dL_take_4 rfl (lv_at hl 1 rfl) ?_
  refine lv_iload_n hx hb dL_take_5 rfl (lv_at hl 2 rfl) ?_
  refine lv_iload_n hx hb dL_take_6 rfl (lv_at hl 3 rfl) ?_
  refine lv_iload hx hb dL_take_7 (lv_at hl 4 rfl) ?_
  refine th_call (vx_runV (As := [.int (iI z0), .int (iI z1), .int (iI z2), .int (iI z3)]) (rest := [.int (iI 0), .ref u0]) ⟨hx, hb, hml, hown, hts⟩ (mX0_take_x2 l hfl dC dI o0 a0 a1 q w hp0 hp1 hw hq hqd z0 z1 z2 z3 hz0 hz1 hz2 hz3 hbad) (cwV 4 hts gL_take_X0_take rfl rfl rfl hvX0_take ⟨Nat.le_of_ble_eq_true rfl, Nat.le_of_ble_eq_true rfl⟩) (xV_pre (ci := 0) (q0 := 0) hK hP hG rfl rfl rfl) rfl rfl hl.1 rfl (lv_room (Nat.le_of_ble_eq_true rfl)) dL_take_9 ⟨Nat.le_of_ble_eq_true rfl, Nat.le_of_ble_eq_true rfl⟩) (fun ce q9 H1 hz9 hk9 hce hcv hcl => ?_)
  refine vx_catch (own := RL) (name := "java/lang/IllegalArgumentException") (E := "java/lang/IllegalArgumentException") hown [⟨0, 14, 17, 13⟩] ⟨0, 14, 21, 15⟩ [] (vx_table (x := yL_take) (hh := [(0, 14, 17, 13), (0, 14, 21, 15)]) B (hts _ List.mem_cons_self)) (fun z hz => by rcases List.mem_singleton.mp hz with rfl; exact Or.inr ⟨by decide, "java/lang/IndexOutOfBoundsException", hts _ (by decide +kernel), hN.1⟩) (by decide) (by decide) (hts _ (by decide +kernel)) ((hG.1 _ (by decide +kernel)).use rfl) hce hcv hcl ?_
  refine lv_astore (lv' := [(6, .ref q9), (0, .ref o0), (1, .int (iI z0)), (2, .int (iI z1)), (3, .int (iI z2)), (4, .int (iI z3)), (5, .ref u0)]) hx hb dL_take_21 hl (by decide) rfl (fun ls hl => ?_)
  refine ib_const hx hb dL_take_23 ?_
  exact W.iret hx hb hr (fun t ht _ => ⟨rfl, by rw [ht]; exact hz9, fun q h => by rw [ht]; exact hk9 q h⟩) (fun _ h => nomatch h) dL_take_24

set_option maxHeartbeats 4000000 in
set_option maxRecDepth 100000 in
theorem mL_multiply_x1 (l : Launch) (hfl : l.stackTraces = false) (dC : Nat → ClassId) (dI : Nat → Nat → Nat) (o0 : Nat) (a0 a1 q : Nat → Nat) (w : Nat) (hp0 : Pm a0) (hp1 : Pm a1) (hw : w ≤ 12) (hq : ∀ i, i < w → q i < 12) (hqd : ∀ i j, i < w → j < w → q i = q j → i = j) (u0 : Nat) (z0 z1 : Int) (hz0 : inI z0) (hz1 : inI z1) (hbad : ¬ (z0 = 0 ∨ z0 = 1)) : wb l yL_multiply wsL_multiply { frames := 8, cells := 1, slots := 6, locals := 129 } [.ref o0, .int (iI z0), .int (iI z1), .ref u0] (dC, dI) [(o0, .inr (0, [.long (pk a0), .long (pk a1), .long (pkn q w), .int (iI ((w : Nat) : Int))]))] [] (some (.int (iI 1))) := by
  refine mt_ofWH (cc := cL_multiply) (maxL := 5) (ret := (some .int)) (hh := [(0, 10, 13, 13), (0, 10, 17, 15)]) (by decide +kernel) rfl ?_
  intro P0 e s m args below meth c s₁ B hml hv
  obtain ⟨rfl, hP, hK, hG, hN⟩ := hv
  have hx := B.exec
  have hb := B.bytes
  have hr := B.returns
  have hts := atoms_spec (ws := wsL_multiply) B.pre
  have hown : s.vm.findClass RL = some m.cls := findClass_of_methodNamed B.named
  have hlocks := B.notSynchronized
  have hl := lv_entry ([.ref o0, .int (iI z0), .int (iI z1), .ref u0]) (n := 5) (Nat.le_of_ble_eq_true rfl)
  rw [lg_entry_eq]
  generalize (lg_sl ([.ref o0, .int (iI z0), .int (iI z1), .ref u0]) ++ List.replicate (5 - (lg_sl ([.ref o0, .int (iI z0), .int (iI z1), .ref u0])).length) Slot.unset).toArray = ls at hl ⊢
  have hl : lv_has ls 5 [(0, .ref o0), (1, .int (iI z0)), (2, .int (iI z1)), (3, .ref u0)] := hl
  refine lv_aload_n hx hb dL_multiply_0 rfl (lv_at hl 3 rfl) ?_
  refine ib_const hx hb dL_multiply_1 ?_
  refine lv_aload_n hx hb dL_multiply_2 rfl (lv_at hl 0 rfl) ?_
  refine lv_iload_n hx hb dL_multiply_3 rfl (lv_at hl 1 rfl) ?_
  refine lv_iload_n hx hb dL_multiply_4 rfl (lv_at hl 2 rfl) ?_
  refine th_call (vx_runV (As := [.int (iI z0), .int (iI z1)]) (rest := [.int (iI 0), .ref u0]) ⟨hx, hb, hml, hown, hts⟩ (mX0_multiply_x1 l hfl dC dI o0 a0 a1 q w hp0 hp1 hw hq hqd z0 z1 hz0 hz1 hbad) (cwV 2 hts gL_multiply_X0_multiply rfl rfl rfl hvX0_multiply ⟨Nat.le_of_ble_eq_true rfl, Nat.le_of_ble_eq_true rfl⟩) (xV_pre (ci := 0) (q0 := 0) hK hP hG rfl rfl rfl) rfl rfl hl.1 rfl (lv_room (Nat.le_of_ble_eq_true rfl)) dL_multiply_5 ⟨Nat.le_of_ble_eq_true rfl, Nat.le_of_ble_eq_true rfl⟩) (fun ce q9 H1 hz9 hk9 hce hcv hcl => ?_)
  refine vx_catch (own := RL) (name := "java/lang/IndexOutOfBoundsException") (E := "java/lang/IndexOutOfBoundsException") hown [] ⟨0, 10, 13, 13⟩ [⟨0, 10, 17, 15⟩] (vx_table (x := yL_multiply) (hh := [(0, 10, 13, 13), (0, 10, 17, 15)]) B (hts _ List.mem_cons_self)) (fun _ h => nomatch h) (by decide) (by decide) (hts _ (by decide +kernel)) ((hG.1 _ (by decide +kernel)).use rfl) hce hcv hcl ?_
  refine lv_astore (lv' := [(4, .ref q9), (0, .ref o0), (1, .int (iI z0)), (2, .int (iI z1)), (3, .ref u0)]) hx hb dL_multiply_13 hl (by decide) rfl (fun ls hl => ?_)
  refine ib_const hx hb dL_multiply_15 ?_
  exact W.iret hx hb hr (fun t ht _ => ⟨rfl, by rw [ht]; exact hz9, fun q h => by rw [ht]; exact hk9 q h⟩) (fun _ h => nomatch h) dL_multiply_16

set_option maxHeartbeats 4000000 in
set_option maxRecDepth 100000 in
theorem mL_multiply_x2 (l : Launch) (hfl : l.stackTraces = false) (dC : Nat → ClassId) (dI : Nat → Nat → Nat) (o0 : Nat) (a0 a1 q : Nat → Nat) (w : Nat) (hp0 : Pm a0) (hp1 : Pm a1) (hw : w ≤ 12) (hq : ∀ i, i < w → q i < 12) (hqd : ∀ i j, i < w → j < w → q i = q j → i = j) (u0 : Nat) (z0 z1 : Int) (hz0 : inI z0) (hz1 : inI z1) (hbad : (z0 = 0 ∨ z0 = 1) ∧ ¬ (z1 = 1 ∨ z1 = 5 ∨ z1 = 7 ∨ z1 = 11)) : wb l yL_multiply wsL_multiply { frames := 8, cells := 1, slots := 6, locals := 129 } [.ref o0, .int (iI z0), .int (iI z1), .ref u0] (dC, dI) [(o0, .inr (0, [.long (pk a0), .long (pk a1), .long (pkn q w), .int (iI ((w : Nat) : Int))]))] [] (some (.int (iI 2))) := by
  refine mt_ofWH (cc := cL_multiply) (maxL := 5) (ret := (some .int)) (hh := [(0, 10, 13, 13), (0, 10, 17, 15)]) (by decide +kernel) rfl ?_
  intro P0 e s m args below meth c s₁ B hml hv
  obtain ⟨rfl, hP, hK, hG, hN⟩ := hv
  have hx := B.exec
  have hb := B.bytes
  have hr := B.returns
  have hts := atoms_spec (ws := wsL_multiply) B.pre
  have hown : s.vm.findClass RL = some m.cls := findClass_of_methodNamed B.named
  have hlocks := B.notSynchronized
  have hl := lv_entry ([.ref o0, .int (iI z0), .int (iI z1), .ref u0]) (n := 5) (Nat.le_of_ble_eq_true rfl)
  rw [lg_entry_eq]
  generalize (lg_sl ([.ref o0, .int (iI z0), .int (iI z1), .ref u0]) ++ List.replicate (5 - (lg_sl ([.ref o0, .int (iI z0), .int (iI z1), .ref u0])).length) Slot.unset).toArray = ls at hl ⊢
  have hl : lv_has ls 5 [(0, .ref o0), (1, .int (iI z0)), (2, .int (iI z1)), (3, .ref u0)] := hl
  refine lv_aload_n hx hb dL_multiply_0 rfl (lv_at hl 3 rfl) ?_
  refine ib_const hx hb dL_multiply_1 ?_
  refine lv_aload_n hx hb dL_multiply_2 rfl (lv_at hl 0 rfl) ?_
  refine lv_iload_n hx hb dL_multiply_3 rfl (lv_at hl 1 rfl) ?_
  refine lv_iload_n hx hb dL_multiply_4 rfl (lv_at hl 2 rfl) ?_
  refine th_call (vx_runV (As := [.int (iI z0), .int (iI z1)]) (rest := [.int (iI 0), .ref u0]) ⟨hx, hb, hml, hown, hts⟩ (mX0_multiply_x2 l hfl dC dI o0 a0 a1 q w hp0 hp1 hw hq hqd z0 z1 hz0 hz1 hbad) (cwV 2 hts gL_multiply_X0_multiply rfl rfl rfl hvX0_multiply ⟨Nat.le_of_ble_eq_true rfl, Nat.le_of_ble_eq_true rfl⟩) (xV_pre (ci := 0) (q0 := 0) hK hP hG rfl rfl rfl) rfl rfl hl.1 rfl (lv_room (Nat.le_of_ble_eq_true rfl)) dL_multiply_5 ⟨Nat.le_of_ble_eq_true rfl, Nat.le_of_ble_eq_true rfl⟩) (fun ce q9 H1 hz9 hk9 hce hcv hcl => ?_)
  refine vx_catch (own := RL) (name := "java/lang/IllegalArgumentException") (E := "java/lang/IllegalArgumentException") hown [⟨0, 10, 13, 13⟩] ⟨0, 10, 17, 15⟩ [] (vx_table (x := yL_multiply) (hh := [(0, 10, 13, 13), (0, 10, 17, 15)]) B (hts _ List.mem_cons_self)) (fun z hz => by rcases List.mem_singleton.mp hz with rfl; exact Or.inr ⟨by decide, "java/lang/IndexOutOfBoundsException", hts _ (by decide +kernel), hN.1⟩) (by decide) (by decide) (hts _ (by decide +kernel)) ((hG.1 _ (by decide +kernel)).use rfl) hce hcv hcl ?_
  refine lv_astore (lv' := [(4, .ref q9), (0, .ref o0), (1, .int (iI z0)), (2, .int (iI z1)), (3, .ref u0)]) hx hb dL_multiply_17 hl (by decide) rfl (fun ls hl => ?_)
  refine ib_const hx hb dL_multiply_19 ?_
  exact W.iret hx hb hr (fun t ht _ => ⟨rfl, by rw [ht]; exact hz9, fun q h => by rw [ht]; exact hk9 q h⟩) (fun _ h => nomatch h) dL_multiply_20

set_option maxHeartbeats 4000000 in
set_option maxRecDepth 100000 in
theorem mL_rotate_x1 (l : Launch) (hfl : l.stackTraces = false) (dC : Nat → ClassId) (dI : Nat → Nat → Nat) (o0 : Nat) (a0 a1 q : Nat → Nat) (w : Nat) (hp0 : Pm a0) (hp1 : Pm a1) (hw : w ≤ 12) (hq : ∀ i, i < w → q i < 12) (hqd : ∀ i j, i < w → j < w → q i = q j → i = j) (u0 : Nat) (z0 z1 : Int) (hz0 : inI z0) (hz1 : inI z1) (hbad : ¬ (z0 = 0 ∨ z0 = 1)) : wb l yL_rotate wsL_rotate { frames := 8, cells := 1, slots := 6, locals := 129 } [.ref o0, .int (iI z0), .int (iI z1), .ref u0] (dC, dI) [(o0, .inr (0, [.long (pk a0), .long (pk a1), .long (pkn q w), .int (iI ((w : Nat) : Int))]))] [] (some (.int (iI 1))) := by
  refine mt_ofWH (cc := cL_rotate) (maxL := 5) (ret := (some .int)) (hh := [(0, 10, 13, 13), (0, 10, 17, 15)]) (by decide +kernel) rfl ?_
  intro P0 e s m args below meth c s₁ B hml hv
  obtain ⟨rfl, hP, hK, hG, hN⟩ := hv
  have hx := B.exec
  have hb := B.bytes
  have hr := B.returns
  have hts := atoms_spec (ws := wsL_rotate) B.pre
  have hown : s.vm.findClass RL = some m.cls := findClass_of_methodNamed B.named
  have hlocks := B.notSynchronized
  have hl := lv_entry ([.ref o0, .int (iI z0), .int (iI z1), .ref u0]) (n := 5) (Nat.le_of_ble_eq_true rfl)
  rw [lg_entry_eq]
  generalize (lg_sl ([.ref o0, .int (iI z0), .int (iI z1), .ref u0]) ++ List.replicate (5 - (lg_sl ([.ref o0, .int (iI z0), .int (iI z1), .ref u0])).length) Slot.unset).toArray = ls at hl ⊢
  have hl : lv_has ls 5 [(0, .ref o0), (1, .int (iI z0)), (2, .int (iI z1)), (3, .ref u0)] := hl
  refine lv_aload_n hx hb dL_rotate_0 rfl (lv_at hl 3 rfl) ?_
  refine ib_const hx hb dL_rotate_1 ?_
  refine lv_aload_n hx hb dL_rotate_2 rfl (lv_at hl 0 rfl) ?_
  refine lv_iload_n hx hb dL_rotate_3 rfl (lv_at hl 1 rfl) ?_
  refine lv_iload_n hx hb dL_rotate_4 rfl (lv_at hl 2 rfl) ?_
  refine th_call (vx_runV (As := [.int (iI z0), .int (iI z1)]) (rest := [.int (iI 0), .ref u0]) ⟨hx, hb, hml, hown, hts⟩ (mX0_rotate_x1 l hfl dC dI o0 a0 a1 q w hp0 hp1 hw hq hqd z0 z1 hz0 hz1 hbad) (cwV 2 hts gL_rotate_X0_rotate rfl rfl rfl hvX0_rotate ⟨Nat.le_of_ble_eq_true rfl, Nat.le_of_ble_eq_true rfl⟩) (xV_pre (ci := 0) (q0 := 0) hK hP hG rfl rfl rfl) rfl rfl hl.1 rfl (lv_room (Nat.le_of_ble_eq_true rfl)) dL_rotate_5 ⟨Nat.le_of_ble_eq_true rfl, Nat.le_of_ble_eq_true rfl⟩) (fun ce q9 H1 hz9 hk9 hce hcv hcl => ?_)
  refine vx_catch (own := RL) (name := "java/lang/IndexOutOfBoundsException") (E := "java/lang/IndexOutOfBoundsException") hown [] ⟨0, 10, 13, 13⟩ [⟨0, 10, 17, 15⟩] (vx_table (x := yL_rotate) (hh := [(0, 10, 13, 13), (0, 10, 17, 15)]) B (hts _ List.mem_cons_self)) (fun _ h => nomatch h) (by decide) (by decide) (hts _ (by decide +kernel)) ((hG.1 _ (by decide +kernel)).use rfl) hce hcv hcl ?_
  refine lv_astore (lv' := [(4, .ref q9), (0, .ref o0), (1, .int (iI z0)), (2, .int (iI z1)), (3, .ref u0)]) hx hb dL_rotate_13 hl (by decide) rfl (fun ls hl => ?_)
  refine ib_const hx hb dL_rotate_15 ?_
  exact W.iret hx hb hr (fun t ht _ => ⟨rfl, by rw [ht]; exact hz9, fun q h => by rw [ht]; exact hk9 q h⟩) (fun _ h => nomatch h) dL_rotate_16

set_option maxHeartbeats 4000000 in
set_option maxRecDepth 100000 in
theorem mL_rotate_x2 (l : Launch) (hfl : l.stackTraces = false) (dC : Nat → ClassId) (dI : Nat → Nat → Nat) (o0 : Nat) (a0 a1 q : Nat → Nat) (w : Nat) (hp0 : Pm a0) (hp1 : Pm a1) (hw : w ≤ 12) (hq : ∀ i, i < w → q i < 12) (hqd : ∀ i j, i < w → j < w → q i = q j → i = j) (u0 : Nat) (z0 z1 : Int) (hz0 : inI z0) (hz1 : inI z1) (hbad : (z0 = 0 ∨ z0 = 1) ∧ ¬ (0 ≤ z1 ∧ z1 ≤ 11)) : wb l yL_rotate wsL_rotate { frames := 8, cells := 1, slots := 6, locals := 131 } [.ref o0, .int (iI z0), .int (iI z1), .ref u0] (dC, dI) [(o0, .inr (0, [.long (pk a0), .long (pk a1), .long (pkn q w), .int (iI ((w : Nat) : Int))]))] [] (some (.int (iI 2))) := by
  refine mt_ofWH (cc := cL_rotate) (maxL := 5) (ret := (some .int)) (hh := [(0, 10, 13, 13), (0, 10, 17, 15)]) (by decide +kernel) rfl ?_
  intro P0 e s m args below meth c s₁ B hml hv
  obtain ⟨rfl, hP, hK, hG, hN⟩ := hv
  have hx := B.exec
  have hb := B.bytes
  have hr := B.returns
  have hts := atoms_spec (ws := wsL_rotate) B.pre
  have hown : s.vm.findClass RL = some m.cls := findClass_of_methodNamed B.named
  have hlocks := B.notSynchronized
  have hl := lv_entry ([.ref o0, .int (iI z0), .int (iI z1), .ref u0]) (n := 5) (Nat.le_of_ble_eq_true rfl)
  rw [lg_entry_eq]
  generalize (lg_sl ([.ref o0, .int (iI z0), .int (iI z1), .ref u0]) ++ List.replicate (5 - (lg_sl ([.ref o0, .int (iI z0), .int (iI z1), .ref u0])).length) Slot.unset).toArray = ls at hl ⊢
  have hl : lv_has ls 5 [(0, .ref o0), (1, .int (iI z0)), (2, .int (iI z1)), (3, .ref u0)] := hl
  refine lv_aload_n hx hb dL_rotate_0 rfl (lv_at hl 3 rfl) ?_
  refine ib_const hx hb dL_rotate_1 ?_
  refine lv_aload_n hx hb dL_rotate_2 rfl (lv_at hl 0 rfl) ?_
  refine lv_iload_n hx hb dL_rotate_3 rfl (lv_at hl 1 rfl) ?_
  refine lv_iload_n hx hb dL_rotate_4 rfl (lv_at hl 2 rfl) ?_
  refine th_call (vx_runV (As := [.int (iI z0), .int (iI z1)]) (rest := [.int (iI 0), .ref u0]) ⟨hx, hb, hml, hown, hts⟩ (mX0_rotate_x2 l hfl dC dI o0 a0 a1 q w hp0 hp1 hw hq hqd z0 z1 hz0 hz1 hbad) (cwV 2 hts gL_rotate_X0_rotate rfl rfl rfl hvX0_rotate ⟨Nat.le_of_ble_eq_true rfl, Nat.le_of_ble_eq_true rfl⟩) (xV_pre (ci := 0) (q0 := 0) hK hP hG rfl rfl rfl) rfl rfl hl.1 rfl (lv_room (Nat.le_of_ble_eq_true rfl)) dL_rotate_5 ⟨Nat.le_of_ble_eq_true rfl, Nat.le_of_ble_eq_true rfl⟩) (fun ce q9 H1 hz9 hk9 hce hcv hcl => ?_)
  refine vx_catch (own := RL) (name := "java/lang/IllegalArgumentException") (E := "java/lang/IllegalArgumentException") hown [⟨0, 10, 13, 13⟩] ⟨0, 10, 17, 15⟩ [] (vx_table (x := yL_rotate) (hh := [(0, 10, 13, 13), (0, 10, 17, 15)]) B (hts _ List.mem_cons_self)) (fun z hz => by rcases List.mem_singleton.mp hz with rfl; exact Or.inr ⟨by decide, "java/lang/IndexOutOfBoundsException", hts _ (by decide +kernel), hN.1⟩) (by decide) (by decide) (hts _ (by decide +kernel)) ((hG.1 _ (by decide +kernel)).use rfl) hce hcv hcl ?_
  refine lv_astore (lv' := [(4, .ref q9), (0, .ref o0), (1, .int (iI z0)), (2, .int (iI z1)), (3, .ref u0)]) hx hb dL_rotate_17 hl (by decide) rfl (fun ls hl => ?_)
  refine ib_const hx hb dL_rotate_19 ?_
  exact W.iret hx hb hr (fun t ht _ => ⟨rfl, by rw [ht]; exact hz9, fun q h => by rw [ht]; exact hk9 q h⟩) (fun _ h => nomatch h) dL_rotate_20

set_option maxHeartbeats 4000000 in
set_option maxRecDepth 100000 in
theorem mL_tone_x1 (l : Launch) (hfl : l.stackTraces = false) (dC : Nat → ClassId) (dI : Nat → Nat → Nat) (o0 : Nat) (a0 a1 q : Nat → Nat) (w : Nat) (hp0 : Pm a0) (hp1 : Pm a1) (hw : w ≤ 12) (hq : ∀ i, i < w → q i < 12) (hqd : ∀ i j, i < w → j < w → q i = q j → i = j) (u0 : Nat) (z0 z1 : Int) (hz0 : inI z0) (hz1 : inI z1) (hbad : ¬ ((z0 = 0 ∨ z0 = 1) ∧ (0 ≤ z1 ∧ z1 ≤ 11))) : wb l yL_tone wsL_tone { frames := 8, cells := 1, slots := 6, locals := 125 } [.ref o0, .int (iI z0), .int (iI z1), .ref u0] (dC, dI) [(o0, .inr (0, [.long (pk a0), .long (pk a1), .long (pkn q w), .int (iI ((w : Nat) : Int))]))] [] (some (.int (iI 1))) := by
  refine mt_ofWH (cc := cL_tone) (maxL := 5) (ret := (some .int)) (hh := [(0, 10, 13, 13)]) (by decide +kernel) rfl ?_
  intro P0 e s m args below meth c s₁ B hml hv
  obtain ⟨rfl, hP, hK, hG, hN⟩ := hv
  have hx := B.exec
  have hb := B.bytes
  have hr := B.returns
  have hts := atoms_spec (ws := wsL_tone) B.pre
  have hown : s.vm.findClass RL = some m.cls := findClass_of_methodNamed B.named
  have hlocks := B.notSynchronized
  have hl := lv_entry ([.ref o0, .int (iI z0), .int (iI z1), .ref u0]) (n := 5) (Nat.le_of_ble_eq_true rfl)
  rw [lg_entry_eq]
  generalize (lg_sl ([.ref o0, .int (iI z0), .int (iI z1), .ref u0]) ++ List.replicate (5 - (lg_sl ([.ref o0, .int (iI z0), .int (iI z1), .ref u0])).length) Slot.unset).toArray = ls at hl ⊢
  have hl : lv_has ls 5 [(0, .ref o0), (1, .int (iI z0)), (2, .int (iI z1)), (3, .ref u0)] := hl
  refine lv_aload_n hx hb dL_tone_0 rfl (lv_at hl 3 rfl) ?_
  refine ib_const hx hb dL_tone_1 ?_
  refine lv_aload_n hx hb dL_tone_2 rfl (lv_at hl 0 rfl) ?_
  refine lv_iload_n hx hb dL_tone_3 rfl (lv_at hl 1 rfl) ?_
  refine lv_iload_n hx hb dL_tone_4 rfl (lv_at hl 2 rfl) ?_
  refine th_call (vx_runV (As := [.int (iI z0), .int (iI z1)]) (rest := [.int (iI 0), .ref u0]) ⟨hx, hb, hml, hown, hts⟩ (mX0_tone_x1 l hfl dC dI o0 a0 a1 q w hp0 hp1 hw hq hqd z0 z1 hz0 hz1 hbad) (cwV 2 hts gL_tone_X0_tone rfl rfl rfl hvX0_tone ⟨Nat.le_of_ble_eq_true rfl, Nat.le_of_ble_eq_true rfl⟩) (xV_pre (ci := 0) (q0 := 0) hK hP hG rfl rfl rfl) rfl rfl hl.1 rfl (lv_room (Nat.le_of_ble_eq_true rfl)) dL_tone_5 ⟨Nat.le_of_ble_eq_true rfl, Nat.le_of_ble_eq_true rfl⟩) (fun ce q9 H1 hz9 hk9 hce hcv hcl => ?_)
  refine vx_catch (own := RL) (name := "java/lang/IndexOutOfBoundsException") (E := "java/lang/IndexOutOfBoundsException") hown [] ⟨0, 10, 13, 13⟩ [] (vx_table (x := yL_tone) (hh := [(0, 10, 13, 13)]) B (hts _ List.mem_cons_self)) (fun _ h => nomatch h) (by decide) (by decide) (hts _ (by decide +kernel)) ((hG.1 _ (by decide +kernel)).use rfl) hce hcv hcl ?_
  refine lv_astore (lv' := [(4, .ref q9), (0, .ref o0), (1, .int (iI z0)), (2, .int (iI z1)), (3, .ref u0)]) hx hb dL_tone_13 hl (by decide) rfl (fun ls hl => ?_)
  refine ib_const hx hb dL_tone_15 ?_
  exact W.iret hx hb hr (fun t ht _ => ⟨rfl, by rw [ht]; exact hz9, fun q h => by rw [ht]; exact hk9 q h⟩) (fun _ h => nomatch h) dL_tone_16

set_option maxHeartbeats 4000000 in
set_option maxRecDepth 100000 in
theorem mL_interval_x1 (l : Launch) (hfl : l.stackTraces = false) (dC : Nat → ClassId) (dI : Nat → Nat → Nat) (o0 : Nat) (a0 a1 q : Nat → Nat) (w : Nat) (hp0 : Pm a0) (hp1 : Pm a1) (hw : w ≤ 12) (hq : ∀ i, i < w → q i < 12) (hqd : ∀ i j, i < w → j < w → q i = q j → i = j) (u0 : Nat) (z0 z1 : Int) (hz0 : inI z0) (hz1 : inI z1) (hbad : ¬ ((z0 = 0 ∨ z0 = 1) ∧ (0 ≤ z1 ∧ z1 ≤ 10))) : wb l yL_interval wsL_interval { frames := 8, cells := 1, slots := 6, locals := 125 } [.ref o0, .int (iI z0), .int (iI z1), .ref u0] (dC, dI) [(o0, .inr (0, [.long (pk a0), .long (pk a1), .long (pkn q w), .int (iI ((w : Nat) : Int))]))] [] (some (.int (iI 1))) := by
  refine mt_ofWH (cc := cL_interval) (maxL := 5) (ret := (some .int)) (hh := [(0, 10, 13, 13)]) (by decide +kernel) rfl ?_
  intro P0 e s m args below meth c s₁ B hml hv
  obtain ⟨rfl, hP, hK, hG, hN⟩ := hv
  have hx := B.exec
  have hb := B.bytes
  have hr := B.returns
  have hts := atoms_spec (ws := wsL_interval) B.pre
  have hown : s.vm.findClass RL = some m.cls := findClass_of_methodNamed B.named
  have hlocks := B.notSynchronized
  have hl := lv_entry ([.ref o0, .int (iI z0), .int (iI z1), .ref u0]) (n := 5) (Nat.le_of_ble_eq_true rfl)
  rw [lg_entry_eq]
  generalize (lg_sl ([.ref o0, .int (iI z0), .int (iI z1), .ref u0]) ++ List.replicate (5 - (lg_sl ([.ref o0, .int (iI z0), .int (iI z1), .ref u0])).length) Slot.unset).toArray = ls at hl ⊢
  have hl : lv_has ls 5 [(0, .ref o0), (1, .int (iI z0)), (2, .int (iI z1)), (3, .ref u0)] := hl
  refine lv_aload_n hx hb dL_interval_0 rfl (lv_at hl 3 rfl) ?_
  refine ib_const hx hb dL_interval_1 ?_
  refine lv_aload_n hx hb dL_interval_2 rfl (lv_at hl 0 rfl) ?_
  refine lv_iload_n hx hb dL_interval_3 rfl (lv_at hl 1 rfl) ?_
  refine lv_iload_n hx hb dL_interval_4 rfl (lv_at hl 2 rfl) ?_
  refine th_call (vx_runV (As := [.int (iI z0), .int (iI z1)]) (rest := [.int (iI 0), .ref u0]) ⟨hx, hb, hml, hown, hts⟩ (mX0_interval_x1 l hfl dC dI o0 a0 a1 q w hp0 hp1 hw hq hqd z0 z1 hz0 hz1 hbad) (cwV 2 hts gL_interval_X0_interval rfl rfl rfl hvX0_interval ⟨Nat.le_of_ble_eq_true rfl, Nat.le_of_ble_eq_true rfl⟩) (xV_pre (ci := 0) (q0 := 0) hK hP hG rfl rfl rfl) rfl rfl hl.1 rfl (lv_room (Nat.le_of_ble_eq_true rfl)) dL_interval_5 ⟨Nat.le_of_ble_eq_true rfl, Nat.le_of_ble_eq_true rfl⟩) (fun ce q9 H1 hz9 hk9 hce hcv hcl => ?_)
  refine vx_catch (own := RL) (name := "java/lang/IndexOutOfBoundsException") (E := "java/lang/IndexOutOfBoundsException") hown [] ⟨0, 10, 13, 13⟩ [] (vx_table (x := yL_interval) (hh := [(0, 10, 13, 13)]) B (hts _ List.mem_cons_self)) (fun _ h => nomatch h) (by decide) (by decide) (hts _ (by decide +kernel)) ((hG.1 _ (by decide +kernel)).use rfl) hce hcv hcl ?_
  refine lv_astore (lv' := [(4, .ref q9), (0, .ref o0), (1, .int (iI z0)), (2, .int (iI z1)), (3, .ref u0)]) hx hb dL_interval_13 hl (by decide) rfl (fun ls hl => ?_)
  refine ib_const hx hb dL_interval_15 ?_
  exact W.iret hx hb hr (fun t ht _ => ⟨rfl, by rw [ht]; exact hz9, fun q h => by rw [ht]; exact hk9 q h⟩) (fun _ h => nomatch h) dL_interval_16

set_option maxHeartbeats 4000000 in
set_option maxRecDepth 100000 in
theorem mL_hasAllIntervals_x1 (l : Launch) (hfl : l.stackTraces = false) (dC : Nat → ClassId) (dI : Nat → Nat → Nat) (o0 : Nat) (a0 a1 q : Nat → Nat) (w : Nat) (hp0 : Pm a0) (hp1 : Pm a1) (hw : w ≤ 12) (hq : ∀ i, i < w → q i < 12) (hqd : ∀ i j, i < w → j < w → q i = q j → i = j) (u0 : Nat) (z0 : Int) (hz0 : inI z0) (hbad : ¬ (z0 = 0 ∨ z0 = 1)) : wb l yL_hasAllIntervals wsL_hasAllIntervals { frames := 8, cells := 1, slots := 6, locals := 127 } [.ref o0, .int (iI z0), .ref u0] (dC, dI) [(o0, .inr (0, [.long (pk a0), .long (pk a1), .long (pkn q w), .int (iI ((w : Nat) : Int))]))] [] (some (.int (iI 1))) := by
  refine mt_ofWH (cc := cL_hasAllIntervals) (maxL := 4) (ret := (some .int)) (hh := [(0, 16, 19, 13)]) (by decide +kernel) rfl ?_
  intro P0 e s m args below meth c s₁ B hml hv
  obtain ⟨rfl, hP, hK, hG, hN⟩ := hv
  have hx := B.exec
  have hb := B.bytes
  have hr := B.returns
  have hts := atoms_spec (ws := wsL_hasAllIntervals) B.pre
  have hown : s.vm.findClass RL = some m.cls := findClass_of_methodNamed B.named
  have hlocks := B.notSynchronized
  have hl := lv_entry ([.ref o0, .int (iI z0), .ref u0]) (n := 4) (Nat.le_of_ble_eq_true rfl)
  rw [lg_entry_eq]
  generalize (lg_sl ([.ref o0, .int (iI z0), .ref u0]) ++ List.replicate (4 - (lg_sl ([.ref o0, .int (iI z0), .ref u0])).length) Slot.unset).toArray = ls at hl ⊢
  have hl : lv_has ls 4 [(0, .ref o0), (1, .int (iI z0)), (2, .ref u0)] := hl
  refine lv_aload_n hx hb dL_hasAllIntervals_0 rfl (lv_at hl 2 rfl) ?_
  refine ib_const hx hb dL_hasAllIntervals_1 ?_
  refine lv_aload_n hx hb dL_hasAllIntervals_2 rfl (lv_at hl 0 rfl) ?_
  refine lv_iload_n hx hb dL_hasAllIntervals_3 rfl (lv_at hl 1 rfl) ?_
  refine th_call (vx_runV (As := [.int (iI z0)]) (rest := [.int (iI 0), .ref u0]) ⟨hx, hb, hml, hown, hts⟩ (mX0_hasAllIntervals_x1 l hfl dC dI o0 a0 a1 q w hp0 hp1 hw hq hqd z0 hz0 hbad) (cwV 1 hts gL_hasAllIntervals_X0_hasAllIntervals rfl rfl rfl hvX0_hasAllIntervals ⟨Nat.le_of_ble_eq_true rfl, Nat.le_of_ble_eq_true rfl⟩) (xV_pre (ci := 0) (q0 := 0) hK hP hG rfl rfl rfl) rfl rfl hl.1 rfl (lv_room (Nat.le_of_ble_eq_true rfl)) dL_hasAllIntervals_4 ⟨Nat.le_of_ble_eq_true rfl, Nat.le_of_ble_eq_true rfl⟩) (fun ce q9 H1 hz9 hk9 hce hcv hcl => ?_)
  refine vx_catch (own := RL) (name := "java/lang/IndexOutOfBoundsException") (E := "java/lang/IndexOutOfBoundsException") hown [] ⟨0, 16, 19, 13⟩ [] (vx_table (x := yL_hasAllIntervals) (hh := [(0, 16, 19, 13)]) B (hts _ List.mem_cons_self)) (fun _ h => nomatch h) (by decide) (by decide) (hts _ (by decide +kernel)) ((hG.1 _ (by decide +kernel)).use rfl) hce hcv hcl ?_
  refine lv_astore_n (lv' := [(3, .ref q9), (0, .ref o0), (1, .int (iI z0)), (2, .ref u0)]) hx hb dL_hasAllIntervals_19 rfl hl (by decide) rfl (fun ls hl => ?_)
  refine ib_const hx hb dL_hasAllIntervals_20 ?_
  exact W.iret hx hb hr (fun t ht _ => ⟨rfl, by rw [ht]; exact hz9, fun q h => by rw [ht]; exact hk9 q h⟩) (fun _ h => nomatch h) dL_hasAllIntervals_21

set_option maxHeartbeats 4000000 in
set_option maxRecDepth 100000 in
theorem mL_toneOf_x1 (l : Launch) (hfl : l.stackTraces = false) (dC : Nat → ClassId) (dI : Nat → Nat → Nat) (o0 : Nat) (a0 a1 q : Nat → Nat) (w : Nat) (hp0 : Pm a0) (hp1 : Pm a1) (hw : w ≤ 12) (hq : ∀ i, i < w → q i < 12) (hqd : ∀ i j, i < w → j < w → q i = q j → i = j) (u0 : Nat) (z0 z1 z2 z3 : Int) (hz0 : inI z0) (hz1 : inI z1) (hz2 : inI z2) (hz3 : inI z3) (hbad : ¬ ((z0 = 0 ∨ z0 = 1) ∧ (0 ≤ z3 ∧ z3 ≤ 11))) : wb l yL_toneOf wsL_toneOf { frames := 8, cells := 1, slots := 6, locals := 127 } [.ref o0, .int (iI z0), .int (iI z1), .int (iI z2), .int (iI z3), .ref u0] (dC, dI) [(o0, .inr (0, [.long (pk a0), .long (pk a1), .long (pkn q w), .int (iI ((w : Nat) : Int))]))] [] (some (.int (iI 1))) := by
  refine mt_ofWH (cc := cL_toneOf) (maxL := 7) (ret := (some .int)) (hh := [(0, 14, 17, 13), (0, 14, 21, 15)]) (by decide +kernel) rfl ?_
  intro P0 e s m args below meth c s₁ B hml hv
  obtain ⟨rfl, hP, hK, hG, hN⟩ := hv
  have hx := B.exec
  have hb := B.bytes
  have hr := B.returns
  have hts := atoms_spec (ws := wsL_toneOf) B.pre
  have hown : s.vm.findClass RL = some m.cls := findClass_of_methodNamed B.named
  have hlocks := B.notSynchronized
  have hl := lv_entry ([.ref o0, .int (iI z0), .int (iI z1), .int (iI z2), .int (iI z3), .ref u0]) (n := 7) (Nat.le_of_ble_eq_true rfl)
  rw [lg_entry_eq]
  generalize (lg_sl ([.ref o0, .int (iI z0), .int (iI z1), .int (iI z2), .int (iI z3), .ref u0]) ++ List.replicate (7 - (lg_sl ([.ref o0, .int (iI z0), .int (iI z1), .int (iI z2), .int (iI z3), .ref u0])).length) Slot.unset).toArray = ls at hl ⊢
  have hl : lv_has ls 7 [(0, .ref o0), (1, .int (iI z0)), (2, .int (iI z1)), (3, .int (iI z2)), (4, .int (iI z3)), (5, .ref u0)] := hl
  refine lv_aload hx hb dL_toneOf_0 (lv_at hl 5 rfl) ?_
  refine ib_const hx hb dL_toneOf_2 ?_
  refine lv_aload_n hx hb dL_toneOf_3 rfl (lv_at hl 0 rfl) ?_
  refine lv_iload_n hx hb dL_toneOf_4 rfl (lv_at hl 1 rfl) ?_
  refine lv_iload_n hx hb dL_toneOf_5 rfl (lv_at hl 2 rfl) ?_
  refine lv_iload_n hx hb dL_toneOf_6 rfl (lv_at hl 3 rfl) ?_
  refine lv_iload hx hb dL_toneOf_7 (lv_at hl 4 rfl) ?_
  refine th_call (vx_runV (As := [.int (iI z0), .int (iI z1), .int (iI z2), .int (iI z3)]) (rest := [.int (iI 0), .ref u0]) ⟨hx, hb, hml, hown, hts⟩ (mX0_toneOf_x1 l hfl dC dI o0 a0 a1 q w hp0 hp1 hw hq hqd z0 z1 z2 z3 hz0 hz1 hz2 hz3 hbad) (cwV 4 hts gL_toneOf_X0_toneOf rfl rfl rfl hvX0_toneOf ⟨Nat.le_of_ble_eq_true rfl, Nat.le_of_ble_eq_true rfl⟩) (xV_pre (ci := 0) (q0 := 0) hK hP hG rfl rfl rfl) rfl rfl hl.1 rfl (lv_room (Nat.le_of_ble_eq_true rfl)) dL_toneOf_9 ⟨Nat.le_of_ble_eq_true rfl, Nat.le_of_ble_eq_true rfl⟩) (fun ce q9 H1 hz9 hk9 hce hcv hcl => ?_)
  refine vx_catch (own := RL) (name := "java/lang/IndexOutOfBoundsException") (E := "java/lang/IndexOutOfBoundsException") hown [] ⟨0, 14, 17, 13⟩ [⟨0, 14, 21, 15⟩] (vx_table (x := yL_toneOf) (hh := [(0, 14, 17, 13), (0, 14, 21, 15)]) B (hts _ List.mem_cons_self)) (fun _ h => nomatch h) (by decide) (by decide) (hts _ (by decide +kernel)) ((hG.1 _ (by decide +kernel)).use rfl) hce hcv hcl ?_
  refine lv_astore (lv' := [(6, .ref q9), (0, .ref o0), (1, .int (iI z0)), (2, .int (iI z1)), (3, .int (iI z2)), (4, .int (iI z3)), (5, .ref u0)]) hx hb dL_toneOf_17 hl (by decide) rfl (fun ls hl => ?_)
  refine ib_const hx hb dL_toneOf_19 ?_
  exact W.iret hx hb hr (fun t ht _ => ⟨rfl, by rw [ht]; exact hz9, fun q h => by rw [ht]; exact hk9 q h⟩) (fun _ h => nomatch h) dL_toneOf_20

set_option maxHeartbeats 4000000 in
set_option maxRecDepth 100000 in
theorem mL_toneOf_x2 (l : Launch) (hfl : l.stackTraces = false) (dC : Nat → ClassId) (dI : Nat → Nat → Nat) (o0 : Nat) (a0 a1 q : Nat → Nat) (w : Nat) (hp0 : Pm a0) (hp1 : Pm a1) (hw : w ≤ 12) (hq : ∀ i, i < w → q i < 12) (hqd : ∀ i j, i < w → j < w → q i = q j → i = j) (u0 : Nat) (z0 z1 z2 z3 : Int) (hz0 : inI z0) (hz1 : inI z1) (hz2 : inI z2) (hz3 : inI z3) (hbad : ((z0 = 0 ∨ z0 = 1) ∧ (0 ≤ z3 ∧ z3 ≤ 11)) ∧ ¬ (0 ≤ z1 ∧ z1 ≤ 3 ∧ 0 ≤ z2 ∧ z2 ≤ 11)) : wb l yL_toneOf wsL_toneOf { frames := 9, cells := 1, slots := 6, locals := 149 } [.ref o0, .int (iI z0), .int (iI z1), .int (iI z2), .int (iI z3), .ref u0] (dC, dI) [(o0, .inr (0, [.long (pk a0), .long (pk a1), .long (pkn q w), .int (iI ((w : Nat) : Int))]))] [] (some (.int (iI 2))) := by
  refine mt_ofWH (cc := cL_toneOf) (maxL := 7) (ret := (some .int)) (hh := [(0, 14, 17, 13), (0, 14, 21, 15)]) (by decide +kernel) rfl ?_
  intro P0 e s m args below meth c s₁ B hml hv
  obtain ⟨rfl, hP, hK, hG, hN⟩ := hv
  have hx := B.exec
  have hb := B.bytes
  have hr := B.returns
  have hts := atoms_spec (ws := wsL_toneOf) B.pre
  have hown : s.vm.findClass RL = some m.cls := findClass_of_methodNamed B.named
  have hlocks := B.notSynchronized
  have hl := lv_entry ([.ref o0, .int (iI z0), .int (iI z1), .int (iI z2), .int (iI z3), .ref u0]) (n := 7) (Nat.le_of_ble_eq_true rfl)
  rw [lg_entry_eq]
  generalize (lg_sl ([.ref o0, .int (iI z0), .int (iI z1), .int (iI z2), .int (iI z3), .ref u0]) ++ List.replicate (7 - (lg_sl ([.ref o0, .int (iI z0), .int (iI z1), .int (iI z2), .int (iI z3), .ref u0])).length) Slot.unset).toArray = ls at hl ⊢
  have hl : lv_has ls 7 [(0, .ref o0), (1, .int (iI z0)), (2, .int (iI z1)), (3, .int (iI z2)), (4, .int (iI z3)), (5, .ref u0)] := hl
  refine lv_aload hx hb dL_toneOf_0 (lv_at hl 5 rfl) ?_
  refine ib_const hx hb dL_toneOf_2 ?_
  refine lv_aload_n hx hb dL_toneOf_3 rfl (lv_at hl 0 rfl) ?_
  refine lv_iload_n hx hb dL_toneOf_4 rfl (lv_at hl 1 rfl) ?_
  refine lv_iload_n hx hb dL_toneOf_5 rfl (lv_at hl 2 rfl) ?_
  refine lv_iload_n hx hb dL_toneOf_6 rfl (lv_at hl 3 rfl) ?_
  refine lv_iload hx hb dL_toneOf_7 (lv_at hl 4 rfl) ?_
  refine th_call (vx_runV (As := [.int (iI z0), .int (iI z1), .int (iI z2), .int (iI z3)]) (rest := [.int (iI 0), .ref u0]) ⟨hx, hb, hml, hown, hts⟩ (mX0_toneOf_x2 l hfl dC dI o0 a0 a1 q w hp0 hp1 hw hq hqd z0 z1 z2 z3 hz0 hz1 hz2 hz3 hbad) (cwV 4 hts gL_toneOf_X0_toneOf rfl rfl rfl hvX0_toneOf ⟨Nat.le_of_ble_eq_true rfl, Nat.le_of_ble_eq_true rfl⟩) (xV_pre (ci := 0) (q0 := 0) hK hP hG rfl rfl rfl) rfl rfl hl.1 rfl (lv_room (Nat.le_of_ble_eq_true rfl)) dL_toneOf_9 ⟨Nat.le_of_ble_eq_true rfl, Nat.le_of_ble_eq_true rfl⟩) (fun ce q9 H1 hz9 hk9 hce hcv hcl => ?_)
  refine vx_catch (own := RL) (name := "java/lang/IllegalArgumentException") (E := "java/lang/IllegalArgumentException") hown [⟨0, 14, 17, 13⟩] ⟨0, 14, 21, 15⟩ [] (vx_table (x := yL_toneOf) (hh := [(0, 14, 17, 13), (0, 14, 21, 15)]) B (hts _ List.mem_cons_self)) (fun z hz => by rcases List.mem_singleton.mp hz with rfl; exact Or.inr ⟨by decide, "java/lang/IndexOutOfBoundsException", hts _ (by decide +kernel), hN.1⟩) (by decide) (by decide) (hts _ (by decide +kernel)) ((hG.1 _ (by decide +kernel)).use rfl) hce hcv hcl ?_
  refine lv_astore (lv' := [(6, .ref q9), (0, .ref o0), (1, .int (iI z0)), (2, .int (iI z1)), (3, .int (iI z2)), (4, .int (iI z3)), (5, .ref u0)]) hx hb dL_toneOf_21 hl (by decide) rfl (fun ls hl => ?_)
  refine ib_const hx hb dL_toneOf_23 ?_
  exact W.iret hx hb hr (fun t ht _ => ⟨rfl, by rw [ht]; exact hz9, fun q h => by rw [ht]; exact hk9 q h⟩) (fun _ h => nomatch h) dL_toneOf_24

set_option maxHeartbeats 4000000 in
set_option maxRecDepth 100000 in
theorem mL_matrix_x1 (l : Launch) (hfl : l.stackTraces = false) (dC : Nat → ClassId) (dI : Nat → Nat → Nat) (o0 : Nat) (a0 a1 q : Nat → Nat) (w : Nat) (hp0 : Pm a0) (hp1 : Pm a1) (hw : w ≤ 12) (hq : ∀ i, i < w → q i < 12) (hqd : ∀ i j, i < w → j < w → q i = q j → i = j) (u0 : Nat) (z0 z1 z2 : Int) (hz0 : inI z0) (hz1 : inI z1) (hz2 : inI z2) (hbad : ¬ ((z0 = 0 ∨ z0 = 1) ∧ (0 ≤ z1 ∧ z1 ≤ 11) ∧ (0 ≤ z2 ∧ z2 ≤ 11))) : wb l yL_matrix wsL_matrix { frames := 8, cells := 1, slots := 6, locals := 130 } [.ref o0, .int (iI z0), .int (iI z1), .int (iI z2), .ref u0] (dC, dI) [(o0, .inr (0, [.long (pk a0), .long (pk a1), .long (pkn q w), .int (iI ((w : Nat) : Int))]))] [] (some (.int (iI 1))) := by
  refine mt_ofWH (cc := cL_matrix) (maxL := 6) (ret := (some .int)) (hh := [(0, 12, 15, 13)]) (by decide +kernel) rfl ?_
  intro P0 e s m args below meth c s₁ B hml hv
  obtain ⟨rfl, hP, hK, hG, hN⟩ := hv
  have hx := B.exec
  have hb := B.bytes
  have hr := B.returns
  have hts := atoms_spec (ws := wsL_matrix) B.pre
  have hown : s.vm.findClass RL = some m.cls := findClass_of_methodNamed B.named
  have hlocks := B.notSynchronized
  have hl := lv_entry ([.ref o0, .int (iI z0), .int (iI z1), .int (iI z2), .ref u0]) (n := 6) (Nat.le_of_ble_eq_true rfl)
  rw [lg_entry_eq]
  generalize (lg_sl ([.ref o0, .int (iI z0), .int (iI z1), .int (iI z2), .ref u0]) ++ List.replicate (6 - (lg_sl ([.ref o0, .int (iI z0), .int (iI z1), .int (iI z2), .ref u0])).length) Slot.unset).toArray = ls at hl ⊢
  have hl : lv_has ls 6 [(0, .ref o0), (1, .int (iI z0)), (2, .int (iI z1)), (3, .int (iI z2)), (4, .ref u0)] := hl
  refine lv_aload hx hb dL_matrix_0 (lv_at hl 4 rfl) ?_
  refine ib_const hx hb dL_matrix_2 ?_
  refine lv_aload_n hx hb dL_matrix_3 rfl (lv_at hl 0 rfl) ?_
  refine lv_iload_n hx hb dL_matrix_4 rfl (lv_at hl 1 rfl) ?_
  refine lv_iload_n hx hb dL_matrix_5 rfl (lv_at hl 2 rfl) ?_
  refine lv_iload_n hx hb dL_matrix_6 rfl (lv_at hl 3 rfl) ?_
  refine th_call (vx_runV (As := [.int (iI z0), .int (iI z1), .int (iI z2)]) (rest := [.int (iI 0), .ref u0]) ⟨hx, hb, hml, hown, hts⟩ (mX0_matrix_x1 l hfl dC dI o0 a0 a1 q w hp0 hp1 hw hq hqd z0 z1 z2 hz0 hz1 hz2 hbad) (cwV 3 hts gL_matrix_X0_matrix rfl rfl rfl hvX0_matrix ⟨Nat.le_of_ble_eq_true rfl, Nat.le_of_ble_eq_true rfl⟩) (xV_pre (ci := 0) (q0 := 0) hK hP hG rfl rfl rfl) rfl rfl hl.1 rfl (lv_room (Nat.le_of_ble_eq_true rfl)) dL_matrix_7 ⟨Nat.le_of_ble_eq_true rfl, Nat.le_of_ble_eq_true rfl⟩) (fun ce q9 H1 hz9 hk9 hce hcv hcl => ?_)
  refine vx_catch (own := RL) (name := "java/lang/IndexOutOfBoundsException") (E := "java/lang/IndexOutOfBoundsException") hown [] ⟨0, 12, 15, 13⟩ [] (vx_table (x := yL_matrix) (hh := [(0, 12, 15, 13)]) B (hts _ List.mem_cons_self)) (fun _ h => nomatch h) (by decide) (by decide) (hts _ (by decide +kernel)) ((hG.1 _ (by decide +kernel)).use rfl) hce hcv hcl ?_
  refine lv_astore (lv' := [(5, .ref q9), (0, .ref o0), (1, .int (iI z0)), (2, .int (iI z1)), (3, .int (iI z2)), (4, .ref u0)]) hx hb dL_matrix_15 hl (by decide) rfl (fun ls hl => ?_)
  refine ib_const hx hb dL_matrix_17 ?_
  exact W.iret hx hb hr (fun t ht _ => ⟨rfl, by rw [ht]; exact hz9, fun q h => by rw [ht]; exact hk9 q h⟩) (fun _ h => nomatch h) dL_matrix_18

set_option maxHeartbeats 4000000 in
set_option maxRecDepth 100000 in
theorem mL_differentForms_x1 (l : Launch) (hfl : l.stackTraces = false) (dC : Nat → ClassId) (dI : Nat → Nat → Nat) (o0 : Nat) (a0 a1 q : Nat → Nat) (w : Nat) (hp0 : Pm a0) (hp1 : Pm a1) (hw : w ≤ 12) (hq : ∀ i, i < w → q i < 12) (hqd : ∀ i j, i < w → j < w → q i = q j → i = j) (u0 : Nat) (z0 : Int) (hz0 : inI z0) (hbad : ¬ (z0 = 0 ∨ z0 = 1)) : wb l yL_differentForms wsL_differentForms { frames := 8, cells := 1, slots := 6, locals := 128 } [.ref o0, .int (iI z0), .ref u0] (dC, dI) [(o0, .inr (0, [.long (pk a0), .long (pk a1), .long (pkn q w), .int (iI ((w : Nat) : Int))]))] [] (some (.int (iI 1))) := by
  refine mt_ofWH (cc := cL_differentForms) (maxL := 4) (ret := (some .int)) (hh := [(0, 9, 12, 13)]) (by decide +kernel) rfl ?_
  intro P0 e s m args below meth c s₁ B hml hv
  obtain ⟨rfl, hP, hK, hG, hN⟩ := hv
  have hx := B.exec
  have hb := B.bytes
  have hr := B.returns
  have hts := atoms_spec (ws := wsL_differentForms) B.pre
  have hown : s.vm.findClass RL = some m.cls := findClass_of_methodNamed B.named
  have hlocks := B.notSynchronized
  have hl := lv_entry ([.ref o0, .int (iI z0), .ref u0]) (n := 4) (Nat.le_of_ble_eq_true rfl)
  rw [lg_entry_eq]
  generalize (lg_sl ([.ref o0, .int (iI z0), .ref u0]) ++ List.replicate (4 - (lg_sl ([.ref o0, .int (iI z0), .ref u0])).length) Slot.unset).toArray = ls at hl ⊢
  have hl : lv_has ls 4 [(0, .ref o0), (1, .int (iI z0)), (2, .ref u0)] := hl
  refine lv_aload_n hx hb dL_differentForms_0 rfl (lv_at hl 2 rfl) ?_
  refine ib_const hx hb dL_differentForms_1 ?_
  refine lv_aload_n hx hb dL_differentForms_2 rfl (lv_at hl 0 rfl) ?_
  refine lv_iload_n hx hb dL_differentForms_3 rfl (lv_at hl 1 rfl) ?_
  refine th_call (vx_runV (As := [.int (iI z0)]) (rest := [.int (iI 0), .ref u0]) ⟨hx, hb, hml, hown, hts⟩ (mX0_differentForms_x1 l hfl dC dI o0 a0 a1 q w hp0 hp1 hw hq hqd z0 hz0 hbad) (cwV 1 hts gL_differentForms_X0_differentForms rfl rfl rfl hvX0_differentForms ⟨Nat.le_of_ble_eq_true rfl, Nat.le_of_ble_eq_true rfl⟩) (xV_pre (ci := 0) (q0 := 0) hK hP hG rfl rfl rfl) rfl rfl hl.1 rfl (lv_room (Nat.le_of_ble_eq_true rfl)) dL_differentForms_4 ⟨Nat.le_of_ble_eq_true rfl, Nat.le_of_ble_eq_true rfl⟩) (fun ce q9 H1 hz9 hk9 hce hcv hcl => ?_)
  refine vx_catch (own := RL) (name := "java/lang/IndexOutOfBoundsException") (E := "java/lang/IndexOutOfBoundsException") hown [] ⟨0, 9, 12, 13⟩ [] (vx_table (x := yL_differentForms) (hh := [(0, 9, 12, 13)]) B (hts _ List.mem_cons_self)) (fun _ h => nomatch h) (by decide) (by decide) (hts _ (by decide +kernel)) ((hG.1 _ (by decide +kernel)).use rfl) hce hcv hcl ?_
  refine lv_astore_n (lv' := [(3, .ref q9), (0, .ref o0), (1, .int (iI z0)), (2, .ref u0)]) hx hb dL_differentForms_12 rfl hl (by decide) rfl (fun ls hl => ?_)
  refine ib_const hx hb dL_differentForms_13 ?_
  exact W.iret hx hb hr (fun t ht _ => ⟨rfl, by rw [ht]; exact hz9, fun q h => by rw [ht]; exact hk9 q h⟩) (fun _ h => nomatch h) dL_differentForms_14

set_option maxHeartbeats 4000000 in
set_option maxRecDepth 100000 in
theorem mL_formOfOther_x1 (l : Launch) (hfl : l.stackTraces = false) (dC : Nat → ClassId) (dI : Nat → Nat → Nat) (o0 : Nat) (a0 a1 q : Nat → Nat) (w : Nat) (hp0 : Pm a0) (hp1 : Pm a1) (hw : w ≤ 12) (hq : ∀ i, i < w → q i < 12) (hqd : ∀ i j, i < w → j < w → q i = q j → i = j) (u0 : Nat) (z0 : Int) (hz0 : inI z0) (hbad : ¬ (z0 = 0 ∨ z0 = 1)) : wb l yL_formOfOther wsL_formOfOther { frames := 8, cells := 1, slots := 6, locals := 128 } [.ref o0, .int (iI z0), .ref u0] (dC, dI) [(o0, .inr (0, [.long (pk a0), .long (pk a1), .long (pkn q w), .int (iI ((w : Nat) : Int))]))] [] (some (.int (iI 1))) := by
  refine mt_ofWH (cc := cL_formOfOther) (maxL := 4) (ret := (some .int)) (hh := [(0, 9, 12, 13)]) (by decide +kernel) rfl ?_
  intro P0 e s m args below meth c s₁ B hml hv
  obtain ⟨rfl, hP, hK, hG, hN⟩ := hv
  have hx := B.exec
  have hb := B.bytes
  have hr := B.returns
  have hts := atoms_spec (ws := wsL_formOfOther) B.pre
  have hown : s.vm.findClass RL = some m.cls := findClass_of_methodNamed B.named
  have hlocks := B.notSynchronized
  have hl := lv_entry ([.ref o0, .int (iI z0), .ref u0]) (n := 4) (Nat.le_of_ble_eq_true rfl)
  rw [lg_entry_eq]
  generalize (lg_sl ([.ref o0, .int (iI z0), .ref u0]) ++ List.replicate (4 - (lg_sl ([.ref o0, .int (iI z0), .ref u0])).length) Slot.unset).toArray = ls at hl ⊢
  have hl : lv_has ls 4 [(0, .ref o0), (1, .int (iI z0)), (2, .ref u0)] := hl
  refine lv_aload_n hx hb dL_formOfOther_0 rfl (lv_at hl 2 rfl) ?_
  refine ib_const hx hb dL_formOfOther_1 ?_
  refine lv_aload_n hx hb dL_formOfOther_2 rfl (lv_at hl 0 rfl) ?_
  refine lv_iload_n hx hb dL_formOfOther_3 rfl (lv_at hl 1 rfl) ?_
  refine th_call (vx_runV (As := [.int (iI z0)]) (rest := [.int (iI 0), .ref u0]) ⟨hx, hb, hml, hown, hts⟩ (mX0_formOfOther_x1 l hfl dC dI o0 a0 a1 q w hp0 hp1 hw hq hqd z0 hz0 hbad) (cwV 1 hts gL_formOfOther_X0_formOfOther rfl rfl rfl hvX0_formOfOther ⟨Nat.le_of_ble_eq_true rfl, Nat.le_of_ble_eq_true rfl⟩) (xV_pre (ci := 0) (q0 := 0) hK hP hG rfl rfl rfl) rfl rfl hl.1 rfl (lv_room (Nat.le_of_ble_eq_true rfl)) dL_formOfOther_4 ⟨Nat.le_of_ble_eq_true rfl, Nat.le_of_ble_eq_true rfl⟩) (fun ce q9 H1 hz9 hk9 hce hcv hcl => ?_)
  refine vx_catch (own := RL) (name := "java/lang/IndexOutOfBoundsException") (E := "java/lang/IndexOutOfBoundsException") hown [] ⟨0, 9, 12, 13⟩ [] (vx_table (x := yL_formOfOther) (hh := [(0, 9, 12, 13)]) B (hts _ List.mem_cons_self)) (fun _ h => nomatch h) (by decide) (by decide) (hts _ (by decide +kernel)) ((hG.1 _ (by decide +kernel)).use rfl) hce hcv hcl ?_
  refine lv_astore_n (lv' := [(3, .ref q9), (0, .ref o0), (1, .int (iI z0)), (2, .ref u0)]) hx hb dL_formOfOther_12 rfl hl (by decide) rfl (fun ls hl => ?_)
  refine ib_const hx hb dL_formOfOther_13 ?_
  exact W.iret hx hb hr (fun t ht _ => ⟨rfl, by rw [ht]; exact hz9, fun q h => by rw [ht]; exact hk9 q h⟩) (fun _ h => nomatch h) dL_formOfOther_14

set_option maxHeartbeats 4000000 in
set_option maxRecDepth 100000 in
theorem mL_segment_x1 (l : Launch) (hfl : l.stackTraces = false) (dC : Nat → ClassId) (dI : Nat → Nat → Nat) (o0 : Nat) (a0 a1 q : Nat → Nat) (w : Nat) (hp0 : Pm a0) (hp1 : Pm a1) (hw : w ≤ 12) (hq : ∀ i, i < w → q i < 12) (hqd : ∀ i j, i < w → j < w → q i = q j → i = j) (u0 : Nat) (z0 z1 z2 : Int) (hz0 : inI z0) (hz1 : inI z1) (hz2 : inI z2) (hbad : ¬ ((z0 = 0 ∨ z0 = 1) ∧ (0 ≤ z1 ∧ z1 ≤ 11))) : wb l yL_segment wsL_segment { frames := 8, cells := 1, slots := 6, locals := 126 } [.ref o0, .int (iI z0), .int (iI z1), .int (iI z2), .ref u0] (dC, dI) [(o0, .inr (0, [.long (pk a0), .long (pk a1), .long (pkn q w), .int (iI ((w : Nat) : Int))]))] [] (some (.int (iI 1))) := by
  refine mt_ofWH (cc := cL_segment) (maxL := 6) (ret := (some .int)) (hh := [(0, 12, 15, 13), (0, 12, 19, 15)]) (by decide +kernel) rfl ?_
  intro P0 e s m args below meth c s₁ B hml hv
  obtain ⟨rfl, hP, hK, hG, hN⟩ := hv
  have hx := B.exec
  have hb := B.bytes
  have hr := B.returns
  have hts := atoms_spec (ws := wsL_segment) B.pre
  have hown : s.vm.findClass RL = some m.cls := findClass_of_methodNamed B.named
  have hlocks := B.notSynchronized
  have hl := lv_entry ([.ref o0, .int (iI z0), .int (iI z1), .int (iI z2), .ref u0]) (n := 6) (Nat.le_of_ble_eq_true rfl)
  rw [lg_entry_eq]
  generalize (lg_sl ([.ref o0, .int (iI z0), .int (iI z1), .int (iI z2), .ref u0]) ++ List.replicate (6 - (lg_sl ([.ref o0, .int (iI z0), .int (iI z1), .int (iI z2), .ref u0])).length) Slot.unset).toArray = ls at hl ⊢
  have hl : lv_has ls 6 [(0, .ref o0), (1, .int (iI z0)), (2, .int (iI z1)), (3, .int (iI z2)), (4, .ref u0)] := hl
  refine lv_aload hx hb dL_segment_0 (lv_at hl 4 rfl) ?_
  refine ib_const hx hb dL_segment_2 ?_
  refine lv_aload_n hx hb dL_segment_3 rfl (lv_at hl 0 rfl) ?_
  refine lv_iload_n hx hb dL_segment_4 rfl (lv_at hl 1 rfl) ?_
  refine lv_iload_n hx hb dL_segment_5 rfl (lv_at hl 2 rfl) ?_
  refine lv_iload_n hx hb dL_segment_6 rfl (lv_at hl 3 rfl) ?_
  refine th_call (vx_runV (As := [.int (iI z0), .int (iI z1), .int (iI z2)]) (rest := [.int (iI 0), .ref u0]) ⟨hx, hb, hml, hown, hts⟩ (mX0_segment_x1 l hfl dC dI o0 a0 a1 q w hp0 hp1 hw hq hqd z0 z1 z2 hz0 hz1 hz2 hbad) (cwV 3 hts gL_segment_X0_segment rfl rfl rfl hvX0_segment ⟨Nat.le_of_ble_eq_true rfl, Nat.le_of_ble_eq_true rfl⟩) (xV_pre (ci := 0) (q0 := 0) hK hP hG rfl rfl rfl) rfl rfl hl.1 rfl (lv_room (Nat.le_of_ble_eq_true rfl)) dL_segment_7 ⟨Nat.le_of_ble_eq_true rfl, Nat.le_of_ble_eq_true rfl⟩) (fun ce q9 H1 hz9 hk9 hce hcv hcl => ?_)
  refine vx_catch (own := RL) (name := "java/lang/IndexOutOfBoundsException") (E := "java/lang/IndexOutOfBoundsException") hown [] ⟨0, 12, 15, 13⟩ [⟨0, 12, 19, 15⟩] (vx_table (x := yL_segment) (hh := [(0, 12, 15, 13), (0, 12, 19, 15)]) B (hts _ List.mem_cons_self)) (fun _ h => nomatch h) (by decide) (by decide) (hts _ (by decide +kernel)) ((hG.1 _ (by decide +kernel)).use rfl) hce hcv hcl ?_
  refine lv_astore (lv' := [(5, .ref q9), (0, .ref o0), (1, .int (iI z0)), (2, .int (iI z1)), (3, .int (iI z2)), (4, .ref u0)]) hx hb dL_segment_15 hl (by decide) rfl (fun ls hl => ?_)
  refine ib_const hx hb dL_segment_17 ?_
  exact W.iret hx hb hr (fun t ht _ => ⟨rfl, by rw [ht]; exact hz9, fun q h => by rw [ht]; exact hk9 q h⟩) (fun _ h => nomatch h) dL_segment_18

set_option maxHeartbeats 4000000 in
set_option maxRecDepth 100000 in
theorem mL_segment_x2 (l : Launch) (hfl : l.stackTraces = false) (dC : Nat → ClassId) (dI : Nat → Nat → Nat) (o0 : Nat) (a0 a1 q : Nat → Nat) (w : Nat) (hp0 : Pm a0) (hp1 : Pm a1) (hw : w ≤ 12) (hq : ∀ i, i < w → q i < 12) (hqd : ∀ i j, i < w → j < w → q i = q j → i = j) (u0 : Nat) (z0 z1 z2 : Int) (hz0 : inI z0) (hz1 : inI z1) (hz2 : inI z2) (hbad : ((z0 = 0 ∨ z0 = 1) ∧ (0 ≤ z1 ∧ z1 ≤ 11)) ∧ ¬ (1 ≤ z2 ∧ z2 ≤ 12 ∧ z1 + z2 ≤ 12)) : wb l yL_segment wsL_segment { frames := 8, cells := 1, slots := 6, locals := 127 } [.ref o0, .int (iI z0), .int (iI z1), .int (iI z2), .ref u0] (dC, dI) [(o0, .inr (0, [.long (pk a0), .long (pk a1), .long (pkn q w), .int (iI ((w : Nat) : Int))]))] [] (some (.int (iI 2))) := by
  refine mt_ofWH (cc := cL_segment) (maxL := 6) (ret := (some .int)) (hh := [(0, 12, 15, 13), (0, 12, 19, 15)]) (by decide +kernel) rfl ?_
  intro P0 e s m args below meth c s₁ B hml hv
  obtain ⟨rfl, hP, hK, hG, hN⟩ := hv
  have hx := B.exec
  have hb := B.bytes
  have hr := B.returns
  have hts := atoms_spec (ws := wsL_segment) B.pre
  have hown : s.vm.findClass RL = some m.cls := findClass_of_methodNamed B.named
  have hlocks := B.notSynchronized
  have hl := lv_entry ([.ref o0, .int (iI z0), .int (iI z1), .int (iI z2), .ref u0]) (n := 6) (Nat.le_of_ble_eq_true rfl)
  rw [lg_entry_eq]
  generalize (lg_sl ([.ref o0, .int (iI z0), .int (iI z1), .int (iI z2), .ref u0]) ++ List.replicate (6 - (lg_sl ([.ref o0, .int (iI z0), .int (iI z1), .int (iI z2), .ref u0])).length) Slot.unset).toArray = ls at hl ⊢
  have hl : lv_has ls 6 [(0, .ref o0), (1, .int (iI z0)), (2, .int (iI z1)), (3, .int (iI z2)), (4, .ref u0)] := hl
  refine lv_aload hx hb dL_segment_0 (lv_at hl 4 rfl) ?_
  refine ib_const hx hb dL_segment_2 ?_
  refine lv_aload_n hx hb dL_segment_3 rfl (lv_at hl 0 rfl) ?_
  refine lv_iload_n hx hb dL_segment_4 rfl (lv_at hl 1 rfl) ?_
  refine lv_iload_n hx hb dL_segment_5 rfl (lv_at hl 2 rfl) ?_
  refine lv_iload_n hx hb dL_segment_6 rfl (lv_at hl 3 rfl) ?_
  refine th_call (vx_runV (As := [.int (iI z0), .int (iI z1), .int (iI z2)]) (rest := [.int (iI 0), .ref u0]) ⟨hx, hb, hml, hown, hts⟩ (mX0_segment_x2 l hfl dC dI o0 a0 a1 q w hp0 hp1 hw hq hqd z0 z1 z2 hz0 hz1 hz2 hbad) (cwV 3 hts gL_segment_X0_segment rfl rfl rfl hvX0_segment ⟨Nat.le_of_ble_eq_true rfl, Nat.le_of_ble_eq_true rfl⟩) (xV_pre (ci := 0) (q0 := 0) hK hP hG rfl rfl rfl) rfl rfl hl.1 rfl (lv_room (Nat.le_of_ble_eq_true rfl)) dL_segment_7 ⟨Nat.le_of_ble_eq_true rfl, Nat.le_of_ble_eq_true rfl⟩) (fun ce q9 H1 hz9 hk9 hce hcv hcl => ?_)
  refine vx_catch (own := RL) (name := "java/lang/IllegalArgumentException") (E := "java/lang/IllegalArgumentException") hown [⟨0, 12, 15, 13⟩] ⟨0, 12, 19, 15⟩ [] (vx_table (x := yL_segment) (hh := [(0, 12, 15, 13), (0, 12, 19, 15)]) B (hts _ List.mem_cons_self)) (fun z hz => by rcases List.mem_singleton.mp hz with rfl; exact Or.inr ⟨by decide, "java/lang/IndexOutOfBoundsException", hts _ (by decide +kernel), hN.1⟩) (by decide) (by decide) (hts _ (by decide +kernel)) ((hG.1 _ (by decide +kernel)).use rfl) hce hcv hcl ?_
  refine lv_astore (lv' := [(5, .ref q9), (0, .ref o0), (1, .int (iI z0)), (2, .int (iI z1)), (3, .int (iI z2)), (4, .ref u0)]) hx hb dL_segment_19 hl (by decide) rfl (fun ls hl => ?_)
  refine ib_const hx hb dL_segment_21 ?_
  exact W.iret hx hb hr (fun t ht _ => ⟨rfl, by rw [ht]; exact hz9, fun q h => by rw [ht]; exact hk9 q h⟩) (fun _ h => nomatch h) dL_segment_22

set_option maxHeartbeats 4000000 in
set_option maxRecDepth 100000 in
theorem mL_classOf_x1 (l : Launch) (hfl : l.stackTraces = false) (dC : Nat → ClassId) (dI : Nat → Nat → Nat) (o0 : Nat) (a0 a1 q : Nat → Nat) (w : Nat) (hp0 : Pm a0) (hp1 : Pm a1) (hw : w ≤ 12) (hq : ∀ i, i < w → q i < 12) (hqd : ∀ i j, i < w → j < w → q i = q j → i = j) (u0 : Nat) (z0 : Int) (hz0 : inI z0) (hbad : ¬ (0 ≤ z0 ∧ z0 ≤ 4095)) : wb l yL_classOf wsL_classOf { frames := 8, cells := 1, slots := 6, locals := 125 } [.ref o0, .int (iI z0), .ref u0] (dC, dI) [(o0, .inr (0, [.long (pk a0), .long (pk a1), .long (pkn q w), .int (iI ((w : Nat) : Int))]))] [] (some (.int (iI 1))) := by
  refine mt_ofWH (cc := cL_classOf) (maxL := 4) (ret := (some .int)) (hh := [(0, 9, 12, 15)]) (by decide +kernel) rfl ?_
  intro P0 e s m args below meth c s₁ B hml hv
  obtain ⟨rfl, hP, hK, hG, hN⟩ := hv
  have hx := B.exec
  have hb := B.bytes
  have hr := B.returns
  have hts := atoms_spec (ws := wsL_classOf) B.pre
  have hown : s.vm.findClass RL = some m.cls := findClass_of_methodNamed B.named
  have hlocks := B.notSynchronized
  have hl := lv_entry ([.ref o0, .int (iI z0), .ref u0]) (n := 4) (Nat.le_of_ble_eq_true rfl)
  rw [lg_entry_eq]
  generalize (lg_sl ([.ref o0, .int (iI z0), .ref u0]) ++ List.replicate (4 - (lg_sl ([.ref o0, .int (iI z0), .ref u0])).length) Slot.unset).toArray = ls at hl ⊢
  have hl : lv_has ls 4 [(0, .ref o0), (1, .int (iI z0)), (2, .ref u0)] := hl
  refine lv_aload_n hx hb dL_classOf_0 rfl (lv_at hl 2 rfl) ?_
  refine ib_const hx hb dL_classOf_1 ?_
  refine lv_aload_n hx hb dL_classOf_2 rfl (lv_at hl 0 rfl) ?_
  refine lv_iload_n hx hb dL_classOf_3 rfl (lv_at hl 1 rfl) ?_
  refine th_call (vx_runV (As := [.int (iI z0)]) (rest := [.int (iI 0), .ref u0]) ⟨hx, hb, hml, hown, hts⟩ (mX0_classOf_x1 l hfl dC dI o0 a0 a1 q w hp0 hp1 hw hq hqd z0 hz0 hbad) (cwV 1 hts gL_classOf_X0_classOf rfl rfl rfl hvX0_classOf ⟨Nat.le_of_ble_eq_true rfl, Nat.le_of_ble_eq_true rfl⟩) (xV_pre (ci := 0) (q0 := 0) hK hP hG rfl rfl rfl) rfl rfl hl.1 rfl (lv_room (Nat.le_of_ble_eq_true rfl)) dL_classOf_4 ⟨Nat.le_of_ble_eq_true rfl, Nat.le_of_ble_eq_true rfl⟩) (fun ce q9 H1 hz9 hk9 hce hcv hcl => ?_)
  refine vx_catch (own := RL) (name := "java/lang/IllegalArgumentException") (E := "java/lang/IllegalArgumentException") hown [] ⟨0, 9, 12, 15⟩ [] (vx_table (x := yL_classOf) (hh := [(0, 9, 12, 15)]) B (hts _ List.mem_cons_self)) (fun _ h => nomatch h) (by decide) (by decide) (hts _ (by decide +kernel)) ((hG.1 _ (by decide +kernel)).use rfl) hce hcv hcl ?_
  refine lv_astore_n (lv' := [(3, .ref q9), (0, .ref o0), (1, .int (iI z0)), (2, .ref u0)]) hx hb dL_classOf_12 rfl hl (by decide) rfl (fun ls hl => ?_)
  refine ib_const hx hb dL_classOf_13 ?_
  exact W.iret hx hb hr (fun t ht _ => ⟨rfl, by rw [ht]; exact hz9, fun q h => by rw [ht]; exact hk9 q h⟩) (fun _ h => nomatch h) dL_classOf_14

set_option maxHeartbeats 4000000 in
set_option maxRecDepth 100000 in
theorem mL_pairs_x1 (l : Launch) (hfl : l.stackTraces = false) (dC : Nat → ClassId) (dI : Nat → Nat → Nat) (o0 : Nat) (a0 a1 q : Nat → Nat) (w : Nat) (hp0 : Pm a0) (hp1 : Pm a1) (hw : w ≤ 12) (hq : ∀ i, i < w → q i < 12) (hqd : ∀ i j, i < w → j < w → q i = q j → i = j) (u0 : Nat) (z0 z1 : Int) (hz0 : inI z0) (hz1 : inI z1) (hbad : ¬ ((0 ≤ z0 ∧ z0 ≤ 4095) ∧ (1 ≤ z1 ∧ z1 ≤ 6))) : wb l yL_pairs wsL_pairs { frames := 8, cells := 1, slots := 6, locals := 127 } [.ref o0, .int (iI z0), .int (iI z1), .ref u0] (dC, dI) [(o0, .inr (0, [.long (pk a0), .long (pk a1), .long (pkn q w), .int (iI ((w : Nat) : Int))]))] [] (some (.int (iI 1))) := by
  refine mt_ofWH (cc := cL_pairs) (maxL := 5) (ret := (some .int)) (hh := [(0, 10, 13, 15)]) (by decide +kernel) rfl ?_
  intro P0 e s m args below meth c s₁ B hml hv
  obtain ⟨rfl, hP, hK, hG, hN⟩ := hv
  have hx := B.exec
  have hb := B.bytes
  have hr := B.returns
  have hts := atoms_spec (ws := wsL_pairs) B.pre
  have hown : s.vm.findClass RL = some m.cls := findClass_of_methodNamed B.named
  have hlocks := B.notSynchronized
  have hl := lv_entry ([.ref o0, .int (iI z0), .int (iI z1), .ref u0]) (n := 5) (Nat.le_of_ble_eq_true rfl)
  rw [lg_entry_eq]
  generalize (lg_sl ([.ref o0, .int (iI z0), .int (iI z1), .ref u0]) ++ List.replicate (5 - (lg_sl ([.ref o0, .int (iI z0), .int (iI z1), .ref u0])).length) Slot.unset).toArray = ls at hl ⊢
  have hl : lv_has ls 5 [(0, .ref o0), (1, .int (iI z0)), (2, .int (iI z1)), (3, .ref u0)] := hl
  refine lv_aload_n hx hb dL_pairs_0 rfl (lv_at hl 3 rfl) ?_
  refine ib_const hx hb dL_pairs_1 ?_
  refine lv_aload_n hx hb dL_pairs_2 rfl (lv_at hl 0 rfl) ?_
  refine lv_iload_n hx hb dL_pairs_3 rfl (lv_at hl 1 rfl) ?_
  refine lv_iload_n hx hb dL_pairs_4 rfl (lv_at hl 2 rfl) ?_
  refine th_call (vx_runV (As := [.int (iI z0), .int (iI z1)]) (rest := [.int (iI 0), .ref u0]) ⟨hx, hb, hml, hown, hts⟩ (mX0_pairs_x1 l hfl dC dI o0 a0 a1 q w hp0 hp1 hw hq hqd z0 z1 hz0 hz1 hbad) (cwV 2 hts gL_pairs_X0_pairs rfl rfl rfl hvX0_pairs ⟨Nat.le_of_ble_eq_true rfl, Nat.le_of_ble_eq_true rfl⟩) (xV_pre (ci := 0) (q0 := 0) hK hP hG rfl rfl rfl) rfl rfl hl.1 rfl (lv_room (Nat.le_of_ble_eq_true rfl)) dL_pairs_5 ⟨Nat.le_of_ble_eq_true rfl, Nat.le_of_ble_eq_true rfl⟩) (fun ce q9 H1 hz9 hk9 hce hcv hcl => ?_)
  refine vx_catch (own := RL) (name := "java/lang/IllegalArgumentException") (E := "java/lang/IllegalArgumentException") hown [] ⟨0, 10, 13, 15⟩ [] (vx_table (x := yL_pairs) (hh := [(0, 10, 13, 15)]) B (hts _ List.mem_cons_self)) (fun _ h => nomatch h) (by decide) (by decide) (hts _ (by decide +kernel)) ((hG.1 _ (by decide +kernel)).use rfl) hce hcv hcl ?_
  refine lv_astore (lv' := [(4, .ref q9), (0, .ref o0), (1, .int (iI z0)), (2, .int (iI z1)), (3, .ref u0)]) hx hb dL_pairs_13 hl (by decide) rfl (fun ls hl => ?_)
  refine ib_const hx hb dL_pairs_15 ?_
  exact W.iret hx hb hr (fun t ht _ => ⟨rfl, by rw [ht]; exact hz9, fun q h => by rw [ht]; exact hk9 q h⟩) (fun _ h => nomatch h) dL_pairs_16

set_option maxHeartbeats 4000000 in
set_option maxRecDepth 100000 in
theorem mL_combining_x1 (l : Launch) (hfl : l.stackTraces = false) (dC : Nat → ClassId) (dI : Nat → Nat → Nat) (o0 : Nat) (a0 a1 q : Nat → Nat) (w : Nat) (hp0 : Pm a0) (hp1 : Pm a1) (hw : w ≤ 12) (hq : ∀ i, i < w → q i < 12) (hqd : ∀ i j, i < w → j < w → q i = q j → i = j) (u0 : Nat) (z0 : Int) (hz0 : inI z0) (hbad : ¬ (z0 = 0 ∨ z0 = 1)) : wb l yL_combining wsL_combining { frames := 8, cells := 1, slots := 6, locals := 129 } [.ref o0, .int (iI z0), .ref u0] (dC, dI) [(o0, .inr (0, [.long (pk a0), .long (pk a1), .long (pkn q w), .int (iI ((w : Nat) : Int))]))] [] (some (.int (iI 1))) := by
  refine mt_ofWH (cc := cL_combining) (maxL := 4) (ret := (some .int)) (hh := [(0, 8, 11, 13)]) (by decide +kernel) rfl ?_
  intro P0 e s m args below meth c s₁ B hml hv
  obtain ⟨rfl, hP, hK, hG, hN⟩ := hv
  have hx := B.exec
  have hb := B.bytes
  have hr := B.returns
  have hts := atoms_spec (ws := wsL_combining) B.pre
  have hown : s.vm.findClass RL = some m.cls := findClass_of_methodNamed B.named
  have hlocks := B.notSynchronized
  have hl := lv_entry ([.ref o0, .int (iI z0), .ref u0]) (n := 4) (Nat.le_of_ble_eq_true rfl)
  rw [lg_entry_eq]
  generalize (lg_sl ([.ref o0, .int (iI z0), .ref u0]) ++ List.replicate (4 - (lg_sl ([.ref o0, .int (iI z0), .ref u0])).length) Slot.unset).toArray = ls at hl ⊢
  have hl : lv_has ls 4 [(0, .ref o0), (1, .int (iI z0)), (2, .ref u0)] := hl
  refine lv_aload_n hx hb dL_combining_0 rfl (lv_at hl 2 rfl) ?_
  refine ib_const hx hb dL_combining_1 ?_
  refine lv_aload_n hx hb dL_combining_2 rfl (lv_at hl 0 rfl) ?_
  refine lv_iload_n hx hb dL_combining_3 rfl (lv_at hl 1 rfl) ?_
  refine th_call (vx_runV (As := [.int (iI z0)]) (rest := [.int (iI 0), .ref u0]) ⟨hx, hb, hml, hown, hts⟩ (mX0_combining_x1 l hfl dC dI o0 a0 a1 q w hp0 hp1 hw hq hqd z0 hz0 hbad) (cwV 1 hts gL_combining_X0_combining rfl rfl rfl hvX0_combining ⟨Nat.le_of_ble_eq_true rfl, Nat.le_of_ble_eq_true rfl⟩) (xV_pre (ci := 0) (q0 := 0) hK hP hG rfl rfl rfl) rfl rfl hl.1 rfl (lv_room (Nat.le_of_ble_eq_true rfl)) dL_combining_4 ⟨Nat.le_of_ble_eq_true rfl, Nat.le_of_ble_eq_true rfl⟩) (fun ce q9 H1 hz9 hk9 hce hcv hcl => ?_)
  refine vx_catch (own := RL) (name := "java/lang/IndexOutOfBoundsException") (E := "java/lang/IndexOutOfBoundsException") hown [] ⟨0, 8, 11, 13⟩ [] (vx_table (x := yL_combining) (hh := [(0, 8, 11, 13)]) B (hts _ List.mem_cons_self)) (fun _ h => nomatch h) (by decide) (by decide) (hts _ (by decide +kernel)) ((hG.1 _ (by decide +kernel)).use rfl) hce hcv hcl ?_
  refine lv_astore_n (lv' := [(3, .ref q9), (0, .ref o0), (1, .int (iI z0)), (2, .ref u0)]) hx hb dL_combining_11 rfl hl (by decide) rfl (fun ls hl => ?_)
  refine ib_const hx hb dL_combining_12 ?_
  exact W.iret hx hb hr (fun t ht _ => ⟨rfl, by rw [ht]; exact hz9, fun q h => by rw [ht]; exact hk9 q h⟩) (fun _ h => nomatch h) dL_combining_13

set_option maxHeartbeats 4000000 in
set_option maxRecDepth 100000 in
theorem mL_isDerived_x1 (l : Launch) (hfl : l.stackTraces = false) (dC : Nat → ClassId) (dI : Nat → Nat → Nat) (o0 : Nat) (a0 a1 q : Nat → Nat) (w : Nat) (hp0 : Pm a0) (hp1 : Pm a1) (hw : w ≤ 12) (hq : ∀ i, i < w → q i < 12) (hqd : ∀ i j, i < w → j < w → q i = q j → i = j) (u0 : Nat) (z0 z1 : Int) (hz0 : inI z0) (hz1 : inI z1) (hbad : ¬ (z0 = 0 ∨ z0 = 1)) : wb l yL_isDerived wsL_isDerived { frames := 8, cells := 1, slots := 6, locals := 129 } [.ref o0, .int (iI z0), .int (iI z1), .ref u0] (dC, dI) [(o0, .inr (0, [.long (pk a0), .long (pk a1), .long (pkn q w), .int (iI ((w : Nat) : Int))]))] [] (some (.int (iI 1))) := by
  refine mt_ofWH (cc := cL_isDerived) (maxL := 5) (ret := (some .int)) (hh := [(0, 17, 20, 13), (0, 17, 24, 15)]) (by decide +kernel) rfl ?_
  intro P0 e s m args below meth c s₁ B hml hv
  obtain ⟨rfl, hP, hK, hG, hN⟩ := hv
  have hx := B.exec
  have hb := B.bytes
  have hr := B.returns
  have hts := atoms_spec (ws := wsL_isDerived) B.pre
  have hown : s.vm.findClass RL = some m.cls := findClass_of_methodNamed B.named
  have hlocks := B.notSynchronized
  have hl := lv_entry ([.ref o0, .int (iI z0), .int (iI z1), .ref u0]) (n := 5) (Nat.le_of_ble_eq_true rfl)
  rw [lg_entry_eq]
  generalize (lg_sl ([.ref o0, .int (iI z0), .int (iI z1), .ref u0]) ++ List.replicate (5 - (lg_sl ([.ref o0, .int (iI z0), .int (iI z1), .ref u0])).length) Slot.unset).toArray = ls at hl ⊢
  have hl : lv_has ls 5 [(0, .ref o0), (1, .int (iI z0)), (2, .int (iI z1)), (3, .ref u0)] := hl
  refine lv_aload_n hx hb dL_isDerived_0 rfl (lv_at hl 3 rfl) ?_
  refine ib_const hx hb dL_isDerived_1 ?_
  refine lv_aload_n hx hb dL_isDerived_2 rfl (lv_at hl 0 rfl) ?_
  refine lv_iload_n hx hb dL_isDerived_3 rfl (lv_at hl 1 rfl) ?_
  refine lv_iload_n hx hb dL_isDerived_4 rfl (lv_at hl 2 rfl) ?_
  refine th_call (vx_runV (As := [.int (iI z0), .int (iI z1)]) (rest := [.int (iI 0), .ref u0]) ⟨hx, hb, hml, hown, hts⟩ (mX0_isDerived_x1 l hfl dC dI o0 a0 a1 q w hp0 hp1 hw hq hqd z0 z1 hz0 hz1 hbad) (cwV 2 hts gL_isDerived_X0_isDerived rfl rfl rfl hvX0_isDerived ⟨Nat.le_of_ble_eq_true rfl, Nat.le_of_ble_eq_true rfl⟩) (xV_pre (ci := 0) (q0 := 0) hK hP hG rfl rfl rfl) rfl rfl hl.1 rfl (lv_room (Nat.le_of_ble_eq_true rfl)) dL_isDerived_5 ⟨Nat.le_of_ble_eq_true rfl, Nat.le_of_ble_eq_true rfl⟩) (fun ce q9 H1 hz9 hk9 hce hcv hcl => ?_)
  refine vx_catch (own := RL) (name := "java/lang/IndexOutOfBoundsException") (E := "java/lang/IndexOutOfBoundsException") hown [] ⟨0, 17, 20, 13⟩ [⟨0, 17, 24, 15⟩] (vx_table (x := yL_isDerived) (hh := [(0, 17, 20, 13), (0, 17, 24, 15)]) B (hts _ List.mem_cons_self)) (fun _ h => nomatch h) (by decide) (by decide) (hts _ (by decide +kernel)) ((hG.1 _ (by decide +kernel)).use rfl) hce hcv hcl ?_
  refine lv_astore (lv' := [(4, .ref q9), (0, .ref o0), (1, .int (iI z0)), (2, .int (iI z1)), (3, .ref u0)]) hx hb dL_isDerived_20 hl (by decide) rfl (fun ls hl => ?_)
  refine ib_const hx hb dL_isDerived_22 ?_
  exact W.iret hx hb hr (fun t ht _ => ⟨rfl, by rw [ht]; exact hz9, fun q h => by rw [ht]; exact hk9 q h⟩) (fun _ h => nomatch h) dL_isDerived_23

set_option maxHeartbeats 4000000 in
set_option maxRecDepth 100000 in
theorem mL_isDerived_x2 (l : Launch) (hfl : l.stackTraces = false) (dC : Nat → ClassId) (dI : Nat → Nat → Nat) (o0 : Nat) (a0 a1 q : Nat → Nat) (w : Nat) (hp0 : Pm a0) (hp1 : Pm a1) (hw : w ≤ 12) (hq : ∀ i, i < w → q i < 12) (hqd : ∀ i j, i < w → j < w → q i = q j → i = j) (u0 : Nat) (z0 z1 : Int) (hz0 : inI z0) (hz1 : inI z1) (hbad : (z0 = 0 ∨ z0 = 1) ∧ ¬ (z1 = 1 ∨ z1 = 2 ∨ z1 = 3 ∨ z1 = 4 ∨ z1 = 6 ∨ z1 = 12)) : wb l yL_isDerived wsL_isDerived { frames := 8, cells := 1, slots := 6, locals := 129 } [.ref o0, .int (iI z0), .int (iI z1), .ref u0] (dC, dI) [(o0, .inr (0, [.long (pk a0), .long (pk a1), .long (pkn q w), .int (iI ((w : Nat) : Int))]))] [] (some (.int (iI 2))) := by
  refine mt_ofWH (cc := cL_isDerived) (maxL := 5) (ret := (some .int)) (hh := [(0, 17, 20, 13), (0, 17, 24, 15)]) (by decide +kernel) rfl ?_
  intro P0 e s m args below meth c s₁ B hml hv
  obtain ⟨rfl, hP, hK, hG, hN⟩ := hv
  have hx := B.exec
  have hb := B.bytes
  have hr := B.returns
  have hts := atoms_spec (ws := wsL_isDerived) B.pre
  have hown : s.vm.findClass RL = some m.cls := findClass_of_methodNamed B.named
  have hlocks := B.notSynchronized
  have hl := lv_entry ([.ref o0, .int (iI z0), .int (iI z1), .ref u0]) (n := 5) (Nat.le_of_ble_eq_true rfl)
  rw [lg_entry_eq]
  generalize (lg_sl ([.ref o0, .int (iI z0), .int (iI z1), .ref u0]) ++ List.replicate (5 - (lg_sl ([.ref o0, .int (iI z0), .int (iI z1), .ref u0])).length) Slot.unset).toArray = ls at hl ⊢
  have hl : lv_has ls 5 [(0, .ref o0), (1, .int (iI z0)), (2, .int (iI z1)), (3, .ref u0)] := hl
  refine lv_aload_n hx hb dL_isDerived_0 rfl (lv_at hl 3 rfl) ?_
  refine ib_const hx hb dL_isDerived_1 ?_
  refine lv_aload_n hx hb dL_isDerived_2 rfl (lv_at hl 0 rfl) ?_
  refine lv_iload_n hx hb dL_isDerived_3 rfl (lv_at hl 1 rfl) ?_
  refine lv_iload_n hx hb dL_isDerived_4 rfl (lv_at hl 2 rfl) ?_
  refine th_call (vx_runV (As := [.int (iI z0), .int (iI z1)]) (rest := [.int (iI 0), .ref u0]) ⟨hx, hb, hml, hown, hts⟩ (mX0_isDerived_x2 l hfl dC dI o0 a0 a1 q w hp0 hp1 hw hq hqd z0 z1 hz0 hz1 hbad) (cwV 2 hts gL_isDerived_X0_isDerived rfl rfl rfl hvX0_isDerived ⟨Nat.le_of_ble_eq_true rfl, Nat.le_of_ble_eq_true rfl⟩) (xV_pre (ci := 0) (q0 := 0) hK hP hG rfl rfl rfl) rfl rfl hl.1 rfl (lv_room (Nat.le_of_ble_eq_true rfl)) dL_isDerived_5 ⟨Nat.le_of_ble_eq_true rfl, Nat.le_of_ble_eq_true rfl⟩) (fun ce q9 H1 hz9 hk9 hce hcv hcl => ?_)
  refine vx_catch (own := RL) (name := "java/lang/IllegalArgumentException") (E := "java/lang/IllegalArgumentException") hown [⟨0, 17, 20, 13⟩] ⟨0, 17, 24, 15⟩ [] (vx_table (x := yL_isDerived) (hh := [(0, 17, 20, 13), (0, 17, 24, 15)]) B (hts _ List.mem_cons_self)) (fun z hz => by rcases List.mem_singleton.mp hz with rfl; exact Or.inr ⟨by decide, "java/lang/IndexOutOfBoundsException", hts _ (by decide +kernel), hN.1⟩) (by decide) (by decide) (hts _ (by decide +kernel)) ((hG.1 _ (by decide +kernel)).use rfl) hce hcv hcl ?_
  refine lv_astore (lv' := [(4, .ref q9), (0, .ref o0), (1, .int (iI z0)), (2, .int (iI z1)), (3, .ref u0)]) hx hb dL_isDerived_24 hl (by decide) rfl (fun ls hl => ?_)
  refine ib_const hx hb dL_isDerived_26 ?_
  exact W.iret hx hb hr (fun t ht _ => ⟨rfl, by rw [ht]; exact hz9, fun q h => by rw [ht]; exact hk9 q h⟩) (fun _ h => nomatch h) dL_isDerived_27

set_option maxHeartbeats 4000000 in
set_option maxRecDepth 100000 in
theorem mL_keptSets_x1 (l : Launch) (hfl : l.stackTraces = false) (dC : Nat → ClassId) (dI : Nat → Nat → Nat) (o0 : Nat) (a0 a1 q : Nat → Nat) (w : Nat) (hp0 : Pm a0) (hp1 : Pm a1) (hw : w ≤ 12) (hq : ∀ i, i < w → q i < 12) (hqd : ∀ i j, i < w → j < w → q i = q j → i = j) (u0 : Nat) (z0 z1 z2 z3 : Int) (hz0 : inI z0) (hz1 : inI z1) (hz2 : inI z2) (hz3 : inI z3) (hbad : ¬ (z0 = 0 ∨ z0 = 1)) : wb l yL_keptSets wsL_keptSets { frames := 8, cells := 1, slots := 6, locals := 128 } [.ref o0, .int (iI z0), .int (iI z1), .int (iI z2), .int (iI z3), .ref u0] (dC, dI) [(o0, .inr (0, [.long (pk a0), .long (pk a1), .long (pkn q w), .int (iI ((w : Nat) : Int))]))] [] (some (.int (iI 1))) := by
  refine mt_ofWH (cc := cL_keptSets) (maxL := 7) (ret := (some .int)) (hh := [(0, 14, 17, 13), (0, 14, 21, 15)]) (by decide +kernel) rfl ?_
  intro P0 e s m args below meth c s₁ B hml hv
  obtain ⟨rfl, hP, hK, hG, hN⟩ := hv
  have hx := B.exec
  have hb := B.bytes
  have hr := B.returns
  have hts := atoms_spec (ws := wsL_keptSets) B.pre
  have hown : s.vm.findClass RL = some m.cls := findClass_of_methodNamed B.named
  have hlocks := B.notSynchronized
  have hl := lv_entry ([.ref o0, .int (iI z0), .int (iI z1), .int (iI z2), .int (iI z3), .ref u0]) (n := 7) (Nat.le_of_ble_eq_true rfl)
  rw [lg_entry_eq]
  generalize (lg_sl ([.ref o0, .int (iI z0), .int (iI z1), .int (iI z2), .int (iI z3), .ref u0]) ++ List.replicate (7 - (lg_sl ([.ref o0, .int (iI z0), .int (iI z1), .int (iI z2), .int (iI z3), .ref u0])).length) Slot.unset).toArray = ls at hl ⊢
  have hl : lv_has ls 7 [(0, .ref o0), (1, .int (iI z0)), (2, .int (iI z1)), (3, .int (iI z2)), (4, .int (iI z3)), (5, .ref u0)] := hl
  refine lv_aload hx hb dL_keptSets_0 (lv_at hl 5 rfl) ?_
  refine ib_const hx hb dL_keptSets_2 ?_
  refine lv_aload_n hx hb dL_keptSets_3 rfl (lv_at hl 0 rfl) ?_
  refine lv_iload_n hx hb dL_keptSets_4 rfl (lv_at hl 1 rfl) ?_
  refine lv_iload_n hx hb dL_keptSets_5 rfl (lv_at hl 2 rfl) ?_
  refine lv_iload_n hx hb dL_keptSets_6 rfl (lv_at hl 3 rfl) ?_
  refine lv_iload hx hb dL_keptSets_7 (lv_at hl 4 rfl) ?_
  refine th_call (vx_runV (As := [.int (iI z0), .int (iI z1), .int (iI z2), .int (iI z3)]) (rest := [.int (iI 0), .ref u0]) ⟨hx, hb, hml, hown, hts⟩ (mX0_keptSets_x1 l hfl dC dI o0 a0 a1 q w hp0 hp1 hw hq hqd z0 z1 z2 z3 hz0 hz1 hz2 hz3 hbad) (cwV 4 hts gL_keptSets_X0_keptSets rfl rfl rfl hvX0_keptSets ⟨Nat.le_of_ble_eq_true rfl, Nat.le_of_ble_eq_true rfl⟩) (xV_pre (ci := 0) (q0 := 0) hK hP hG rfl rfl rfl) rfl rfl hl.1 rfl (lv_room (Nat.le_of_ble_eq_true rfl)) dL_keptSets_9 ⟨Nat.le_of_ble_eq_true rfl, Nat.le_of_ble_eq_true rfl⟩) (fun ce q9 H1 hz9 hk9 hce hcv hcl => ?_)
  refine vx_catch (own := RL) (name := "java/lang/IndexOutOfBoundsException") (E := "java/lang/IndexOutOfBoundsException") hown [] ⟨0, 14, 17, 13⟩ [⟨0, 14, 21, 15⟩] (vx_table (x := yL_keptSets) (hh := [(0, 14, 17, 13), (0, 14, 21, 15)]) B (hts _ List.mem_cons_self)) (fun _ h => nomatch h) (by decide) (by decide) (hts _ (by decide +kernel)) ((hG.1 _ (by decide +kernel)).use rfl) hce hcv hcl ?_
  refine lv_astore (lv' := [(6, .ref q9), (0, .ref o0), (1, .int (iI z0)), (2, .int (iI z1)), (3, .int (iI z2)), (4, .int (iI z3)), (5, .ref u0)]) hx hb dL_keptSets_17 hl (by decide) rfl (fun ls hl => ?_)
  refine ib_const hx hb dL_keptSets_19 ?_
  exact W.iret hx hb hr (fun t ht _ => ⟨rfl, by rw [ht]; exact hz9, fun q h => by rw [ht]; exact hk9 q h⟩) (fun _ h => nomatch h) dL_keptSets_20

set_option maxHeartbeats 4000000 in
set_option maxRecDepth 100000 in
theorem mL_keptSets_x2 (l : Launch) (hfl : l.stackTraces = false) (dC : Nat → ClassId) (dI : Nat → Nat → Nat) (o0 : Nat) (a0 a1 q : Nat → Nat) (w : Nat) (hp0 : Pm a0) (hp1 : Pm a1) (hw : w ≤ 12) (hq : ∀ i, i < w → q i < 12) (hqd : ∀ i j, i < w → j < w → q i = q j → i = j) (u0 : Nat) (z0 z1 z2 z3 : Int) (hz0 : inI z0) (hz1 : inI z1) (hz2 : inI z2) (hz3 : inI z3) (hbad : (z0 = 0 ∨ z0 = 1) ∧ ¬ ((0 ≤ z1 ∧ z1 ≤ 3 ∧ 0 ≤ z2 ∧ z2 ≤ 11) ∧ (1 ≤ z3 ∧ z3 ≤ 12))) : wb l yL_keptSets wsL_keptSets { frames := 9, cells := 1, slots := 6, locals := 151 } [.ref o0, .int (iI z0), .int (iI z1), .int (iI z2), .int (iI z3), .ref u0] (dC, dI) [(o0, .inr (0, [.long (pk a0), .long (pk a1), .long (pkn q w), .int (iI ((w : Nat) : Int))]))] [] (some (.int (iI 2))) := by
  refine mt_ofWH (cc := cL_keptSets) (maxL := 7) (ret := (some .int)) (hh := [(0, 14, 17, 13), (0, 14, 21, 15)]) (by decide +kernel) rfl ?_
  intro P0 e s m args below meth c s₁ B hml hv
  obtain ⟨rfl, hP, hK, hG, hN⟩ := hv
  have hx := B.exec
  have hb := B.bytes
  have hr := B.returns
  have hts := atoms_spec (ws := wsL_keptSets) B.pre
  have hown : s.vm.findClass RL = some m.cls := findClass_of_methodNamed B.named
  have hlocks := B.notSynchronized
  have hl := lv_entry ([.ref o0, .int (iI z0), .int (iI z1), .int (iI z2), .int (iI z3), .ref u0]) (n := 7) (Nat.le_of_ble_eq_true rfl)
  rw [lg_entry_eq]
  generalize (lg_sl ([.ref o0, .int (iI z0), .int (iI z1), .int (iI z2), .int (iI z3), .ref u0]) ++ List.replicate (7 - (lg_sl ([.ref o0, .int (iI z0), .int (iI z1), .int (iI z2), .int (iI z3), .ref u0])).length) Slot.unset).toArray = ls at hl ⊢
  have hl : lv_has ls 7 [(0, .ref o0), (1, .int (iI z0)), (2, .int (iI z1)), (3, .int (iI z2)), (4, .int (iI z3)), (5, .ref u0)] := hl
  refine lv_aload hx hb dL_keptSets_0 (lv_at hl 5 rfl) ?_
  refine ib_const hx hb dL_keptSets_2 ?_
  refine lv_aload_n hx hb dL_keptSets_3 rfl (lv_at hl 0 rfl) ?_
  refine lv_iload_n hx hb dL_keptSets_4 rfl (lv_at hl 1 rfl) ?_
  refine lv_iload_n hx hb dL_keptSets_5 rfl (lv_at hl 2 rfl) ?_
  refine lv_iload_n hx hb dL_keptSets_6 rfl (lv_at hl 3 rfl) ?_
  refine lv_iload hx hb dL_keptSets_7 (lv_at hl 4 rfl) ?_
  refine th_call (vx_runV (As := [.int (iI z0), .int (iI z1), .int (iI z2), .int (iI z3)]) (rest := [.int (iI 0), .ref u0]) ⟨hx, hb, hml, hown, hts⟩ (mX0_keptSets_x2 l hfl dC dI o0 a0 a1 q w hp0 hp1 hw hq hqd z0 z1 z2 z3 hz0 hz1 hz2 hz3 hbad) (cwV 4 hts gL_keptSets_X0_keptSets rfl rfl rfl hvX0_keptSets ⟨Nat.le_of_ble_eq_true rfl, Nat.le_of_ble_eq_true rfl⟩) (xV_pre (ci := 0) (q0 := 0) hK hP hG rfl rfl rfl) rfl rfl hl.1 rfl (lv_room (Nat.le_of_ble_eq_true rfl)) dL_keptSets_9 ⟨Nat.le_of_ble_eq_true rfl, Nat.le_of_ble_eq_true rfl⟩) (fun ce q9 H1 hz9 hk9 hce hcv hcl => ?_)
  refine vx_catch (own := RL) (name := "java/lang/IllegalArgumentException") (E := "java/lang/IllegalArgumentException") hown [⟨0, 14, 17, 13⟩] ⟨0, 14, 21, 15⟩ [] (vx_table (x := yL_keptSets) (hh := [(0, 14, 17, 13), (0, 14, 21, 15)]) B (hts _ List.mem_cons_self)) (fun z hz => by rcases List.mem_singleton.mp hz with rfl; exact Or.inr ⟨by decide, "java/lang/IndexOutOfBoundsException", hts _ (by decide +kernel), hN.1⟩) (by decide) (by decide) (hts _ (by decide +kernel)) ((hG.1 _ (by decide +kernel)).use rfl) hce hcv hcl ?_
  refine lv_astore (lv' := [(6, .ref q9), (0, .ref o0), (1, .int (iI z0)), (2, .int (iI z1)), (3, .int (iI z2)), (4, .int (iI z3)), (5, .ref u0)]) hx hb dL_keptSets_21 hl (by decide) rfl (fun ls hl => ?_)
  refine ib_const hx hb dL_keptSets_23 ?_
  exact W.iret hx hb hr (fun t ht _ => ⟨rfl, by rw [ht]; exact hz9, fun q h => by rw [ht]; exact hk9 q h⟩) (fun _ h => nomatch h) dL_keptSets_24

set_option maxHeartbeats 4000000 in
set_option maxRecDepth 100000 in
theorem mL_longestKept_x1 (l : Launch) (hfl : l.stackTraces = false) (dC : Nat → ClassId) (dI : Nat → Nat → Nat) (o0 : Nat) (a0 a1 q : Nat → Nat) (w : Nat) (hp0 : Pm a0) (hp1 : Pm a1) (hw : w ≤ 12) (hq : ∀ i, i < w → q i < 12) (hqd : ∀ i j, i < w → j < w → q i = q j → i = j) (u0 : Nat) (z0 z1 z2 : Int) (hz0 : inI z0) (hz1 : inI z1) (hz2 : inI z2) (hbad : ¬ (z0 = 0 ∨ z0 = 1)) : wb l yL_longestKept wsL_longestKept { frames := 8, cells := 1, slots := 6, locals := 133 } [.ref o0, .int (iI z0), .int (iI z1), .int (iI z2), .ref u0] (dC, dI) [(o0, .inr (0, [.long (pk a0), .long (pk a1), .long (pkn q w), .int (iI ((w : Nat) : Int))]))] [] (some (.int (iI 1))) := by
  refine mt_ofWH (cc := cL_longestKept) (maxL := 6) (ret := (some .int)) (hh := [(0, 12, 15, 13), (0, 12, 19, 15)]) (by decide +kernel) rfl ?_
  intro P0 e s m args below meth c s₁ B hml hv
  obtain ⟨rfl, hP, hK, hG, hN⟩ := hv
  have hx := B.exec
  have hb := B.bytes
  have hr := B.returns
  have hts := atoms_spec (ws := wsL_longestKept) B.pre
  have hown : s.vm.findClass RL = some m.cls := findClass_of_methodNamed B.named
  have hlocks := B.notSynchronized
  have hl := lv_entry ([.ref o0, .int (iI z0), .int (iI z1), .int (iI z2), .ref u0]) (n := 6) (Nat.le_of_ble_eq_true rfl)
  rw [lg_entry_eq]
  generalize (lg_sl ([.ref o0, .int (iI z0), .int (iI z1), .int (iI z2), .ref u0]) ++ List.replicate (6 - (lg_sl ([.ref o0, .int (iI z0), .int (iI z1), .int (iI z2), .ref u0])).length) Slot.unset).toArray = ls at hl ⊢
  have hl : lv_has ls 6 [(0, .ref o0), (1, .int (iI z0)), (2, .int (iI z1)), (3, .int (iI z2)), (4, .ref u0)] := hl
  refine lv_aload hx hb dL_longestKept_0 (lv_at hl 4 rfl) ?_
  refine ib_const hx hb dL_longestKept_2 ?_
  refine lv_aload_n hx hb dL_longestKept_3 rfl (lv_at hl 0 rfl) ?_
  refine lv_iload_n hx hb dL_longestKept_4 rfl (lv_at hl 1 rfl) ?_
  refine lv_iload_n hx hb dL_longestKept_5 rfl (lv_at hl 2 rfl) ?_
  refine lv_iload_n hx hb dL_longestKept_6 rfl (lv_at hl 3 rfl) ?_
  refine th_call (vx_runV (As := [.int (iI z0), .int (iI z1), .int (iI z2)]) (rest := [.int (iI 0), .ref u0]) ⟨hx, hb, hml, hown, hts⟩ (mX0_longestKept_x1 l hfl dC dI o0 a0 a1 q w hp0 hp1 hw hq hqd z0 z1 z2 hz0 hz1 hz2 hbad) (cwV 3 hts gL_longestKept_X0_longestKept rfl rfl rfl hvX0_longestKept ⟨Nat.le_of_ble_eq_true rfl, Nat.le_of_ble_eq_true rfl⟩) (xV_pre (ci := 0) (q0 := 0) hK hP hG rfl rfl rfl) rfl rfl hl.1 rfl (lv_room (Nat.le_of_ble_eq_true rfl)) dL_longestKept_7 ⟨Nat.le_of_ble_eq_true rfl, Nat.le_of_ble_eq_true rfl⟩) (fun ce q9 H1 hz9 hk9 hce hcv hcl => ?_)
  refine vx_catch (own := RL) (name := "java/lang/IndexOutOfBoundsException") (E := "java/lang/IndexOutOfBoundsException") hown [] ⟨0, 12, 15, 13⟩ [⟨0, 12, 19, 15⟩] (vx_table (x := yL_longestKept) (hh := [(0, 12, 15, 13), (0, 12, 19, 15)]) B (hts _ List.mem_cons_self)) (fun _ h => nomatch h) (by decide) (by decide) (hts _ (by decide +kernel)) ((hG.1 _ (by decide +kernel)).use rfl) hce hcv hcl ?_
  refine lv_astore (lv' := [(5, .ref q9), (0, .ref o0), (1, .int (iI z0)), (2, .int (iI z1)), (3, .int (iI z2)), (4, .ref u0)]) hx hb dL_longestKept_15 hl (by decide) rfl (fun ls hl => ?_)
  refine ib_const hx hb dL_longestKept_17 ?_
  exact W.iret hx hb hr (fun t ht _ => ⟨rfl, by rw [ht]; exact hz9, fun q h => by rw [ht]; exact hk9 q h⟩) (fun _ h => nomatch h) dL_longestKept_18

set_option maxHeartbeats 4000000 in
set_option maxRecDepth 100000 in
theorem mL_longestKept_x2 (l : Launch) (hfl : l.stackTraces = false) (dC : Nat → ClassId) (dI : Nat → Nat → Nat) (o0 : Nat) (a0 a1 q : Nat → Nat) (w : Nat) (hp0 : Pm a0) (hp1 : Pm a1) (hw : w ≤ 12) (hq : ∀ i, i < w → q i < 12) (hqd : ∀ i j, i < w → j < w → q i = q j → i = j) (u0 : Nat) (z0 z1 z2 : Int) (hz0 : inI z0) (hz1 : inI z1) (hz2 : inI z2) (hbad : (z0 = 0 ∨ z0 = 1) ∧ ¬ (0 ≤ z1 ∧ z1 ≤ 3 ∧ 0 ≤ z2 ∧ z2 ≤ 11)) : wb l yL_longestKept wsL_longestKept { frames := 9, cells := 1, slots := 6, locals := 156 } [.ref o0, .int (iI z0), .int (iI z1), .int (iI z2), .ref u0] (dC, dI) [(o0, .inr (0, [.long (pk a0), .long (pk a1), .long (pkn q w), .int (iI ((w : Nat) : Int))]))] [] (some (.int (iI 2))) := by
  refine mt_ofWH (cc := cL_longestKept) (maxL := 6) (ret := (some .int)) (hh := [(0, 12, 15, 13), (0, 12, 19, 15)]) (by decide +kernel) rfl ?_
  intro P0 e s m args below meth c s₁ B hml hv
  obtain ⟨rfl, hP, hK, hG, hN⟩ := hv
  have hx := B.exec
  have hb := B.bytes
  have hr := B.returns
  have hts := atoms_spec (ws := wsL_longestKept) B.pre
  have hown : s.vm.findClass RL = some m.cls := findClass_of_methodNamed B.named
  have hlocks := B.notSynchronized
  have hl := lv_entry ([.ref o0, .int (iI z0), .int (iI z1), .int (iI z2), .ref u0]) (n := 6) (Nat.le_of_ble_eq_true rfl)
  rw [lg_entry_eq]
  generalize (lg_sl ([.ref o0, .int (iI z0), .int (iI z1), .int (iI z2), .ref u0]) ++ List.replicate (6 - (lg_sl ([.ref o0, .int (iI z0), .int (iI z1), .int (iI z2), .ref u0])).length) Slot.unset).toArray = ls at hl ⊢
  have hl : lv_has ls 6 [(0, .ref o0), (1, .int (iI z0)), (2, .int (iI z1)), (3, .int (iI z2)), (4, .ref u0)] := hl
  refine lv_aload hx hb dL_longestKept_0 (lv_at hl 4 rfl) ?_
  refine ib_const hx hb dL_longestKept_2 ?_
  refine lv_aload_n hx hb dL_longestKept_3 rfl (lv_at hl 0 rfl) ?_
  refine lv_iload_n hx hb dL_longestKept_4 rfl (lv_at hl 1 rfl) ?_
  refine lv_iload_n hx hb dL_longestKept_5 rfl (lv_at hl 2 rfl) ?_
  refine lv_iload_n hx hb dL_longestKept_6 rfl (lv_at hl 3 rfl) ?_
  refine th_call (vx_runV (As := [.int (iI z0), .int (iI z1), .int (iI z2)]) (rest := [.int (iI 0), .ref u0]) ⟨hx, hb, hml, hown, hts⟩ (mX0_longestKept_x2 l hfl dC dI o0 a0 a1 q w hp0 hp1 hw hq hqd z0 z1 z2 hz0 hz1 hz2 hbad) (cwV 3 hts gL_longestKept_X0_longestKept rfl rfl rfl hvX0_longestKept ⟨Nat.le_of_ble_eq_true rfl, Nat.le_of_ble_eq_true rfl⟩) (xV_pre (ci := 0) (q0 := 0) hK hP hG rfl rfl rfl) rfl rfl hl.1 rfl (lv_room (Nat.le_of_ble_eq_true rfl)) dL_longestKept_7 ⟨Nat.le_of_ble_eq_true rfl, Nat.le_of_ble_eq_true rfl⟩) (fun ce q9 H1 hz9 hk9 hce hcv hcl => ?_)
  refine vx_catch (own := RL) (name := "java/lang/IllegalArgumentException") (E := "java/lang/IllegalArgumentException") hown [⟨0, 12, 15, 13⟩] ⟨0, 12, 19, 15⟩ [] (vx_table (x := yL_longestKept) (hh := [(0, 12, 15, 13), (0, 12, 19, 15)]) B (hts _ List.mem_cons_self)) (fun z hz => by rcases List.mem_singleton.mp hz with rfl; exact Or.inr ⟨by decide, "java/lang/IndexOutOfBoundsException", hts _ (by decide +kernel), hN.1⟩) (by decide) (by decide) (hts _ (by decide +kernel)) ((hG.1 _ (by decide +kernel)).use rfl) hce hcv hcl ?_
  refine lv_astore (lv' := [(5, .ref q9), (0, .ref o0), (1, .int (iI z0)), (2, .int (iI z1)), (3, .int (iI z2)), (4, .ref u0)]) hx hb dL_longestKept_19 hl (by decide) rfl (fun ls hl => ?_)
  refine ib_const hx hb dL_longestKept_21 ?_
  exact W.iret hx hb hr (fun t ht _ => ⟨rfl, by rw [ht]; exact hz9, fun q h => by rw [ht]; exact hk9 q h⟩) (fun _ h => nomatch h) dL_longestKept_22

set_option maxHeartbeats 4000000 in
set_option maxRecDepth 100000 in
theorem mL_mostKept_x1 (l : Launch) (hfl : l.stackTraces = false) (dC : Nat → ClassId) (dI : Nat → Nat → Nat) (o0 : Nat) (a0 a1 q : Nat → Nat) (w : Nat) (hp0 : Pm a0) (hp1 : Pm a1) (hw : w ≤ 12) (hq : ∀ i, i < w → q i < 12) (hqd : ∀ i j, i < w → j < w → q i = q j → i = j) (u0 : Nat) (z0 z1 : Int) (hz0 : inI z0) (hz1 : inI z1) (hbad : ¬ (z0 = 0 ∨ z0 = 1)) : wb l yL_mostKept wsL_mostKept { frames := 8, cells := 1, slots := 6, locals := 131 } [.ref o0, .int (iI z0), .int (iI z1), .ref u0] (dC, dI) [(o0, .inr (0, [.long (pk a0), .long (pk a1), .long (pkn q w), .int (iI ((w : Nat) : Int))]))] [] (some (.int (iI 1))) := by
  refine mt_ofWH (cc := cL_mostKept) (maxL := 5) (ret := (some .int)) (hh := [(0, 10, 13, 13), (0, 10, 17, 15)]) (by decide +kernel) rfl ?_
  intro P0 e s m args below meth c s₁ B hml hv
  obtain ⟨rfl, hP, hK, hG, hN⟩ := hv
  have hx := B.exec
  have hb := B.bytes
  have hr := B.returns
  have hts := atoms_spec (ws := wsL_mostKept) B.pre
  have hown : s.vm.findClass RL = some m.cls := findClass_of_methodNamed B.named
  have hlocks := B.notSynchronized
  have hl := lv_entry ([.ref o0, .int (iI z0), .int (iI z1), .ref u0]) (n := 5) (Nat.le_of_ble_eq_true rfl)
  rw [lg_entry_eq]
  generalize (lg_sl ([.ref o0, .int (iI z0), .int (iI z1), .ref u0]) ++ List.replicate (5 - (lg_sl ([.ref o0, .int (iI z0), .int (iI z1), .ref u0])).length) Slot.unset).toArray = ls at hl ⊢
  have hl : lv_has ls 5 [(0, .ref o0), (1, .int (iI z0)), (2, .int (iI z1)), (3, .ref u0)] := hl
  refine lv_aload_n hx hb dL_mostKept_0 rfl (lv_at hl 3 rfl) ?_
  refine ib_const hx hb dL_mostKept_1 ?_
  refine lv_aload_n hx hb dL_mostKept_2 rfl (lv_at hl 0 rfl) ?_
  refine lv_iload_n hx hb dL_mostKept_3 rfl (lv_at hl 1 rfl) ?_
  refine lv_iload_n hx hb dL_mostKept_4 rfl (lv_at hl 2 rfl) ?_
  refine th_call (vx_runV (As := [.int (iI z0), .int (iI z1)]) (rest := [.int (iI 0), .ref u0]) ⟨hx, hb, hml, hown, hts⟩ (mX0_mostKept_x1 l hfl dC dI o0 a0 a1 q w hp0 hp1 hw hq hqd z0 z1 hz0 hz1 hbad) (cwV 2 hts gL_mostKept_X0_mostKept rfl rfl rfl hvX0_mostKept ⟨Nat.le_of_ble_eq_true rfl, Nat.le_of_ble_eq_true rfl⟩) (xV_pre (ci := 0) (q0 := 0) hK hP hG rfl rfl rfl) rfl rfl hl.1 rfl (lv_room (Nat.le_of_ble_eq_true rfl)) dL_mostKept_5 ⟨Nat.le_of_ble_eq_true rfl, Nat.le_of_ble_eq_true rfl⟩) (fun ce q9 H1 hz9 hk9 hce hcv hcl => ?_)
  refine vx_catch (own := RL) (name := "java/lang/IndexOutOfBoundsException") (E := "java/lang/IndexOutOfBoundsException") hown [] ⟨0, 10, 13, 13⟩ [⟨0, 10, 17, 15⟩] (vx_table (x := yL_mostKept) (hh := [(0, 10, 13, 13), (0, 10, 17, 15)]) B (hts _ List.mem_cons_self)) (fun _ h => nomatch h) (by decide) (by decide) (hts _ (by decide +kernel)) ((hG.1 _ (by decide +kernel)).use rfl) hce hcv hcl ?_
  refine lv_astore (lv' := [(4, .ref q9), (0, .ref o0), (1, .int (iI z0)), (2, .int (iI z1)), (3, .ref u0)]) hx hb dL_mostKept_13 hl (by decide) rfl (fun ls hl => ?_)
  refine ib_const hx hb dL_mostKept_15 ?_
  exact W.iret hx hb hr (fun t ht _ => ⟨rfl, by rw [ht]; exact hz9, fun q h => by rw [ht]; exact hk9 q h⟩) (fun _ h => nomatch h) dL_mostKept_16

set_option maxHeartbeats 4000000 in
set_option maxRecDepth 100000 in
theorem mL_mostKept_x2 (l : Launch) (hfl : l.stackTraces = false) (dC : Nat → ClassId) (dI : Nat → Nat → Nat) (o0 : Nat) (a0 a1 q : Nat → Nat) (w : Nat) (hp0 : Pm a0) (hp1 : Pm a1) (hw : w ≤ 12) (hq : ∀ i, i < w → q i < 12) (hqd : ∀ i j, i < w → j < w → q i = q j → i = j) (u0 : Nat) (z0 z1 : Int) (hz0 : inI z0) (hz1 : inI z1) (hbad : (z0 = 0 ∨ z0 = 1) ∧ ¬ (2 ≤ z1 ∧ z1 ≤ 11)) : wb l yL_mostKept wsL_mostKept { frames := 8, cells := 1, slots := 6, locals := 133 } [.ref o0, .int (iI z0), .int (iI z1), .ref u0] (dC, dI) [(o0, .inr (0, [.long (pk a0), .long (pk a1), .long (pkn q w), .int (iI ((w : Nat) : Int))]))] [] (some (.int (iI 2))) := by
  refine mt_ofWH (cc := cL_mostKept) (maxL := 5) (ret := (some .int)) (hh := [(0, 10, 13, 13), (0, 10, 17, 15)]) (by decide +kernel) rfl ?_
  intro P0 e s m args below meth c s₁ B hml hv
  obtain ⟨rfl, hP, hK, hG, hN⟩ := hv
  have hx := B.exec
  have hb := B.bytes
  have hr := B.returns
  have hts := atoms_spec (ws := wsL_mostKept) B.pre
  have hown : s.vm.findClass RL = some m.cls := findClass_of_methodNamed B.named
  have hlocks := B.notSynchronized
  have hl := lv_entry ([.ref o0, .int (iI z0), .int (iI z1), .ref u0]) (n := 5) (Nat.le_of_ble_eq_true rfl)
  rw [lg_entry_eq]
  generalize (lg_sl ([.ref o0, .int (iI z0), .int (iI z1), .ref u0]) ++ List.replicate (5 - (lg_sl ([.ref o0, .int (iI z0), .int (iI z1), .ref u0])).length) Slot.unset).toArray = ls at hl ⊢
  have hl : lv_has ls 5 [(0, .ref o0), (1, .int (iI z0)), (2, .int (iI z1)), (3, .ref u0)] := hl
  refine lv_aload_n hx hb dL_mostKept_0 rfl (lv_at hl 3 rfl) ?_
  refine ib_const hx hb dL_mostKept_1 ?_
  refine lv_aload_n hx hb dL_mostKept_2 rfl (lv_at hl 0 rfl) ?_
  refine lv_iload_n hx hb dL_mostKept_3 rfl (lv_at hl 1 rfl) ?_
  refine lv_iload_n hx hb dL_mostKept_4 rfl (lv_at hl 2 rfl) ?_
  refine th_call (vx_runV (As := [.int (iI z0), .int (iI z1)]) (rest := [.int (iI 0), .ref u0]) ⟨hx, hb, hml, hown, hts⟩ (mX0_mostKept_x2 l hfl dC dI o0 a0 a1 q w hp0 hp1 hw hq hqd z0 z1 hz0 hz1 hbad) (cwV 2 hts gL_mostKept_X0_mostKept rfl rfl rfl hvX0_mostKept ⟨Nat.le_of_ble_eq_true rfl, Nat.le_of_ble_eq_true rfl⟩) (xV_pre (ci := 0) (q0 := 0) hK hP hG rfl rfl rfl) rfl rfl hl.1 rfl (lv_room (Nat.le_of_ble_eq_true rfl)) dL_mostKept_5 ⟨Nat.le_of_ble_eq_true rfl, Nat.le_of_ble_eq_true rfl⟩) (fun ce q9 H1 hz9 hk9 hce hcv hcl => ?_)
  refine vx_catch (own := RL) (name := "java/lang/IllegalArgumentException") (E := "java/lang/IllegalArgumentException") hown [⟨0, 10, 13, 13⟩] ⟨0, 10, 17, 15⟩ [] (vx_table (x := yL_mostKept) (hh := [(0, 10, 13, 13), (0, 10, 17, 15)]) B (hts _ List.mem_cons_self)) (fun z hz => by rcases List.mem_singleton.mp hz with rfl; exact Or.inr ⟨by decide, "java/lang/IndexOutOfBoundsException", hts _ (by decide +kernel), hN.1⟩) (by decide) (by decide) (hts _ (by decide +kernel)) ((hG.1 _ (by decide +kernel)).use rfl) hce hcv hcl ?_
  refine lv_astore (lv' := [(4, .ref q9), (0, .ref o0), (1, .int (iI z0)), (2, .int (iI z1)), (3, .ref u0)]) hx hb dL_mostKept_17 hl (by decide) rfl (fun ls hl => ?_)
  refine ib_const hx hb dL_mostKept_19 ?_
  exact W.iret hx hb hr (fun t ht _ => ⟨rfl, by rw [ht]; exact hz9, fun q h => by rw [ht]; exact hk9 q h⟩) (fun _ h => nomatch h) dL_mostKept_20

set_option maxHeartbeats 4000000 in
set_option maxRecDepth 100000 in
theorem mL_cuts_x1 (l : Launch) (hfl : l.stackTraces = false) (dC : Nat → ClassId) (dI : Nat → Nat → Nat) (o0 : Nat) (a0 a1 q : Nat → Nat) (w : Nat) (hp0 : Pm a0) (hp1 : Pm a1) (hw : w ≤ 12) (hq : ∀ i, i < w → q i < 12) (hqd : ∀ i j, i < w → j < w → q i = q j → i = j) (u0 : Nat) (z0 z1 : Int) (hz0 : inI z0) (hz1 : inI z1) (hbad : ¬ ((0 ≤ z0 ∧ z0 ≤ 47) ∧ (0 ≤ z1 ∧ z1 ≤ 47))) : wb l yL_cuts wsL_cuts { frames := 8, cells := 1, slots := 6, locals := 132 } [.ref o0, .int (iI z0), .int (iI z1), .ref u0] (dC, dI) [(o0, .inr (0, [.long (pk a0), .long (pk a1), .long (pkn q w), .int (iI ((w : Nat) : Int))]))] [] (some (.int (iI 1))) := by
  refine mt_ofWH (cc := cL_cuts) (maxL := 5) (ret := (some .int)) (hh := [(0, 10, 13, 15)]) (by decide +kernel) rfl ?_
  intro P0 e s m args below meth c s₁ B hml hv
  obtain ⟨rfl, hP, hK, hG, hN⟩ := hv
  have hx := B.exec
  have hb := B.bytes
  have hr := B.returns
  have hts := atoms_spec (ws := wsL_cuts) B.pre
  have hown : s.vm.findClass RL = some m.cls := findClass_of_methodNamed B.named
  have hlocks := B.notSynchronized
  have hl := lv_entry ([.ref o0, .int (iI z0), .int (iI z1), .ref u0]) (n := 5) (Nat.le_of_ble_eq_true rfl)
  rw [lg_entry_eq]
  generalize (lg_sl ([.ref o0, .int (iI z0), .int (iI z1), .ref u0]) ++ List.replicate (5 - (lg_sl ([.ref o0, .int (iI z0), .int (iI z1), .ref u0])).length) Slot.unset).toArray = ls at hl ⊢
  have hl : lv_has ls 5 [(0, .ref o0), (1, .int (iI z0)), (2, .int (iI z1)), (3, .ref u0)] := hl
  refine lv_aload_n hx hb dL_cuts_0 rfl (lv_at hl 3 rfl) ?_
  refine ib_const hx hb dL_cuts_1 ?_
  refine lv_aload_n hx hb dL_cuts_2 rfl (lv_at hl 0 rfl) ?_
  refine lv_iload_n hx hb dL_cuts_3 rfl (lv_at hl 1 rfl) ?_
  refine lv_iload_n hx hb dL_cuts_4 rfl (lv_at hl 2 rfl) ?_
  refine th_call (vx_runV (As := [.int (iI z0), .int (iI z1)]) (rest := [.int (iI 0), .ref u0]) ⟨hx, hb, hml, hown, hts⟩ (mX0_cuts_x1 l hfl dC dI o0 a0 a1 q w hp0 hp1 hw hq hqd z0 z1 hz0 hz1 hbad) (cwV 2 hts gL_cuts_X0_cuts rfl rfl rfl hvX0_cuts ⟨Nat.le_of_ble_eq_true rfl, Nat.le_of_ble_eq_true rfl⟩) (xV_pre (ci := 0) (q0 := 0) hK hP hG rfl rfl rfl) rfl rfl hl.1 rfl (lv_room (Nat.le_of_ble_eq_true rfl)) dL_cuts_5 ⟨Nat.le_of_ble_eq_true rfl, Nat.le_of_ble_eq_true rfl⟩) (fun ce q9 H1 hz9 hk9 hce hcv hcl => ?_)
  refine vx_catch (own := RL) (name := "java/lang/IllegalArgumentException") (E := "java/lang/IllegalArgumentException") hown [] ⟨0, 10, 13, 15⟩ [] (vx_table (x := yL_cuts) (hh := [(0, 10, 13, 15)]) B (hts _ List.mem_cons_self)) (fun _ h => nomatch h) (by decide) (by decide) (hts _ (by decide +kernel)) ((hG.1 _ (by decide +kernel)).use rfl) hce hcv hcl ?_
  refine lv_astore (lv' := [(4, .ref q9), (0, .ref o0), (1, .int (iI z0)), (2, .int (iI z1)), (3, .ref u0)]) hx hb dL_cuts_13 hl (by decide) rfl (fun ls hl => ?_)
  refine ib_const hx hb dL_cuts_15 ?_
  exact W.iret hx hb hr (fun t ht _ => ⟨rfl, by rw [ht]; exact hz9, fun q h => by rw [ht]; exact hk9 q h⟩) (fun _ h => nomatch h) dL_cuts_16

set_option maxHeartbeats 4000000 in
set_option maxRecDepth 100000 in
theorem mL_write_x1 (l : Launch) (hfl : l.stackTraces = false) (dC : Nat → ClassId) (dI : Nat → Nat → Nat) (o0 : Nat) (a0 a1 q : Nat → Nat) (w : Nat) (hp0 : Pm a0) (hp1 : Pm a1) (hw : w ≤ 12) (hq : ∀ i, i < w → q i < 12) (hqd : ∀ i j, i < w → j < w → q i = q j → i = j) (u0 : Nat) (z0 : Int) (hz0 : inI z0) (hbad : ¬ (0 ≤ z0 ∧ z0 ≤ 11)) : wb l yL_write wsL_write { frames := 8, cells := 1, slots := 6, locals := 125 } [.ref o0, .int (iI z0), .ref u0] (dC, dI) [(o0, .inr (0, [.long (pk a0), .long (pk a1), .long (pkn q w), .int (iI ((w : Nat) : Int))]))] [] (some (.int (iI 1))) := by
  refine mt_ofWH (cc := cL_write) (maxL := 4) (ret := (some .int)) (hh := [(0, 9, 12, 15), (0, 9, 15, 83)]) (by decide +kernel) rfl ?_
  intro P0 e s m args below meth c s₁ B hml hv
  obtain ⟨rfl, hP, hK, hG, hN⟩ := hv
  have hx := B.exec
  have hb := B.bytes
  have hr := B.returns
  have hts := atoms_spec (ws := wsL_write) B.pre
  have hown : s.vm.findClass RL = some m.cls := findClass_of_methodNamed B.named
  have hlocks := B.notSynchronized
  have hl := lv_entry ([.ref o0, .int (iI z0), .ref u0]) (n := 4) (Nat.le_of_ble_eq_true rfl)
  rw [lg_entry_eq]
  generalize (lg_sl ([.ref o0, .int (iI z0), .ref u0]) ++ List.replicate (4 - (lg_sl ([.ref o0, .int (iI z0), .ref u0])).length) Slot.unset).toArray = ls at hl ⊢
  have hl : lv_has ls 4 [(0, .ref o0), (1, .int (iI z0)), (2, .ref u0)] := hl
  refine lv_aload_n hx hb dL_write_0 rfl (lv_at hl 2 rfl) ?_
  refine ib_const hx hb dL_write_1 ?_
  refine lv_aload_n hx hb dL_write_2 rfl (lv_at hl 0 rfl) ?_
  refine lv_iload_n hx hb dL_write_3 rfl (lv_at hl 1 rfl) ?_
  refine th_call (vx_runV (As := [.int (iI z0)]) (rest := [.int (iI 0), .ref u0]) ⟨hx, hb, hml, hown, hts⟩ (mX0_write_x1 l hfl dC dI o0 a0 a1 q w hp0 hp1 hw hq hqd z0 hz0 hbad) (cwV 1 hts gL_write_X0_write rfl rfl rfl hvX0_write ⟨Nat.le_of_ble_eq_true rfl, Nat.le_of_ble_eq_true rfl⟩) (xV_pre (ci := 0) (q0 := 0) hK hP hG rfl rfl rfl) rfl rfl hl.1 rfl (lv_room (Nat.le_of_ble_eq_true rfl)) dL_write_4 ⟨Nat.le_of_ble_eq_true rfl, Nat.le_of_ble_eq_true rfl⟩) (fun ce q9 H1 hz9 hk9 hce hcv hcl => ?_)
  refine vx_catch (own := RL) (name := "java/lang/IllegalArgumentException") (E := "java/lang/IllegalArgumentException") hown [] ⟨0, 9, 12, 15⟩ [⟨0, 9, 15, 83⟩] (vx_table (x := yL_write) (hh := [(0, 9, 12, 15), (0, 9, 15, 83)]) B (hts _ List.mem_cons_self)) (fun _ h => nomatch h) (by decide) (by decide) (hts _ (by decide +kernel)) ((hG.1 _ (by decide +kernel)).use rfl) hce hcv hcl ?_
  refine lv_astore_n (lv' := [(3, .ref q9), (0, .ref o0), (1, .int (iI z0)), (2, .ref u0)]) hx hb dL_write_12 rfl hl (by decide) rfl (fun ls hl => ?_)
  refine ib_const hx hb dL_write_13 ?_
  exact W.iret hx hb hr (fun t ht _ => ⟨rfl, by rw [ht]; exact hz9, fun q h => by rw [ht]; exact hk9 q h⟩) (fun _ h => nomatch h) dL_write_14

set_option maxHeartbeats 4000000 in
set_option maxRecDepth 100000 in
theorem mL_formsWithPhrase_x1 (l : Launch) (hfl : l.stackTraces = false) (dC : Nat → ClassId) (dI : Nat → Nat → Nat) (o0 : Nat) (a0 a1 q : Nat → Nat) (w : Nat) (hp0 : Pm a0) (hp1 : Pm a1) (hw : w ≤ 12) (hq : ∀ i, i < w → q i < 12) (hqd : ∀ i j, i < w → j < w → q i = q j → i = j) (u0 : Nat) (z0 : Int) (hz0 : inI z0) (hbad : ¬ (z0 = 0 ∨ z0 = 1)) : wb l yL_formsWithPhrase wsL_formsWithPhrase { frames := 8, cells := 1, slots := 6, locals := 128 } [.ref o0, .int (iI z0), .ref u0] (dC, dI) [(o0, .inr (0, [.long (pk a0), .long (pk a1), .long (pkn q w), .int (iI ((w : Nat) : Int))]))] [] (some (.int (iI 1))) := by
  refine mt_ofWH (cc := cL_formsWithPhrase) (maxL := 4) (ret := (some .int)) (hh := [(0, 8, 11, 13)]) (by decide +kernel) rfl ?_
  intro P0 e s m args below meth c s₁ B hml hv
  obtain ⟨rfl, hP, hK, hG, hN⟩ := hv
  have hx := B.exec
  have hb := B.bytes
  have hr := B.returns
  have hts := atoms_spec (ws := wsL_formsWithPhrase) B.pre
  have hown : s.vm.findClass RL = some m.cls := findClass_of_methodNamed B.named
  have hlocks := B.notSynchronized
  have hl := lv_entry ([.ref o0, .int (iI z0), .ref u0]) (n := 4) (Nat.le_of_ble_eq_true rfl)
  rw [lg_entry_eq]
  generalize (lg_sl ([.ref o0, .int (iI z0), .ref u0]) ++ List.replicate (4 - (lg_sl ([.ref o0, .int (iI z0), .ref u0])).length) Slot.unset).toArray = ls at hl ⊢
  have hl : lv_has ls 4 [(0, .ref o0), (1, .int (iI z0)), (2, .ref u0)] := hl
  refine lv_aload_n hx hb dL_formsWithPhrase_0 rfl (lv_at hl 2 rfl) ?_
  refine ib_const hx hb dL_formsWithPhrase_1 ?_
  refine lv_aload_n hx hb dL_formsWithPhrase_2 rfl (lv_at hl 0 rfl) ?_
  refine lv_iload_n hx hb dL_formsWithPhrase_3 rfl (lv_at hl 1 rfl) ?_
  refine th_call (vx_runV (As := [.int (iI z0)]) (rest := [.int (iI 0), .ref u0]) ⟨hx, hb, hml, hown, hts⟩ (mX0_formsWithPhrase_x1 l hfl dC dI o0 a0 a1 q w hp0 hp1 hw hq hqd z0 hz0 hbad) (cwV 1 hts gL_formsWithPhrase_X0_formsWithPhrase rfl rfl rfl hvX0_formsWithPhrase ⟨Nat.le_of_ble_eq_true rfl, Nat.le_of_ble_eq_true rfl⟩) (xV_pre (ci := 0) (q0 := 0) hK hP hG rfl rfl rfl) rfl rfl hl.1 rfl (lv_room (Nat.le_of_ble_eq_true rfl)) dL_formsWithPhrase_4 ⟨Nat.le_of_ble_eq_true rfl, Nat.le_of_ble_eq_true rfl⟩) (fun ce q9 H1 hz9 hk9 hce hcv hcl => ?_)
  refine vx_catch (own := RL) (name := "java/lang/IndexOutOfBoundsException") (E := "java/lang/IndexOutOfBoundsException") hown [] ⟨0, 8, 11, 13⟩ [] (vx_table (x := yL_formsWithPhrase) (hh := [(0, 8, 11, 13)]) B (hts _ List.mem_cons_self)) (fun _ h => nomatch h) (by decide) (by decide) (hts _ (by decide +kernel)) ((hG.1 _ (by decide +kernel)).use rfl) hce hcv hcl ?_
  refine lv_astore_n (lv' := [(3, .ref q9), (0, .ref o0), (1, .int (iI z0)), (2, .ref u0)]) hx hb dL_formsWithPhrase_11 rfl hl (by decide) rfl (fun ls hl => ?_)
  refine ib_const hx hb dL_formsWithPhrase_12 ?_
  exact W.iret hx hb hr (fun t ht _ => ⟨rfl, by rw [ht]; exact hz9, fun q h => by rw [ht]; exact hk9 q h⟩) (fun _ h => nomatch h) dL_formsWithPhrase_13

set_option maxHeartbeats 4000000 in
set_option maxRecDepth 100000 in
theorem mL_placeOfPhrase_x1 (l : Launch) (hfl : l.stackTraces = false) (dC : Nat → ClassId) (dI : Nat → Nat → Nat) (o0 : Nat) (a0 a1 q : Nat → Nat) (w : Nat) (hp0 : Pm a0) (hp1 : Pm a1) (hw : w ≤ 12) (hq : ∀ i, i < w → q i < 12) (hqd : ∀ i j, i < w → j < w → q i = q j → i = j) (u0 : Nat) (z0 z1 : Int) (hz0 : inI z0) (hz1 : inI z1) (hbad : ¬ (z0 = 0 ∨ z0 = 1)) : wb l yL_placeOfPhrase wsL_placeOfPhrase { frames := 8, cells := 1, slots := 6, locals := 124 } [.ref o0, .int (iI z0), .int (iI z1), .ref u0] (dC, dI) [(o0, .inr (0, [.long (pk a0), .long (pk a1), .long (pkn q w), .int (iI ((w : Nat) : Int))]))] [] (some (.int (iI 1))) := by
  refine mt_ofWH (cc := cL_placeOfPhrase) (maxL := 5) (ret := (some .int)) (hh := [(0, 10, 13, 13), (0, 10, 17, 15)]) (by decide +kernel) rfl ?_
  intro P0 e s m args below meth c s₁ B hml hv
  obtain ⟨rfl, hP, hK, hG, hN⟩ := hv
  have hx := B.exec
  have hb := B.bytes
  have hr := B.returns
  have hts := atoms_spec (ws := wsL_placeOfPhrase) B.pre
  have hown : s.vm.findClass RL = some m.cls := findClass_of_methodNamed B.named
  have hlocks := B.notSynchronized
  have hl := lv_entry ([.ref o0, .int (iI z0), .int (iI z1), .ref u0]) (n := 5) (Nat.le_of_ble_eq_true rfl)
  rw [lg_entry_eq]
  generalize (lg_sl ([.ref o0, .int (iI z0), .int (iI z1), .ref u0]) ++ List.replicate (5 - (lg_sl ([.ref o0, .int (iI z0), .int (iI z1), .ref u0])).length) Slot.unset).toArray = ls at hl ⊢
  have hl : lv_has ls 5 [(0, .ref o0), (1, .int (iI z0)), (2, .int (iI z1)), (3, .ref u0)] := hl
  refine lv_aload_n hx hb dL_placeOfPhrase_0 rfl (lv_at hl 3 rfl) ?_
  refine ib_const hx hb dL_placeOfPhrase_1 ?_
  refine lv_aload_n hx hb dL_placeOfPhrase_2 rfl (lv_at hl 0 rfl) ?_
  refine lv_iload_n hx hb dL_placeOfPhrase_3 rfl (lv_at hl 1 rfl) ?_
  refine lv_iload_n hx hb dL_placeOfPhrase_4 rfl (lv_at hl 2 rfl) ?_
  refine th_call (vx_runV (As := [.int (iI z0), .int (iI z1)]) (rest := [.int (iI 0), .ref u0]) ⟨hx, hb, hml, hown, hts⟩ (mX0_placeOfPhrase_x1 l hfl dC dI o0 a0 a1 q w hp0 hp1 hw hq hqd z0 z1 hz0 hz1 hbad) (cwV 2 hts gL_placeOfPhrase_X0_placeOfPhrase rfl rfl rfl hvX0_placeOfPhrase ⟨Nat.le_of_ble_eq_true rfl, Nat.le_of_ble_eq_true rfl⟩) (xV_pre (ci := 0) (q0 := 0) hK hP hG rfl rfl rfl) rfl rfl hl.1 rfl (lv_room (Nat.le_of_ble_eq_true rfl)) dL_placeOfPhrase_5 ⟨Nat.le_of_ble_eq_true rfl, Nat.le_of_ble_eq_true rfl⟩) (fun ce q9 H1 hz9 hk9 hce hcv hcl => ?_)
  refine vx_catch (own := RL) (name := "java/lang/IndexOutOfBoundsException") (E := "java/lang/IndexOutOfBoundsException") hown [] ⟨0, 10, 13, 13⟩ [⟨0, 10, 17, 15⟩] (vx_table (x := yL_placeOfPhrase) (hh := [(0, 10, 13, 13), (0, 10, 17, 15)]) B (hts _ List.mem_cons_self)) (fun _ h => nomatch h) (by decide) (by decide) (hts _ (by decide +kernel)) ((hG.1 _ (by decide +kernel)).use rfl) hce hcv hcl ?_
  refine lv_astore (lv' := [(4, .ref q9), (0, .ref o0), (1, .int (iI z0)), (2, .int (iI z1)), (3, .ref u0)]) hx hb dL_placeOfPhrase_13 hl (by decide) rfl (fun ls hl => ?_)
  refine ib_const hx hb dL_placeOfPhrase_15 ?_
  exact W.iret hx hb hr (fun t ht _ => ⟨rfl, by rw [ht]; exact hz9, fun q h => by rw [ht]; exact hk9 q h⟩) (fun _ h => nomatch h) dL_placeOfPhrase_16

set_option maxHeartbeats 4000000 in
set_option maxRecDepth 100000 in
theorem mL_placeOfPhrase_x2 (l : Launch) (hfl : l.stackTraces = false) (dC : Nat → ClassId) (dI : Nat → Nat → Nat) (o0 : Nat) (a0 a1 q : Nat → Nat) (w : Nat) (hp0 : Pm a0) (hp1 : Pm a1) (hw : w ≤ 12) (hq : ∀ i, i < w → q i < 12) (hqd : ∀ i j, i < w → j < w → q i = q j → i = j) (u0 : Nat) (z0 z1 : Int) (hz0 : inI z0) (hz1 : inI z1) (hbad : (z0 = 0 ∨ z0 = 1) ∧ ¬ (0 ≤ z1 ∧ z1 ≤ 47)) : wb l yL_placeOfPhrase wsL_placeOfPhrase { frames := 8, cells := 1, slots := 6, locals := 126 } [.ref o0, .int (iI z0), .int (iI z1), .ref u0] (dC, dI) [(o0, .inr (0, [.long (pk a0), .long (pk a1), .long (pkn q w), .int (iI ((w : Nat) : Int))]))] [] (some (.int (iI 2))) := by
  refine mt_ofWH (cc := cL_placeOfPhrase) (maxL := 5) (ret := (some .int)) (hh := [(0, 10, 13, 13), (0, 10, 17, 15)]) (by decide +kernel) rfl ?_
  intro P0 e s m args below meth c s₁ B hml hv
  obtain ⟨rfl, hP, hK, hG, hN⟩ := hv
  have hx := B.exec
  have hb := B.bytes
  have hr := B.returns
  have hts := atoms_spec (ws := wsL_placeOfPhrase) B.pre
  have hown : s.vm.findClass RL = some m.cls := findClass_of_methodNamed B.named
  have hlocks := B.notSynchronized
  have hl := lv_entry ([.ref o0, .int (iI z0), .int (iI z1), .ref u0]) (n := 5) (Nat.le_of_ble_eq_true rfl)
  rw [lg_entry_eq]
  generalize (lg_sl ([.ref o0, .int (iI z0), .int (iI z1), .ref u0]) ++ List.replicate (5 - (lg_sl ([.ref o0, .int (iI z0), .int (iI z1), .ref u0])).length) Slot.unset).toArray = ls at hl ⊢
  have hl : lv_has ls 5 [(0, .ref o0), (1, .int (iI z0)), (2, .int (iI z1)), (3, .ref u0)] := hl
  refine lv_aload_n hx hb dL_placeOfPhrase_0 rfl (lv_at hl 3 rfl) ?_
  refine ib_const hx hb dL_placeOfPhrase_1 ?_
  refine lv_aload_n hx hb dL_placeOfPhrase_2 rfl (lv_at hl 0 rfl) ?_
  refine lv_iload_n hx hb dL_placeOfPhrase_3 rfl (lv_at hl 1 rfl) ?_
  refine lv_iload_n hx hb dL_placeOfPhrase_4 rfl (lv_at hl 2 rfl) ?_
  refine th_call (vx_runV (As := [.int (iI z0), .int (iI z1)]) (rest := [.int (iI 0), .ref u0]) ⟨hx, hb, hml, hown, hts⟩ (mX0_placeOfPhrase_x2 l hfl dC dI o0 a0 a1 q w hp0 hp1 hw hq hqd z0 z1 hz0 hz1 hbad) (cwV 2 hts gL_placeOfPhrase_X0_placeOfPhrase rfl rfl rfl hvX0_placeOfPhrase ⟨Nat.le_of_ble_eq_true rfl, Nat.le_of_ble_eq_true rfl⟩) (xV_pre (ci := 0) (q0 := 0) hK hP hG rfl rfl rfl) rfl rfl hl.1 rfl (lv_room (Nat.le_of_ble_eq_true rfl)) dL_placeOfPhrase_5 ⟨Nat.le_of_ble_eq_true rfl, Nat.le_of_ble_eq_true rfl⟩) (fun ce q9 H1 hz9 hk9 hce hcv hcl => ?_)
  refine vx_catch (own := RL) (name := "java/lang/IllegalArgumentException") (E := "java/lang/IllegalArgumentException") hown [⟨0, 10, 13, 13⟩] ⟨0, 10, 17, 15⟩ [] (vx_table (x := yL_placeOfPhrase) (hh := [(0, 10, 13, 13), (0, 10, 17, 15)]) B (hts _ List.mem_cons_self)) (fun z hz => by rcases List.mem_singleton.mp hz with rfl; exact Or.inr ⟨by decide, "java/lang/IndexOutOfBoundsException", hts _ (by decide +kernel), hN.1⟩) (by decide) (by decide) (hts _ (by decide +kernel)) ((hG.1 _ (by decide +kernel)).use rfl) hce hcv hcl ?_
  refine lv_astore (lv' := [(4, .ref q9), (0, .ref o0), (1, .int (iI z0)), (2, .int (iI z1)), (3, .ref u0)]) hx hb dL_placeOfPhrase_17 hl (by decide) rfl (fun ls hl => ?_)
  refine ib_const hx hb dL_placeOfPhrase_19 ?_
  exact W.iret hx hb hr (fun t ht _ => ⟨rfl, by rw [ht]; exact hz9, fun q h => by rw [ht]; exact hk9 q h⟩) (fun _ h => nomatch h) dL_placeOfPhrase_20

set_option maxHeartbeats 4000000 in
set_option maxRecDepth 100000 in
theorem mL_complete_x1 (l : Launch) (hfl : l.stackTraces = false) (dC : Nat → ClassId) (dI : Nat → Nat → Nat) (o0 : Nat) (a0 a1 q : Nat → Nat) (w : Nat) (hp0 : Pm a0) (hp1 : Pm a1) (hw : w ≤ 12) (hq : ∀ i, i < w → q i < 12) (hqd : ∀ i j, i < w → j < w → q i = q j → i = j) (u0 : Nat) (z0 : Int) (hz0 : inI z0) (hbad : ¬ (z0 = 0 ∨ z0 = 1)) : wb l yL_complete wsL_complete { frames := 8, cells := 1, slots := 6, locals := 130 } [.ref o0, .int (iI z0), .ref u0] (dC, dI) [(o0, .inr (0, [.long (pk a0), .long (pk a1), .long (pkn q w), .int (iI ((w : Nat) : Int))]))] [] (some (.int (iI 1))) := by
  refine mt_ofWH (cc := cL_complete) (maxL := 4) (ret := (some .int)) (hh := [(0, 9, 12, 13)]) (by decide +kernel) rfl ?_
  intro P0 e s m args below meth c s₁ B hml hv
  obtain ⟨rfl, hP, hK, hG, hN⟩ := hv
  have hx := B.exec
  have hb := B.bytes
  have hr := B.returns
  have hts := atoms_spec (ws := wsL_complete) B.pre
  have hown : s.vm.findClass RL = some m.cls := findClass_of_methodNamed B.named
  have hlocks := B.notSynchronized
  have hl := lv_entry ([.ref o0, .int (iI z0), .ref u0]) (n := 4) (Nat.le_of_ble_eq_true rfl)
  rw [lg_entry_eq]
  generalize (lg_sl ([.ref o0, .int (iI z0), .ref u0]) ++ List.replicate (4 - (lg_sl ([.ref o0, .int (iI z0), .ref u0])).length) Slot.unset).toArray = ls at hl ⊢
  have hl : lv_has ls 4 [(0, .ref o0), (1, .int (iI z0)), (2, .ref u0)] := hl
  refine lv_aload_n hx hb dL_complete_0 rfl (lv_at hl 2 rfl) ?_
  refine ib_const hx hb dL_complete_1 ?_
  refine lv_aload_n hx hb dL_complete_2 rfl (lv_at hl 0 rfl) ?_
  refine lv_iload_n hx hb dL_complete_3 rfl (lv_at hl 1 rfl) ?_
  refine th_call (vx_runV (As := [.int (iI z0)]) (rest := [.int (iI 0), .ref u0]) ⟨hx, hb, hml, hown, hts⟩ (mX0_complete_x1 l hfl dC dI o0 a0 a1 q w hp0 hp1 hw hq hqd z0 hz0 hbad) (cwV 1 hts gL_complete_X0_complete rfl rfl rfl hvX0_complete ⟨Nat.le_of_ble_eq_true rfl, Nat.le_of_ble_eq_true rfl⟩) (xV_pre (ci := 0) (q0 := 0) hK hP hG rfl rfl rfl) rfl rfl hl.1 rfl (lv_room (Nat.le_of_ble_eq_true rfl)) dL_complete_4 ⟨Nat.le_of_ble_eq_true rfl, Nat.le_of_ble_eq_true rfl⟩) (fun ce q9 H1 hz9 hk9 hce hcv hcl => ?_)
  refine vx_catch (own := RL) (name := "java/lang/IndexOutOfBoundsException") (E := "java/lang/IndexOutOfBoundsException") hown [] ⟨0, 9, 12, 13⟩ [] (vx_table (x := yL_complete) (hh := [(0, 9, 12, 13)]) B (hts _ List.mem_cons_self)) (fun _ h => nomatch h) (by decide) (by decide) (hts _ (by decide +kernel)) ((hG.1 _ (by decide +kernel)).use rfl) hce hcv hcl ?_
  refine lv_astore_n (lv' := [(3, .ref q9), (0, .ref o0), (1, .int (iI z0)), (2, .ref u0)]) hx hb dL_complete_12 rfl hl (by decide) rfl (fun ls hl => ?_)
  refine ib_const hx hb dL_complete_13 ?_
  exact W.iret hx hb hr (fun t ht _ => ⟨rfl, by rw [ht]; exact hz9, fun q h => by rw [ht]; exact hk9 q h⟩) (fun _ h => nomatch h) dL_complete_14

set_option maxHeartbeats 4000000 in
set_option maxRecDepth 100000 in
theorem mL_write_x2 (l : Launch) (hfl : l.stackTraces = false) (dC : Nat → ClassId) (dI : Nat → Nat → Nat) (o0 : Nat) (a0 a1 q : Nat → Nat) (w : Nat) (hp0 : Pm a0) (hp1 : Pm a1) (hw : w ≤ 12) (hq : ∀ i, i < w → q i < 12) (hqd : ∀ i j, i < w → j < w → q i = q j → i = j) (u0 : Nat) (t : Nat) (ht : t < 12) (hwr : orN (wtB q t) w = true) : wb l yL_write wsL_write { frames := 7, cells := 1, slots := 6, locals := 103 } [.ref o0, .int (iI ((t : Nat) : Int)), .ref u0] (dC, dI) [(o0, .inr (0, [.long (pk a0), .long (pk a1), .long (pkn q w), .int (iI ((w : Nat) : Int))]))] [] (some (.int (iI 2))) := by
  refine mt_ofWH (cc := cL_write) (maxL := 4) (ret := (some .int)) (hh := [(0, 9, 12, 15), (0, 9, 15, 83)]) (by decide +kernel) rfl ?_
  intro P0 e s m args below meth c s₁ B hml hv
  obtain ⟨rfl, hP, hK, hG, hN⟩ := hv
  have hx := B.exec
  have hb := B.bytes
  have hr := B.returns
  have hts := atoms_spec (ws := wsL_write) B.pre
  have hown : s.vm.findClass RL = some m.cls := findClass_of_methodNamed B.named
  have hlocks := B.notSynchronized
  have hl := lv_entry ([.ref o0, .int (iI ((t : Nat) : Int)), .ref u0]) (n := 4) (Nat.le_of_ble_eq_true rfl)
  rw [lg_entry_eq]
  generalize (lg_sl ([.ref o0, .int (iI ((t : Nat) : Int)), .ref u0]) ++ List.replicate (4 - (lg_sl ([.ref o0, .int (iI ((t : Nat) : Int)), .ref u0])).length) Slot.unset).toArray = ls at hl ⊢
  have hl : lv_has ls 4 [(0, .ref o0), (1, .int (iI ((t : Nat) : Int))), (2, .ref u0)] := hl
  refine lv_aload_n hx hb dL_write_0 rfl (lv_at hl 2 rfl) ?_
  refine ib_const hx hb dL_write_1 ?_
  refine lv_aload_n hx hb dL_write_2 rfl (lv_at hl 0 rfl) ?_
  refine lv_iload_n hx hb dL_write_3 rfl (lv_at hl 1 rfl) ?_
  refine th_call (vx_runV (As := [.int (iI ((t : Nat) : Int))]) (rest := [.int (iI 0), .ref u0]) ⟨hx, hb, hml, hown, hts⟩ (mX0_write_x2 l hfl dC dI o0 a0 a1 q w hp0 hp1 hw hq hqd t ht hwr) (cwV 1 hts gL_write_X0_write rfl rfl rfl hvX0_write ⟨Nat.le_of_ble_eq_true rfl, Nat.le_of_ble_eq_true rfl⟩) (xV_pre (ci := 0) (q0 := 0) hK hP hG rfl rfl rfl) rfl rfl hl.1 rfl (lv_room (Nat.le_of_ble_eq_true rfl)) dL_write_4 ⟨Nat.le_of_ble_eq_true rfl, Nat.le_of_ble_eq_true rfl⟩) (fun ce q9 H1 hz9 hk9 hce hcv hcl => ?_)
  refine vx_catch (own := RL) (name := "java/lang/IllegalStateException") (E := "java/lang/IllegalStateException") hown [⟨0, 9, 12, 15⟩] ⟨0, 9, 15, 83⟩ [] (vx_table (x := yL_write) (hh := [(0, 9, 12, 15), (0, 9, 15, 83)]) B (hts _ List.mem_cons_self)) (fun z hz => by rcases List.mem_singleton.mp hz with rfl; exact Or.inr ⟨by decide, "java/lang/IllegalArgumentException", hts _ (by decide +kernel), hN.2⟩) (by decide) (by decide) (hts _ (by decide +kernel)) ((hG.1 _ (by decide +kernel)).use rfl) hce hcv hcl ?_
  refine lv_astore_n (lv' := [(3, .ref q9), (0, .ref o0), (1, .int (iI ((t : Nat) : Int))), (2, .ref u0)]) hx hb dL_write_15 rfl hl (by decide) rfl (fun ls hl => ?_)
  refine ib_const hx hb dL_write_16 ?_
  exact W.iret hx hb hr (fun t ht _ => ⟨rfl, by rw [ht]; exact hz9, fun q h => by rw [ht]; exact hk9 q h⟩) (fun _ h => nomatch h) dL_write_17
