set_option maxHeartbeats 4000000 in
set_option maxRecDepth 100000 in
theorem mL_put_ok (l : Launch) (hfl : l.stackTraces = false) (dC : Nat → ClassId) (dI : Nat → Nat → Nat) (o0 : Nat) (a0 a1 q : Nat → Nat) (w : Nat) (hp0 : Pm a0) (hp1 : Pm a1) (hw : w ≤ 12) (hq : ∀ i, i < w → q i < 12) (hqd : ∀ i j, i < w → j < w → q i = q j → i = j) (r i t : Nat) (hr9 : r < 2) (hi : i < 12) (ht : t < 12) : ax l yL_put wsL_put { frames := 8, cells := 1, slots := 6, locals := 132 } [.ref o0, .int (iI ((r : Nat) : Int)), .int (iI ((i : Nat) : Int)), .int (iI ((t : Nat) : Int))] (dC, dI) [(o0, .inr (0, [.long (pk a0), .long (pk a1), .long (pkn q w), .int (iI ((w : Nat) : Int))]))] [(o0, .inr (0, [.long (pk (sr0 r (putF (rw_ r a0 a1) i t) a0)), .long (pk (sr1 r (putF (rw_ r a0 a1) i t) a1)), .long (pkn q w), .int (iI ((w : Nat) : Int))]))] (some (.int (iI ((rw_ r a0 a1 i : Nat) : Int)))) := by
  refine mt_ofWH (cc := cL_put) (maxL := 5) (ret := (some .int)) (hh := [(0, 7, 8, 14), (0, 7, 13, 17)]) (by decide +kernel) rfl ?_
  intro P0 e s m args below meth c s₁ B hml hv
  obtain ⟨rfl, hP, hK, hD0, hG, hN⟩ := hv
  have hx := B.exec
  have hb := B.bytes
  have hr := B.returns
  have hts := atoms_spec (ws := wsL_put) B.pre
  have hown : s.vm.findClass RL = some m.cls := findClass_of_methodNamed B.named
  have hlocks := B.notSynchronized
  have hD : va_D (inW [(o0, .inr (0, [.long (pk a0), .long (pk a1), .long (pkn q w), .int (iI ((w : Nat) : Int))]))]) [(o0, .inr (0, [.long (pk a0), .long (pk a1), .long (pkn q w), .int (iI ((w : Nat) : Int))]))] := va_D_in hD0
  have hS : va_S (inW [(o0, .inr (0, [.long (pk a0), .long (pk a1), .long (pkn q w), .int (iI ((w : Nat) : Int))]))]) s.heap s.heap [] := va_S.rf
  have hl := lv_entry ([.ref o0, .int (iI ((r : Nat) : Int)), .int (iI ((i : Nat) : Int)), .int (iI ((t : Nat) : Int))]) (n := 5) (Nat.le_of_ble_eq_true rfl)
  rw [lg_entry_eq]
  generalize (lg_sl ([.ref o0, .int (iI ((r : Nat) : Int)), .int (iI ((i : Nat) : Int)), .int (iI ((t : Nat) : Int))]) ++ List.replicate (5 - (lg_sl ([.ref o0, .int (iI ((r : Nat) : Int)), .int (iI ((i : Nat) : Int)), .int (iI ((t : Nat) : Int))])).length) Slot.unset).toArray = ls at hl ⊢
  have hl : lv_has ls 5 [(0, .ref o0), (1, .int (iI ((r : Nat) : Int))), (2, .int (iI ((i : Nat) : Int))), (3, .int (iI ((t : Nat) : Int)))] := hl
  refine lv_aload_n hx hb dL_put_0 rfl (lv_at hl 0 rfl) ?_
  refine lv_iload_n hx hb dL_put_1 rfl (lv_at hl 1 rfl) ?_
  refine lv_iload_n hx hb dL_put_2 rfl (lv_at hl 2 rfl) ?_
  refine lv_iload_n hx hb dL_put_3 rfl (lv_at hl 3 rfl) ?_
  refine wr_call (va_runV (As := [.int (iI ((r : Nat) : Int)), .int (iI ((i : Nat) : Int)), .int (iI ((t : Nat) : Int))]) (rest := []) ⟨hx, hb, hml, hown, hts⟩ (mX0_put_ok l dC dI o0 a0 a1 q w hp0 hp1 hw hq hqd r i t hr9 hi ht) (cwV 3 hts gL_put_X0_put rfl rfl rfl hvX0_put ⟨Nat.le_of_ble_eq_true rfl, Nat.le_of_ble_eq_true rfl⟩) (bD_pre (ci := 0) (q0 := 0) hK hP hD rfl rfl rfl) rfl rfl hl.1 rfl (lv_room (Nat.le_of_ble_eq_true rfl)) dL_put_4 ⟨Nat.le_of_ble_eq_true rfl, Nat.le_of_ble_eq_true rfl⟩) hS (fun q9 h => h) (fun H locs hP hz hk hS => ?_)
  refine W.widen (k := 1) (n := 6) (by omega) (by omega) ?_
  exact W.iret hx hb hr (fun t ht _ => ⟨rfl, by rw [ht]; exact hP, hS.F ht⟩) hS.2.2 dL_put_7

set_option maxHeartbeats 4000000 in
set_option maxRecDepth 100000 in
theorem mL_put_x1 (l : Launch) (hfl : l.stackTraces = false) (dC : Nat → ClassId) (dI : Nat → Nat → Nat) (o0 : Nat) (a0 a1 q : Nat → Nat) (w : Nat) (hp0 : Pm a0) (hp1 : Pm a1) (hw : w ≤ 12) (hq : ∀ i, i < w → q i < 12) (hqd : ∀ i j, i < w → j < w → q i = q j → i = j) (z0 z1 z2 : Int) (hz0 : inI z0) (hz1 : inI z1) (hz2 : inI z2) (hbad : ¬ ((z0 = 0 ∨ z0 = 1) ∧ (0 ≤ z1 ∧ z1 ≤ 11))) : ax l yL_put wsL_put { frames := 8, cells := 1, slots := 6, locals := 132 } [.ref o0, .int (iI z0), .int (iI z1), .int (iI z2)] (dC, dI) [(o0, .inr (0, [.long (pk a0), .long (pk a1), .long (pkn q w), .int (iI ((w : Nat) : Int))]))] [(o0, .inr (0, [.long (pk a0), .long (pk a1), .long (pkn q w), .int (iI ((w : Nat) : Int))]))] (some (.int (iI (-99999)))) := by
  refine mt_ofWH (cc := cL_put) (maxL := 5) (ret := (some .int)) (hh := [(0, 7, 8, 14), (0, 7, 13, 17)]) (by decide +kernel) rfl ?_
  intro P0 e s m args below meth c s₁ B hml hv
  obtain ⟨rfl, hP, hK, hD0, hG, hN⟩ := hv
  have hx := B.exec
  have hb := B.bytes
  have hr := B.returns
  have hts := atoms_spec (ws := wsL_put) B.pre
  have hown : s.vm.findClass RL = some m.cls := findClass_of_methodNamed B.named
  have hlocks := B.notSynchronized
  have hD : va_D (inW [(o0, .inr (0, [.long (pk a0), .long (pk a1), .long (pkn q w), .int (iI ((w : Nat) : Int))]))]) [(o0, .inr (0, [.long (pk a0), .long (pk a1), .long (pkn q w), .int (iI ((w : Nat) : Int))]))] := va_D_in hD0
  have hS : va_S (inW [(o0, .inr (0, [.long (pk a0), .long (pk a1), .long (pkn q w), .int (iI ((w : Nat) : Int))]))]) s.heap s.heap [] := va_S.rf
  have hl := lv_entry ([.ref o0, .int (iI z0), .int (iI z1), .int (iI z2)]) (n := 5) (Nat.le_of_ble_eq_true rfl)
  rw [lg_entry_eq]
  generalize (lg_sl ([.ref o0, .int (iI z0), .int (iI z1), .int (iI z2)]) ++ List.replicate (5 - (lg_sl ([.ref o0, .int (iI z0), .int (iI z1), .int (iI z2)])).length) Slot.unset).toArray = ls at hl ⊢
  have hl : lv_has ls 5 [(0, .ref o0), (1, .int (iI z0)), (2, .int (iI z1)), (3, .int (iI z2))] := hl
  refine lv_aload_n hx hb dL_put_0 rfl (lv_at hl 0 rfl) ?_
  refine lv_iload_n hx hb dL_put_1 rfl (lv_at hl 1 rfl) ?_
  refine lv_iload_n hx hb dL_put_2 rfl (lv_at hl 2 rfl) ?_
  refine lv_iload_n hx hb dL_put_3 rfl (lv_at hl 3 rfl) ?_
  refine th_call (vx_runV (As := [.int (iI z0), .int (iI z1), .int (iI z2)]) (rest := []) ⟨hx, hb, hml, hown, hts⟩ (mX0_put_x1 l hfl dC dI o0 a0 a1 q w hp0 hp1 hw hq hqd z0 z1 z2 hz0 hz1 hz2 hbad) (cwV 3 hts gL_put_X0_put rfl rfl rfl hvX0_put ⟨Nat.le_of_ble_eq_true rfl, Nat.le_of_ble_eq_true rfl⟩) (xV_pre (ci := 0) (q0 := 0) hK hP hG rfl rfl rfl) rfl rfl hl.1 rfl (lv_room (Nat.le_of_ble_eq_true rfl)) dL_put_4 ⟨Nat.le_of_ble_eq_true rfl, Nat.le_of_ble_eq_true rfl⟩) (fun ce q9 H1 hz9 hk9 hce hcv hcl => ?_)
  refine vx_catch (own := RL) (name := "java/lang/IndexOutOfBoundsException") (E := "java/lang/IndexOutOfBoundsException") hown [] ⟨0, 7, 8, 14⟩ [⟨0, 7, 13, 17⟩] (vx_table (x := yL_put) (hh := [(0, 7, 8, 14), (0, 7, 13, 17)]) B (hts _ List.mem_cons_self)) (fun _ h => nomatch h) (by decide) (by decide) (hts _ (by decide +kernel)) ((hG.1 _ (by decide +kernel)).use rfl) hce hcv hcl ?_
  refine lv_astore (lv' := [(4, .ref q9), (0, .ref o0), (1, .int (iI z0)), (2, .int (iI z1)), (3, .int (iI z2))]) hx hb dL_put_8 hl (by decide) rfl (fun ls hl => ?_)
  refine lv_ldc (v := -99999) hx hb hown (hts (.constant RL 16 (-99999)) (by decide +kernel)) dL_put_10 ?_
  refine st_i (y := iI (-99999)) (by decide) ?_
  exact W.iret hx hb hr (fun t ht _ => ⟨rfl, by rw [ht]; exact va_P_new hP hk9, ⟨by rw [ht]; exact hz9, fun q h _ => by rw [ht]; exact hk9 q h⟩⟩) (fun _ h => nomatch h) dL_put_12

set_option maxHeartbeats 4000000 in
set_option maxRecDepth 100000 in
theorem mL_put_x2 (l : Launch) (hfl : l.stackTraces = false) (dC : Nat → ClassId) (dI : Nat → Nat → Nat) (o0 : Nat) (a0 a1 q : Nat → Nat) (w : Nat) (hp0 : Pm a0) (hp1 : Pm a1) (hw : w ≤ 12) (hq : ∀ i, i < w → q i < 12) (hqd : ∀ i j, i < w → j < w → q i = q j → i = j) (z0 z1 z2 : Int) (hz0 : inI z0) (hz1 : inI z1) (hz2 : inI z2) (hbad : ((z0 = 0 ∨ z0 = 1) ∧ (0 ≤ z1 ∧ z1 ≤ 11)) ∧ ¬ (0 ≤ z2 ∧ z2 ≤ 11)) : ax l yL_put wsL_put { frames := 8, cells := 1, slots := 6, locals := 132 } [.ref o0, .int (iI z0), .int (iI z1), .int (iI z2)] (dC, dI) [(o0, .inr (0, [.long (pk a0), .long (pk a1), .long (pkn q w), .int (iI ((w : Nat) : Int))]))] [(o0, .inr (0, [.long (pk a0), .long (pk a1), .long (pkn q w), .int (iI ((w : Nat) : Int))]))] (some (.int (iI (-99999)))) := by
  refine mt_ofWH (cc := cL_put) (maxL := 5) (ret := (some .int)) (hh := [(0, 7, 8, 14), (0, 7, 13, 17)]) (by decide +kernel) rfl ?_
  intro P0 e s m args below meth c s₁ B hml hv
  obtain ⟨rfl, hP, hK, hD0, hG, hN⟩ := hv
  have hx := B.exec
  have hb := B.bytes
  have hr := B.returns
  have hts := atoms_spec (ws := wsL_put) B.pre
  have hown : s.vm.findClass RL = some m.cls := findClass_of_methodNamed B.named
  have hlocks := B.notSynchronized
  have hD : va_D (inW [(o0, .inr (0, [.long (pk a0), .long (pk a1), .long (pkn q w), .int (iI ((w : Nat) : Int))]))]) [(o0, .inr (0, [.long (pk a0), .long (pk a1), .long (pkn q w), .int (iI ((w : Nat) : Int))]))] := va_D_in hD0
  have hS : va_S (inW [(o0, .inr (0, [.long (pk a0), .long (pk a1), .long (pkn q w), .int (iI ((w : Nat) : Int))]))]) s.heap s.heap [] := va_S.rf
  have hl := lv_entry ([.ref o0, .int (iI z0), .int (iI z1), .int (iI z2)]) (n := 5) (Nat.le_of_ble_eq_true rfl)
  rw [lg_entry_eq]
  generalize (lg_sl ([.ref o0, .int (iI z0), .int (iI z1), .int (iI z2)]) ++ List.replicate (5 - (lg_sl ([.ref o0, .int (iI z0), .int (iI z1), .int (iI z2)])).length) Slot.unset).toArray = ls at hl ⊢
  have hl : lv_has ls 5 [(0, .ref o0), (1, .int (iI z0)), (2, .int (iI z1)), (3, .int (iI z2))] := hl
  refine lv_aload_n hx hb dL_put_0 rfl (lv_at hl 0 rfl) ?_
  refine lv_iload_n hx hb dL_put_1 rfl (lv_at hl 1 rfl) ?_
  refine lv_iload_n hx hb dL_put_2 rfl (lv_at hl 2 rfl) ?_
  refine lv_iload_n hx hb dL_put_3 rfl (lv_at hl 3 rfl) ?_
  refine th_call (vx_runV (As := [.int (iI z0), .int (iI z1), .int (iI z2)]) (rest := []) ⟨hx, hb, hml, hown, hts⟩ (mX0_put_x2 l hfl dC dI o0 a0 a1 q w hp0 hp1 hw hq hqd z0 z1 z2 hz0 hz1 hz2 hbad) (cwV 3 hts gL_put_X0_put rfl rfl rfl hvX0_put ⟨Nat.le_of_ble_eq_true rfl, Nat.le_of_ble_eq_true rfl⟩) (xV_pre (ci := 0) (q0 := 0) hK hP hG rfl rfl rfl) rfl rfl hl.1 rfl (lv_room (Nat.le_of_ble_eq_true rfl)) dL_put_4 ⟨Nat.le_of_ble_eq_true rfl, Nat.le_of_ble_eq_true rfl⟩) (fun ce q9 H1 hz9 hk9 hce hcv hcl => ?_)
  refine vx_catch (own := RL) (name := "java/lang/IllegalArgumentException") (E := "java/lang/IllegalArgumentException") hown [⟨0, 7, 8, 14⟩] ⟨0, 7, 13, 17⟩ [] (vx_table (x := yL_put) (hh := [(0, 7, 8, 14), (0, 7, 13, 17)]) B (hts _ List.mem_cons_self)) (fun z hz => by rcases List.mem_singleton.mp hz with rfl; exact Or.inr ⟨by decide, "java/lang/IndexOutOfBoundsException", hts _ (by decide +kernel), hN.1⟩) (by decide) (by decide) (hts _ (by decide +kernel)) ((hG.1 _ (by decide +kernel)).use rfl) hce hcv hcl ?_
  refine lv_astore (lv' := [(4, .ref q9), (0, .ref o0), (1, .int (iI z0)), (2, .int (iI z1)), (3, .int (iI z2))]) hx hb dL_put_13 hl (by decide) rfl (fun ls hl => ?_)
  refine lv_ldc (v := -99999) hx hb hown (hts (.constant RL 16 (-99999)) (by decide +kernel)) dL_put_15 ?_
  refine st_i (y := iI (-99999)) (by decide) ?_
  exact W.iret hx hb hr (fun t ht _ => ⟨rfl, by rw [ht]; exact va_P_new hP hk9, ⟨by rw [ht]; exact hz9, fun q h _ => by rw [ht]; exact hk9 q h⟩⟩) (fun _ h => nomatch h) dL_put_17

set_option maxHeartbeats 4000000 in
set_option maxRecDepth 100000 in
theorem mL_take_ok (l : Launch) (hfl : l.stackTraces = false) (dC : Nat → ClassId) (dI : Nat → Nat → Nat) (o0 : Nat) (a0 a1 q : Nat → Nat) (w : Nat) (hp0 : Pm a0) (hp1 : Pm a1) (hw : w ≤ 12) (hq : ∀ i, i < w → q i < 12) (hqd : ∀ i j, i < w → j < w → q i = q j → i = j) (r k i t : Nat) (hr9 : r < 2) (hk : k < 4) (hi : i < 12) (ht : t < 2) : ax l yL_take wsL_take { frames := 9, cells := 1, slots := 6, locals := 149 } [.ref o0, .int (iI ((r : Nat) : Int)), .int (iI ((k : Nat) : Int)), .int (iI ((i : Nat) : Int)), .int (iI ((t : Nat) : Int))] (dC, dI) [(o0, .inr (0, [.long (pk a0), .long (pk a1), .long (pkn q w), .int (iI ((w : Nat) : Int))]))] [(o0, .inr (0, [.long (pk (sr0 t (fm (rw_ r a0 a1) (12 * k + i)) a0)), .long (pk (sr1 t (fm (rw_ r a0 a1) (12 * k + i)) a1)), .long (pkn q w), .int (iI ((w : Nat) : Int))]))] (some (.int (iI ((fm (rw_ r a0 a1) (12 * k + i) 0 : Nat) : Int)))) := by
  refine mt_ofWH (cc := cL_take) (maxL := 6) (ret := (some .int)) (hh := [(0, 9, 10, 14), (0, 9, 15, 17)]) (by decide +kernel) rfl ?_
  intro P0 e s m args below meth c s₁ B hml hv
  obtain ⟨rfl, hP, hK, hD0, hG, hN⟩ := hv
  have hx := B.exec
  have hb := B.bytes
  have hr := B.returns
  have hts := atoms_spec (ws := wsL_take) B.pre
  have hown : s.vm.findClass RL = some m.cls := findClass_of_methodNamed B.named
  have hlocks := B.notSynchronized
  have hD : va_D (inW [(o0, .inr (0, [.long (pk a0), .long (pk a1), .long (pkn q w), .int (iI ((w : Nat) : Int))]))]) [(o0, .inr (0, [.long (pk a0), .long (pk a1), .long (pkn q w), .int (iI ((w : Nat) : Int))]))] := va_D_in hD0
  have hS : va_S (inW [(o0, .inr (0, [.long (pk a0), .long (pk a1), .long (pkn q w), .int (iI ((w : Nat) : Int))]))]) s.heap s.heap [] := va_S.rf
  have hl := lv_entry ([.ref o0, .int (iI ((r : Nat) : Int)), .int (iI ((k : Nat) : Int)), .int (iI ((i : Nat) : Int)), .int (iI ((t : Nat) : Int))]) (n := 6) (Nat.le_of_ble_eq_true rfl)
  rw [lg_entry_eq]
  generalize (lg_sl ([.ref o0, .int (iI ((r : Nat) : Int)), .int (iI ((k : Nat) : Int)), .int (iI ((i : Nat) : Int)), .int (iI ((t : Nat) : Int))]) ++ List.replicate (6 - (lg_sl ([.ref o0, .int (iI ((r : Nat) : Int)), .int (iI ((k : Nat) : Int)), .int (iI ((i : Nat) : Int)), .int (iI ((t : Nat) : Int))])).length) Slot.unset).toArray = ls at hl ⊢
  have hl : lv_has ls 6 [(0, .ref o0), (1, .int (iI ((r : Nat) : Int))), (2, .int (iI ((k : Nat) : Int))), (3, .int (iI ((i : Nat) : Int))), (4, .int (iI ((t : Nat) : Int)))] := hl
  refine lv_aload_n hx hb dL_take_0 rfl (lv_at hl 0 rfl) ?_
  refine lv_iload_n hx hb dL_take_1 rfl (lv_at hl 1 rfl) ?_
  refine lv_iload_n hx hb dL_take_2 rfl (lv_at hl 2 rfl) ?_
  refine lv_iload_n hx hb dL_take_3 rfl (lv_at hl 3 rfl) ?_
  refine lv_iload hx hb dL_take_4 (lv_at hl 4 rfl) ?_
  refine wr_call (va_runV (As := [.int (iI ((r : Nat) : Int)), .int (iI ((k : Nat) : Int)), .int (iI ((i : Nat) : Int)), .int (iI ((t : Nat) : Int))]) (rest := []) ⟨hx, hb, hml, hown, hts⟩ (mX0_take_ok l dC dI o0 a0 a1 q w hp0 hp1 hw hq hqd r k i t hr9 hk hi ht) (cwV 4 hts gL_take_X0_take rfl rfl rfl hvX0_take ⟨Nat.le_of_ble_eq_true rfl, Nat.le_of_ble_eq_true rfl⟩) (bD_pre (ci := 0) (q0 := 0) hK hP hD rfl rfl rfl) rfl rfl hl.1 rfl (lv_room (Nat.le_of_ble_eq_true rfl)) dL_take_6 ⟨Nat.le_of_ble_eq_true rfl, Nat.le_of_ble_eq_true rfl⟩) hS (fun q9 h => h) (fun H locs hP hz hk hS => ?_)
  refine W.widen (k := 1) (n := 6) (by omega) (by omega) ?_
  exact W.iret hx hb hr (fun t ht _ => ⟨rfl, by rw [ht]; exact hP, hS.F ht⟩) hS.2.2 dL_take_9

set_option maxHeartbeats 4000000 in
set_option maxRecDepth 100000 in
theorem mL_take_x1 (l : Launch) (hfl : l.stackTraces = false) (dC : Nat → ClassId) (dI : Nat → Nat → Nat) (o0 : Nat) (a0 a1 q : Nat → Nat) (w : Nat) (hp0 : Pm a0) (hp1 : Pm a1) (hw : w ≤ 12) (hq : ∀ i, i < w → q i < 12) (hqd : ∀ i j, i < w → j < w → q i = q j → i = j) (z0 z1 z2 z3 : Int) (hz0 : inI z0) (hz1 : inI z1) (hz2 : inI z2) (hz3 : inI z3) (hbad : ¬ ((z0 = 0 ∨ z0 = 1) ∧ (z3 = 0 ∨ z3 = 1))) : ax l yL_take wsL_take { frames := 9, cells := 1, slots := 6, locals := 149 } [.ref o0, .int (iI z0), .int (iI z1), .int (iI z2), .int (iI z3)] (dC, dI) [(o0, .inr (0, [.long (pk a0), .long (pk a1), .long (pkn q w), .int (iI ((w : Nat) : Int))]))] [(o0, .inr (0, [.long (pk a0), .long (pk a1), .long (pkn q w), .int (iI ((w : Nat) : Int))]))] (some (.int (iI (-99999)))) := by
  refine mt_ofWH (cc := cL_take) (maxL := 6) (ret := (some .int)) (hh := [(0, 9, 10, 14), (0, 9, 15, 17)]) (by decide +kernel) rfl ?_
  intro P0 e s m args below meth c s₁ B hml hv
  obtain ⟨rfl, hP, hK, hD0, hG, hN⟩ := hv
  have hx := B.exec
  have hb := B.bytes
  have hr := B.returns
  have hts := atoms_spec (ws := wsL_take) B.pre
  have hown : s.vm.findClass RL = some m.cls := findClass_of_methodNamed B.named
  have hlocks := B.notSynchronized
  have hD : va_D (inW [(o0, .inr (0, [.long (pk a0), .long (pk a1), .long (pkn q w), .int (iI ((w : Nat) : Int))]))]) [(o0, .inr (0, [.long (pk a0), .long (pk a1), .long (pkn q w), .int (iI ((w : Nat) : Int))]))] := va_D_in hD0
  have hS : va_S (inW [(o0, .inr (0, [.long (pk a0), .long (pk a1), .long (pkn q w), .int (iI ((w : Nat) : Int))]))]) s.heap s.heap [] := va_S.rf
  have hl := lv_entry ([.ref o0, .int (iI z0), .int (iI z1), .int (iI z2), .int (iI z3)]) (n := 6) (Nat.le_of_ble_eq_true rfl)
  rw [lg_entry_eq]
  generalize (lg_sl ([.ref o0, .int (iI z0), .int (iI z1), .int (iI z2), .int (iI z3)]) ++ List.replicate (6 - (lg_sl ([.ref o0, .int (iI z0), .int (iI z1), .int (iI z2), .int (iI z3)])).length) Slot.unset).toArray = ls at hl ⊢
  have hl : lv_has ls 6 [(0, .ref o0), (1, .int (iI z0)), (2, .int (iI z1)), (3, .int (iI z2)), (4, .int (iI z3))] := hl
  refine lv_aload_n hx hb dL_take_0 rfl (lv_at hl 0 rfl) ?_
  refine lv_iload_n hx hb dL_take_1 rfl (lv_at hl 1 rfl) ?_
  refine lv_iload_n hx hb dL_take_2 rfl (lv_at hl 2 rfl) ?_
  refine lv_iload_n hx hb dL_take_3 rfl (lv_at hl 3 rfl) ?_
  refine lv_iload hx hb dL_take_4 (lv_at hl 4 rfl) ?_
  refine th_call (vx_runV (As := [.int (iI z0), .int (iI z1), .int (iI z2), .int (iI z3)]) (rest := []) ⟨hx, hb, hml, hown, hts⟩ (mX0_take_x1 l hfl dC dI o0 a0 a1 q w hp0 hp1 hw hq hqd z0 z1 z2 z3 hz0 hz1 hz2 hz3 hbad) (cwV 4 hts gL_take_X0_take rfl rfl rfl hvX0_take ⟨Nat.le_of_ble_eq_true rfl, Nat.le_of_ble_eq_true rfl⟩) (xV_pre (ci := 0) (q0 := 0) hK hP hG rfl rfl rfl) rfl rfl hl.1 rfl (lv_room (Nat.le_of_ble_eq_true rfl)) dL_take_6 ⟨Nat.le_of_ble_eq_true rfl, Nat.le_of_ble_eq_true rfl⟩) (fun ce q9 H1 hz9 hk9 hce hcv hcl => ?_)
  refine vx_catch (own := RL) (name := "java/lang/IndexOutOfBoundsException") (E := "java/lang/IndexOutOfBoundsException") hown [] ⟨0, 9, 10, 14⟩ [⟨0, 9, 15, 17⟩] (vx_table (x := yL_take) (hh := [(0, 9, 10, 14), (0, 9, 15, 17)]) B (hts _ List.mem_cons_self)) (fun _ h => nomatch h) (by decide) (by decide) (hts _ (by decide +kernel)) ((hG.1 _ (by decide +kernel)).use rfl) hce hcv hcl ?_
  refine lv_astore (lv' := [(5, .ref q9), (0, .ref o0), (1, .int (iI z0)), (2, .int (iI z1)), (3, .int (iI z2)), (4, .int (iI z3))]) hx hb dL_take_10 hl (by decide) rfl (fun ls hl => ?_)
  refine lv_ldc (v := -99999) hx hb hown (hts (.constant RL 16 (-99999)) (by decide +kernel)) dL_take_12 ?_
  refine st_i (y := iI (-99999)) (by decide) ?_
  exact W.iret hx hb hr (fun t ht _ => ⟨rfl, by rw [ht]; exact va_P_new hP hk9, ⟨by rw [ht]; exact hz9, fun q h _ => by rw [ht]; exact hk9 q h⟩⟩) (fun _ h => nomatch h) dL_take_14

set_option maxHeartbeats 4000000 in
set_option maxRecDepth 100000 in
theorem mL_take_x2 (l : Launch) (hfl : l.stackTraces = false) (dC : Nat → ClassId) (dI : Nat → Nat → Nat) (o0 : Nat) (a0 a1 q : Nat → Nat) (w : Nat) (hp0 : Pm a0) (hp1 : Pm a1) (hw : w ≤ 12) (hq : ∀ i, i < w → q i < 12) (hqd : ∀ i j, i < w → j < w → q i = q j → i = j) (z0 z1 z2 z3 : Int) (hz0 : inI z0) (hz1 : inI z1) (hz2 : inI z2) (hz3 : inI z3) (hbad : ((z0 = 0 ∨ z0 = 1) ∧ (z3 = 0 ∨ z3 = 1)) ∧ ¬ (0 ≤ z1 ∧ z1 ≤ 3 ∧ 0 ≤ z2 ∧ z2 ≤ 11)) : ax l yL_take wsL_take { frames := 9, cells := 1, slots := 6, locals := 149 } [.ref o0, .int (iI z0), .int (iI z1), .int (iI z2), .int (iI z3)] (dC, dI) [(o0, .inr (0, [.long (pk a0), .long (pk a1), .long (pkn q w), .int (iI ((w : Nat) : Int))]))] [(o0, .inr (0, [.long (pk a0), .long (pk a1), .long (pkn q w), .int (iI ((w : Nat) : Int))]))] (some (.int (iI (-99999)))) := by
  refine mt_ofWH (cc := cL_take) (maxL := 6) (ret := (some .int)) (hh := [(0, 9, 10, 14), (0, 9, 15, 17)]) (by decide +kernel) rfl ?_
  intro P0 e s m args below meth c s₁ B hml hv
  obtain ⟨rfl, hP, hK, hD0, hG, hN⟩ := hv
  have hx := B.exec
  have hb := B.bytes
  have hr := B.returns
  have hts := atoms_spec (ws := wsL_take) B.pre
  have hown : s.vm.findClass RL = some m.cls := findClass_of_methodNamed B.named
  have hlocks := B.notSynchronized
  have hD : va_D (inW [(o0, .inr (0, [.long (pk a0), .long (pk a1), .long (pkn q w), .int (iI ((w : Nat) : Int))]))]) [(o0, .inr (0, [.long (pk a0), .long (pk a1), .long (pkn q w), .int (iI ((w : Nat) : Int))]))] := va_D_in hD0
  have hS : va_S (inW [(o0, .inr (0, [.long (pk a0), .long (pk a1), .long (pkn q w), .int (iI ((w : Nat) : Int))]))]) s.heap s.heap [] := va_S.rf
  have hl := lv_entry ([.ref o0, .int (iI z0), .int (iI z1), .int (iI z2), .int (iI z3)]) (n := 6) (Nat.le_of_ble_eq_true rfl)
  rw [lg_entry_eq]
  generalize (lg_sl ([.ref o0, .int (iI z0), .int (iI z1), .int (iI z2), .int (iI z3)]) ++ List.replicate (6 - (lg_sl ([.ref o0, .int (iI z0), .int (iI z1), .int (iI z2), .int (iI z3)])).length) Slot.unset).toArray = ls at hl ⊢
  have hl : lv_has ls 6 [(0, .ref o0), (1, .int (iI z0)), (2, .int (iI z1)), (3, .int (iI z2)), (4, .int (iI z3))] := hl
  refine lv_aload_n hx hb dL_take_0 rfl (lv_at hl 0 rfl) ?_
  refine lv_iload_n hx hb dL_take_1 rfl (lv_at hl 1 rfl) ?_
  refine lv_iload_n hx hb dL_take_2 rfl (lv_at hl 2 rfl) ?_
  refine lv_iload_n hx hb dL_take_3 rfl (lv_at hl 3 rfl) ?_
  refine lv_iload hx hb dL_take_4 (lv_at hl 4 rfl) ?_
  refine th_call (vx_runV (As := [.int (iI z0), .int (iI z1), .int (iI z2), .int (iI z3)]) (rest := []) ⟨hx, hb, hml, hown, hts⟩ (mX0_take_x2 l hfl dC dI o0 a0 a1 q w hp0 hp1 hw hq hqd z0 z1 z2 z3 hz0 hz1 hz2 hz3 hbad) (cwV 4 hts gL_take_X0_take rfl rfl rfl hvX0_take ⟨Nat.le_of_ble_eq_true rfl, Nat.le_of_ble_eq_true rfl⟩) (xV_pre (ci := 0) (q0 := 0) hK hP hG rfl rfl rfl) rfl rfl hl.1 rfl (lv_room (Nat.le_of_ble_eq_true rfl)) dL_take_6 ⟨Nat.le_of_ble_eq_true rfl, Nat.le_of_ble_eq_true rfl⟩) (fun ce q9 H1 hz9 hk9 hce hcv hcl => ?_)
  refine vx_catch (own := RL) (name := "java/lang/IllegalArgumentException") (E := "java/lang/IllegalArgumentException") hown [⟨0, 9, 10, 14⟩] ⟨0, 9, 15, 17⟩ [] (vx_table (x := yL_take) (hh := [(0, 9, 10, 14), (0, 9, 15, 17)]) B (hts _ List.mem_cons_self)) (fun z hz => by rcases List.mem_singleton.mp hz with rfl; exact Or.inr ⟨by decide, "java/lang/IndexOutOfBoundsException", hts _ (by decide +kernel), hN.1⟩) (by decide) (by decide) (hts _ (by decide +kernel)) ((hG.1 _ (by decide +kernel)).use rfl) hce hcv hcl ?_
  refine lv_astore (lv' := [(5, .ref q9), (0, .ref o0), (1, .int (iI z0)), (2, .int (iI z1)), (3, .int (iI z2)), (4, .int (iI z3))]) hx hb dL_take_15 hl (by decide) rfl (fun ls hl => ?_)
  refine lv_ldc (v := -99999) hx hb hown (hts (.constant RL 16 (-99999)) (by decide +kernel)) dL_take_17 ?_
  refine st_i (y := iI (-99999)) (by decide) ?_
  exact W.iret hx hb hr (fun t ht _ => ⟨rfl, by rw [ht]; exact va_P_new hP hk9, ⟨by rw [ht]; exact hz9, fun q h _ => by rw [ht]; exact hk9 q h⟩⟩) (fun _ h => nomatch h) dL_take_19

set_option maxHeartbeats 4000000 in
set_option maxRecDepth 100000 in
theorem mL_multiply_ok (l : Launch) (hfl : l.stackTraces = false) (dC : Nat → ClassId) (dI : Nat → Nat → Nat) (o0 : Nat) (a0 a1 q : Nat → Nat) (w : Nat) (hp0 : Pm a0) (hp1 : Pm a1) (hw : w ≤ 12) (hq : ∀ i, i < w → q i < 12) (hqd : ∀ i j, i < w → j < w → q i = q j → i = j) (r f : Nat) (hr9 : r < 2) (hf : f = 1 ∨ f = 5 ∨ f = 7 ∨ f = 11) : ax l yL_multiply wsL_multiply { frames := 8, cells := 1, slots := 6, locals := 129 } [.ref o0, .int (iI ((r : Nat) : Int)), .int (iI ((f : Nat) : Int))] (dC, dI) [(o0, .inr (0, [.long (pk a0), .long (pk a1), .long (pkn q w), .int (iI ((w : Nat) : Int))]))] [(o0, .inr (0, [.long (pk (sr0 r (mulF (rw_ r a0 a1) f) a0)), .long (pk (sr1 r (mulF (rw_ r a0 a1) f) a1)), .long (pkn q w), .int (iI ((w : Nat) : Int))]))] (some (.int (iI ((mulF (rw_ r a0 a1) f 0 : Nat) : Int)))) := by
  refine mt_ofWH (cc := cL_multiply) (maxL := 4) (ret := (some .int)) (hh := [(0, 6, 7, 14), (0, 6, 11, 17)]) (by decide +kernel) rfl ?_
  intro P0 e s m args below meth c s₁ B hml hv
  obtain ⟨rfl, hP, hK, hD0, hG, hN⟩ := hv
  have hx := B.exec
  have hb := B.bytes
  have hr := B.returns
  have hts := atoms_spec (ws := wsL_multiply) B.pre
  have hown : s.vm.findClass RL = some m.cls := findClass_of_methodNamed B.named
  have hlocks := B.notSynchronized
  have hD : va_D (inW [(o0, .inr (0, [.long (pk a0), .long (pk a1), .long (pkn q w), .int (iI ((w : Nat) : Int))]))]) [(o0, .inr (0, [.long (pk a0), .long (pk a1), .long (pkn q w), .int (iI ((w : Nat) : Int))]))] := va_D_in hD0
  have hS : va_S (inW [(o0, .inr (0, [.long (pk a0), .long (pk a1), .long (pkn q w), .int (iI ((w : Nat) : Int))]))]) s.heap s.heap [] := va_S.rf
  have hl := lv_entry ([.ref o0, .int (iI ((r : Nat) : Int)), .int (iI ((f : Nat) : Int))]) (n := 4) (Nat.le_of_ble_eq_true rfl)
  rw [lg_entry_eq]
  generalize (lg_sl ([.ref o0, .int (iI ((r : Nat) : Int)), .int (iI ((f : Nat) : Int))]) ++ List.replicate (4 - (lg_sl ([.ref o0, .int (iI ((r : Nat) : Int)), .int (iI ((f : Nat) : Int))])).length) Slot.unset).toArray = ls at hl ⊢
  have hl : lv_has ls 4 [(0, .ref o0), (1, .int (iI ((r : Nat) : Int))), (2, .int (iI ((f : Nat) : Int)))] := hl
  refine lv_aload_n hx hb dL_multiply_0 rfl (lv_at hl 0 rfl) ?_
  refine lv_iload_n hx hb dL_multiply_1 rfl (lv_at hl 1 rfl) ?_
  refine lv_iload_n hx hb dL_multiply_2 rfl (lv_at hl 2 rfl) ?_
  refine wr_call (va_runV (As := [.int (iI ((r : Nat) : Int)), .int (iI ((f : Nat) : Int))]) (rest := []) ⟨hx, hb, hml, hown, hts⟩ (mX0_multiply_ok l dC dI o0 a0 a1 q w hp0 hp1 hw hq hqd r f hr9 hf) (cwV 2 hts gL_multiply_X0_multiply rfl rfl rfl hvX0_multiply ⟨Nat.le_of_ble_eq_true rfl, Nat.le_of_ble_eq_true rfl⟩) (bD_pre (ci := 0) (q0 := 0) hK hP hD rfl rfl rfl) rfl rfl hl.1 rfl (lv_room (Nat.le_of_ble_eq_true rfl)) dL_multiply_3 ⟨Nat.le_of_ble_eq_true rfl, Nat.le_of_ble_eq_true rfl⟩) hS (fun q9 h => h) (fun H locs hP hz hk hS => ?_)
  refine W.widen (k := 1) (n := 6) (by omega) (by omega) ?_
  exact W.iret hx hb hr (fun t ht _ => ⟨rfl, by rw [ht]; exact hP, hS.F ht⟩) hS.2.2 dL_multiply_6

set_option maxHeartbeats 4000000 in
set_option maxRecDepth 100000 in
theorem mL_multiply_x1 (l : Launch) (hfl : l.stackTraces = false) (dC : Nat → ClassId) (dI : Nat → Nat → Nat) (o0 : Nat) (a0 a1 q : Nat → Nat) (w : Nat) (hp0 : Pm a0) (hp1 : Pm a1) (hw : w ≤ 12) (hq : ∀ i, i < w → q i < 12) (hqd : ∀ i j, i < w → j < w → q i = q j → i = j) (z0 z1 : Int) (hz0 : inI z0) (hz1 : inI z1) (hbad : ¬ (z0 = 0 ∨ z0 = 1)) : ax l yL_multiply wsL_multiply { frames := 8, cells := 1, slots := 6, locals := 129 } [.ref o0, .int (iI z0), .int (iI z1)] (dC, dI) [(o0, .inr (0, [.long (pk a0), .long (pk a1), .long (pkn q w), .int (iI ((w : Nat) : Int))]))] [(o0, .inr (0, [.long (pk a0), .long (pk a1), .long (pkn q w), .int (iI ((w : Nat) : Int))]))] (some (.int (iI (-99999)))) := by
  refine mt_ofWH (cc := cL_multiply) (maxL := 4) (ret := (some .int)) (hh := [(0, 6, 7, 14), (0, 6, 11, 17)]) (by decide +kernel) rfl ?_
  intro P0 e s m args below meth c s₁ B hml hv
  obtain ⟨rfl, hP, hK, hD0, hG, hN⟩ := hv
  have hx := B.exec
  have hb := B.bytes
  have hr := B.returns
  have hts := atoms_spec (ws := wsL_multiply) B.pre
  have hown : s.vm.findClass RL = some m.cls := findClass_of_methodNamed B.named
  have hlocks := B.notSynchronized
  have hD : va_D (inW [(o0, .inr (0, [.long (pk a0), .long (pk a1), .long (pkn q w), .int (iI ((w : Nat) : Int))]))]) [(o0, .inr (0, [.long (pk a0), .long (pk a1), .long (pkn q w), .int (iI ((w : Nat) : Int))]))] := va_D_in hD0
  have hS : va_S (inW [(o0, .inr (0, [.long (pk a0), .long (pk a1), .long (pkn q w), .int (iI ((w : Nat) : Int))]))]) s.heap s.heap [] := va_S.rf
  have hl := lv_entry ([.ref o0, .int (iI z0), .int (iI z1)]) (n := 4) (Nat.le_of_ble_eq_true rfl)
  rw [lg_entry_eq]
  generalize (lg_sl ([.ref o0, .int (iI z0), .int (iI z1)]) ++ List.replicate (4 - (lg_sl ([.ref o0, .int (iI z0), .int (iI z1)])).length) Slot.unset).toArray = ls at hl ⊢
  have hl : lv_has ls 4 [(0, .ref o0), (1, .int (iI z0)), (2, .int (iI z1))] := hl
  refine lv_aload_n hx hb dL_multiply_0 rfl (lv_at hl 0 rfl) ?_
  refine lv_iload_n hx hb dL_multiply_1 rfl (lv_at hl 1 rfl) ?_
  refine lv_iload_n hx hb dL_multiply_2 rfl (lv_at hl 2 rfl) ?_
  refine th_call (vx_runV (As := [.int (iI z0), .int (iI z1)]) (rest := []) ⟨hx, hb, hml, hown, hts⟩ (mX0_multiply_x1 l hfl dC dI o0 a0 a1 q w hp0 hp1 hw hq hqd z0 z1 hz0 hz1 hbad) (cwV 2 hts gL_multiply_X0_multiply rfl rfl rfl hvX0_multiply ⟨Nat.le_of_ble_eq_true rfl, Nat.le_of_ble_eq_true rfl⟩) (xV_pre (ci := 0) (q0 := 0) hK hP hG rfl rfl rfl) rfl rfl hl.1 rfl (lv_room (Nat.le_of_ble_eq_true rfl)) dL_multiply_3 ⟨Nat.le_of_ble_eq_true rfl, Nat.le_of_ble_eq_true rfl⟩) (fun ce q9 H1 hz9 hk9 hce hcv hcl => ?_)
  refine vx_catch (own := RL) (name := "java/lang/IndexOutOfBoundsException") (E := "java/lang/IndexOutOfBoundsException") hown [] ⟨0, 6, 7, 14⟩ [⟨0, 6, 11, 17⟩] (vx_table (x := yL_multiply) (hh := [(0, 6, 7, 14), (0, 6, 11, 17)]) B (hts _ List.mem_cons_self)) (fun _ h => nomatch h) (by decide) (by decide) (hts _ (by decide +kernel)) ((hG.1 _ (by decide +kernel)).use rfl) hce hcv hcl ?_
  refine lv_astore_n (lv' := [(3, .ref q9), (0, .ref o0), (1, .int (iI z0)), (2, .int (iI z1))]) hx hb dL_multiply_7 rfl hl (by decide) rfl (fun ls hl => ?_)
  refine lv_ldc (v := -99999) hx hb hown (hts (.constant RL 16 (-99999)) (by decide +kernel)) dL_multiply_8 ?_
  refine st_i (y := iI (-99999)) (by decide) ?_
  exact W.iret hx hb hr (fun t ht _ => ⟨rfl, by rw [ht]; exact va_P_new hP hk9, ⟨by rw [ht]; exact hz9, fun q h _ => by rw [ht]; exact hk9 q h⟩⟩) (fun _ h => nomatch h) dL_multiply_10

set_option maxHeartbeats 4000000 in
set_option maxRecDepth 100000 in
theorem mL_multiply_x2 (l : Launch) (hfl : l.stackTraces = false) (dC : Nat → ClassId) (dI : Nat → Nat → Nat) (o0 : Nat) (a0 a1 q : Nat → Nat) (w : Nat) (hp0 : Pm a0) (hp1 : Pm a1) (hw : w ≤ 12) (hq : ∀ i, i < w → q i < 12) (hqd : ∀ i j, i < w → j < w → q i = q j → i = j) (z0 z1 : Int) (hz0 : inI z0) (hz1 : inI z1) (hbad : (z0 = 0 ∨ z0 = 1) ∧ ¬ (z1 = 1 ∨ z1 = 5 ∨ z1 = 7 ∨ z1 = 11)) : ax l yL_multiply wsL_multiply { frames := 8, cells := 1, slots := 6, locals := 129 } [.ref o0, .int (iI z0), .int (iI z1)] (dC, dI) [(o0, .inr (0, [.long (pk a0), .long (pk a1), .long (pkn q w), .int (iI ((w : Nat) : Int))]))] [(o0, .inr (0, [.long (pk a0), .long (pk a1), .long (pkn q w), .int (iI ((w : Nat) : Int))]))] (some (.int (iI (-99999)))) := by
  refine mt_ofWH (cc := cL_multiply) (maxL := 4) (ret := (some .int)) (hh := [(0, 6, 7, 14), (0, 6, 11, 17)]) (by decide +kernel) rfl ?_
  intro P0 e s m args below meth c s₁ B hml hv
  obtain ⟨rfl, hP, hK, hD0, hG, hN⟩ := hv
  have hx := B.exec
  have hb := B.bytes
  have hr := B.returns
  have hts := atoms_spec (ws := wsL_multiply) B.pre
  have hown : s.vm.findClass RL = some m.cls := findClass_of_methodNamed B.named
  have hlocks := B.notSynchronized
  have hD : va_D (inW [(o0, .inr (0, [.long (pk a0), .long (pk a1), .long (pkn q w), .int (iI ((w : Nat) : Int))]))]) [(o0, .inr (0, [.long (pk a0), .long (pk a1), .long (pkn q w), .int (iI ((w : Nat) : Int))]))] := va_D_in hD0
  have hS : va_S (inW [(o0, .inr (0, [.long (pk a0), .long (pk a1), .long (pkn q w), .int (iI ((w : Nat) : Int))]))]) s.heap s.heap [] := va_S.rf
  have hl := lv_entry ([.ref o0, .int (iI z0), .int (iI z1)]) (n := 4) (Nat.le_of_ble_eq_true rfl)
  rw [lg_entry_eq]
  generalize (lg_sl ([.ref o0, .int (iI z0), .int (iI z1)]) ++ List.replicate (4 - (lg_sl ([.ref o0, .int (iI z0), .int (iI z1)])).length) Slot.unset).toArray = ls at hl ⊢
  have hl : lv_has ls 4 [(0, .ref o0), (1, .int (iI z0)), (2, .int (iI z1))] := hl
  refine lv_aload_n hx hb dL_multiply_0 rfl (lv_at hl 0 rfl) ?_
  refine lv_iload_n hx hb dL_multiply_1 rfl (lv_at hl 1 rfl) ?_
  refine lv_iload_n hx hb dL_multiply_2 rfl (lv_at hl 2 rfl) ?_
  refine th_call (vx_runV (As := [.int (iI z0), .int (iI z1)]) (rest := []) ⟨hx, hb, hml, hown, hts⟩ (mX0_multiply_x2 l hfl dC dI o0 a0 a1 q w hp0 hp1 hw hq hqd z0 z1 hz0 hz1 hbad) (cwV 2 hts gL_multiply_X0_multiply rfl rfl rfl hvX0_multiply ⟨Nat.le_of_ble_eq_true rfl, Nat.le_of_ble_eq_true rfl⟩) (xV_pre (ci := 0) (q0 := 0) hK hP hG rfl rfl rfl) rfl rfl hl.1 rfl (lv_room (Nat.le_of_ble_eq_true rfl)) dL_multiply_3 ⟨Nat.le_of_ble_eq_true rfl, Nat.le_of_ble_eq_true rfl⟩) (fun ce q9 H1 hz9 hk9 hce hcv hcl => ?_)
  refine vx_catch (own := RL) (name := "java/lang/IllegalArgumentException") (E := "java/lang/IllegalArgumentException") hown [⟨0, 6, 7, 14⟩] ⟨0, 6, 11, 17⟩ [] (vx_table (x := yL_multiply) (hh := [(0, 6, 7, 14), (0, 6, 11, 17)]) B (hts _ List.mem_cons_self)) (fun z hz => by rcases List.mem_singleton.mp hz with rfl; exact Or.inr ⟨by decide, "java/lang/IndexOutOfBoundsException", hts _ (by decide +kernel), hN.1⟩) (by decide) (by decide) (hts _ (by decide +kernel)) ((hG.1 _ (by decide +kernel)).use rfl) hce hcv hcl ?_
  refine lv_astore_n (lv' := [(3, .ref q9), (0, .ref o0), (1, .int (iI z0)), (2, .int (iI z1))]) hx hb dL_multiply_11 rfl hl (by decide) rfl (fun ls hl => ?_)
  refine lv_ldc (v := -99999) hx hb hown (hts (.constant RL 16 (-99999)) (by decide +kernel)) dL_multiply_12 ?_
  refine st_i (y := iI (-99999)) (by decide) ?_
  exact W.iret hx hb hr (fun t ht _ => ⟨rfl, by rw [ht]; exact va_P_new hP hk9, ⟨by rw [ht]; exact hz9, fun q h _ => by rw [ht]; exact hk9 q h⟩⟩) (fun _ h => nomatch h) dL_multiply_14

set_option maxHeartbeats 4000000 in
set_option maxRecDepth 100000 in
theorem mL_rotate_ok (l : Launch) (hfl : l.stackTraces = false) (dC : Nat → ClassId) (dI : Nat → Nat → Nat) (o0 : Nat) (a0 a1 q : Nat → Nat) (w : Nat) (hp0 : Pm a0) (hp1 : Pm a1) (hw : w ≤ 12) (hq : ∀ i, i < w → q i < 12) (hqd : ∀ i j, i < w → j < w → q i = q j → i = j) (r b : Nat) (hr9 : r < 2) (hb9 : b < 12) : ax l yL_rotate wsL_rotate { frames := 8, cells := 1, slots := 6, locals := 131 } [.ref o0, .int (iI ((r : Nat) : Int)), .int (iI ((b : Nat) : Int))] (dC, dI) [(o0, .inr (0, [.long (pk a0), .long (pk a1), .long (pkn q w), .int (iI ((w : Nat) : Int))]))] [(o0, .inr (0, [.long (pk (sr0 r (rotF (rw_ r a0 a1) b) a0)), .long (pk (sr1 r (rotF (rw_ r a0 a1) b) a1)), .long (pkn q w), .int (iI ((w : Nat) : Int))]))] (some (.int (iI ((rotF (rw_ r a0 a1) b 0 : Nat) : Int)))) := by
  refine mt_ofWH (cc := cL_rotate) (maxL := 4) (ret := (some .int)) (hh := [(0, 6, 7, 14), (0, 6, 11, 17)]) (by decide +kernel) rfl ?_
  intro P0 e s m args below meth c s₁ B hml hv
  obtain ⟨rfl, hP, hK, hD0, hG, hN⟩ := hv
  have hx := B.exec
  have hb := B.bytes
  have hr := B.returns
  have hts := atoms_spec (ws := wsL_rotate) B.pre
  have hown : s.vm.findClass RL = some m.cls := findClass_of_methodNamed B.named
  have hlocks := B.notSynchronized
  have hD : va_D (inW [(o0, .inr (0, [.long (pk a0), .long (pk a1), .long (pkn q w), .int (iI ((w : Nat) : Int))]))]) [(o0, .inr (0, [.long (pk a0), .long (pk a1), .long (pkn q w), .int (iI ((w : Nat) : Int))]))] := va_D_in hD0
  have hS : va_S (inW [(o0, .inr (0, [.long (pk a0), .long (pk a1), .long (pkn q w), .int (iI ((w : Nat) : Int))]))]) s.heap s.heap [] := va_S.rf
  have hl := lv_entry ([.ref o0, .int (iI ((r : Nat) : Int)), .int (iI ((b : Nat) : Int))]) (n := 4) (Nat.le_of_ble_eq_true rfl)
  rw [lg_entry_eq]
  generalize (lg_sl ([.ref o0, .int (iI ((r : Nat) : Int)), .int (iI ((b : Nat) : Int))]) ++ List.replicate (4 - (lg_sl ([.ref o0, .int (iI ((r : Nat) : Int)), .int (iI ((b : Nat) : Int))])).length) Slot.unset).toArray = ls at hl ⊢
  have hl : lv_has ls 4 [(0, .ref o0), (1, .int (iI ((r : Nat) : Int))), (2, .int (iI ((b : Nat) : Int)))] := hl
  refine lv_aload_n hx hb dL_rotate_0 rfl (lv_at hl 0 rfl) ?_
  refine lv_iload_n hx hb dL_rotate_1 rfl (lv_at hl 1 rfl) ?_
  refine lv_iload_n hx hb dL_rotate_2 rfl (lv_at hl 2 rfl) ?_
  refine wr_call (va_runV (As := [.int (iI ((r : Nat) : Int)), .int (iI ((b : Nat) : Int))]) (rest := []) ⟨hx, hb, hml, hown, hts⟩ (mX0_rotate_ok l dC dI o0 a0 a1 q w hp0 hp1 hw hq hqd r b hr9 hb9) (cwV 2 hts gL_rotate_X0_rotate rfl rfl rfl hvX0_rotate ⟨Nat.le_of_ble_eq_true rfl, Nat.le_of_ble_eq_true rfl⟩) (bD_pre (ci := 0) (q0 := 0) hK hP hD rfl rfl rfl) rfl rfl hl.1 rfl (lv_room (Nat.le_of_ble_eq_true rfl)) dL_rotate_3 ⟨Nat.le_of_ble_eq_true rfl, Nat.le_of_ble_eq_true rfl⟩) hS (fun q9 h => h) (fun H locs hP hz hk hS => ?_)
  refine W.widen (k := 1) (n := 6) (by omega) (by omega) ?_
  exact W.iret hx hb hr (fun t ht _ => ⟨rfl, by rw [ht]; exact hP, hS.F ht⟩) hS.2.2 dL_rotate_6

set_option maxHeartbeats 4000000 in
set_option maxRecDepth 100000 in
theorem mL_rotate_x1 (l : Launch) (hfl : l.stackTraces = false) (dC : Nat → ClassId) (dI : Nat → Nat → Nat) (o0 : Nat) (a0 a1 q : Nat → Nat) (w : Nat) (hp0 : Pm a0) (hp1 : Pm a1) (hw : w ≤ 12) (hq : ∀ i, i < w → q i < 12) (hqd : ∀ i j, i < w → j < w → q i = q j → i = j) (z0 z1 : Int) (hz0 : inI z0) (hz1 : inI z1) (hbad : ¬ (z0 = 0 ∨ z0 = 1)) : ax l yL_rotate wsL_rotate { frames := 8, cells := 1, slots := 6, locals := 131 } [.ref o0, .int (iI z0), .int (iI z1)] (dC, dI) [(o0, .inr (0, [.long (pk a0), .long (pk a1), .long (pkn q w), .int (iI ((w : Nat) : Int))]))] [(o0, .inr (0, [.long (pk a0), .long (pk a1), .long (pkn q w), .int (iI ((w : Nat) : Int))]))] (some (.int (iI (-99999)))) := by
  refine mt_ofWH (cc := cL_rotate) (maxL := 4) (ret := (some .int)) (hh := [(0, 6, 7, 14), (0, 6, 11, 17)]) (by decide +kernel) rfl ?_
  intro P0 e s m args below meth c s₁ B hml hv
  obtain ⟨rfl, hP, hK, hD0, hG, hN⟩ := hv
  have hx := B.exec
  have hb := B.bytes
  have hr := B.returns
  have hts := atoms_spec (ws := wsL_rotate) B.pre
  have hown : s.vm.findClass RL = some m.cls := findClass_of_methodNamed B.named
  have hlocks := B.notSynchronized
  have hD : va_D (inW [(o0, .inr (0, [.long (pk a0), .long (pk a1), .long (pkn q w), .int (iI ((w : Nat) : Int))]))]) [(o0, .inr (0, [.long (pk a0), .long (pk a1), .long (pkn q w), .int (iI ((w : Nat) : Int))]))] := va_D_in hD0
  have hS : va_S (inW [(o0, .inr (0, [.long (pk a0), .long (pk a1), .long (pkn q w), .int (iI ((w : Nat) : Int))]))]) s.heap s.heap [] := va_S.rf
  have hl := lv_entry ([.ref o0, .int (iI z0), .int (iI z1)]) (n := 4) (Nat.le_of_ble_eq_true rfl)
  rw [lg_entry_eq]
  generalize (lg_sl ([.ref o0, .int (iI z0), .int (iI z1)]) ++ List.replicate (4 - (lg_sl ([.ref o0, .int (iI z0), .int (iI z1)])).length) Slot.unset).toArray = ls at hl ⊢
  have hl : lv_has ls 4 [(0, .ref o0), (1, .int (iI z0)), (2, .int (iI z1))] := hl
  refine lv_aload_n hx hb dL_rotate_0 rfl (lv_at hl 0 rfl) ?_
  refine lv_iload_n hx hb dL_rotate_1 rfl (lv_at hl 1 rfl) ?_
  refine lv_iload_n hx hb dL_rotate_2 rfl (lv_at hl 2 rfl) ?_
  refine th_call (vx_runV (As := [.int (iI z0), .int (iI z1)]) (rest := []) ⟨hx, hb, hml, hown, hts⟩ (mX0_rotate_x1 l hfl dC dI o0 a0 a1 q w hp0 hp1 hw hq hqd z0 z1 hz0 hz1 hbad) (cwV 2 hts gL_rotate_X0_rotate rfl rfl rfl hvX0_rotate ⟨Nat.le_of_ble_eq_true rfl, Nat.le_of_ble_eq_true rfl⟩) (xV_pre (ci := 0) (q0 := 0) hK hP hG rfl rfl rfl) rfl rfl hl.1 rfl (lv_room (Nat.le_of_ble_eq_true rfl)) dL_rotate_3 ⟨Nat.le_of_ble_eq_true rfl, Nat.le_of_ble_eq_true rfl⟩) (fun ce q9 H1 hz9 hk9 hce hcv hcl => ?_)
  refine vx_catch (own := RL) (name := "java/lang/IndexOutOfBoundsException") (E := "java/lang/IndexOutOfBoundsException") hown [] ⟨0, 6, 7, 14⟩ [⟨0, 6, 11, 17⟩] (vx_table (x := yL_rotate) (hh := [(0, 6, 7, 14), (0, 6, 11, 17)]) B (hts _ List.mem_cons_self)) (fun _ h => nomatch h) (by decide) (by decide) (hts _ (by decide +kernel)) ((hG.1 _ (by decide +kernel)).use rfl) hce hcv hcl ?_
  refine lv_astore_n (lv' := [(3, .ref q9), (0, .ref o0), (1, .int (iI z0)), (2, .int (iI z1))]) hx hb dL_rotate_7 rfl hl (by decide) rfl (fun ls hl => ?_)
  refine lv_ldc (v := -99999) hx hb hown (hts (.constant RL 16 (-99999)) (by decide +kernel)) dL_rotate_8 ?_
  refine st_i (y := iI (-99999)) (by decide) ?_
  exact W.iret hx hb hr (fun t ht _ => ⟨rfl, by rw [ht]; exact va_P_new hP hk9, ⟨by rw [ht]; exact hz9, fun q h _ => by rw [ht]; exact hk9 q h⟩⟩) (fun _ h => nomatch h) dL_rotate_10

set_option maxHeartbeats 4000000 in
set_option maxRecDepth 100000 in
theorem mL_rotate_x2 (l : Launch) (hfl : l.stackTraces = false) (dC : Nat → ClassId) (dI : Nat → Nat → Nat) (o0 : Nat) (a0 a1 q : Nat → Nat) (w : Nat) (hp0 : Pm a0) (hp1 : Pm a1) (hw : w ≤ 12) (hq : ∀ i, i < w → q i < 12) (hqd : ∀ i j, i < w → j < w → q i = q j → i = j) (z0 z1 : Int) (hz0 : inI z0) (hz1 : inI z1) (hbad : (z0 = 0 ∨ z0 = 1) ∧ ¬ (0 ≤ z1 ∧ z1 ≤ 11)) : ax l yL_rotate wsL_rotate { frames := 8, cells := 1, slots := 6, locals := 131 } [.ref o0, .int (iI z0), .int (iI z1)] (dC, dI) [(o0, .inr (0, [.long (pk a0), .long (pk a1), .long (pkn q w), .int (iI ((w : Nat) : Int))]))] [(o0, .inr (0, [.long (pk a0), .long (pk a1), .long (pkn q w), .int (iI ((w : Nat) : Int))]))] (some (.int (iI (-99999)))) := by
  refine mt_ofWH (cc := cL_rotate) (maxL := 4) (ret := (some .int)) (hh := [(0, 6, 7, 14), (0, 6, 11, 17)]) (by decide +kernel) rfl ?_
  intro P0 e s m args below meth c s₁ B hml hv
  obtain ⟨rfl, hP, hK, hD0, hG, hN⟩ := hv
  have hx := B.exec
  have hb := B.bytes
  have hr := B.returns
  have hts := atoms_spec (ws := wsL_rotate) B.pre
  have hown : s.vm.findClass RL = some m.cls := findClass_of_methodNamed B.named
  have hlocks := B.notSynchronized
  have hD : va_D (inW [(o0, .inr (0, [.long (pk a0), .long (pk a1), .long (pkn q w), .int (iI ((w : Nat) : Int))]))]) [(o0, .inr (0, [.long (pk a0), .long (pk a1), .long (pkn q w), .int (iI ((w : Nat) : Int))]))] := va_D_in hD0
  have hS : va_S (inW [(o0, .inr (0, [.long (pk a0), .long (pk a1), .long (pkn q w), .int (iI ((w : Nat) : Int))]))]) s.heap s.heap [] := va_S.rf
  have hl := lv_entry ([.ref o0, .int (iI z0), .int (iI z1)]) (n := 4) (Nat.le_of_ble_eq_true rfl)
  rw [lg_entry_eq]
  generalize (lg_sl ([.ref o0, .int (iI z0), .int (iI z1)]) ++ List.replicate (4 - (lg_sl ([.ref o0, .int (iI z0), .int (iI z1)])).length) Slot.unset).toArray = ls at hl ⊢
  have hl : lv_has ls 4 [(0, .ref o0), (1, .int (iI z0)), (2, .int (iI z1))] := hl
  refine lv_aload_n hx hb dL_rotate_0 rfl (lv_at hl 0 rfl) ?_
  refine lv_iload_n hx hb dL_rotate_1 rfl (lv_at hl 1 rfl) ?_
  refine lv_iload_n hx hb dL_rotate_2 rfl (lv_at hl 2 rfl) ?_
  refine th_call (vx_runV (As := [.int (iI z0), .int (iI z1)]) (rest := []) ⟨hx, hb, hml, hown, hts⟩ (mX0_rotate_x2 l hfl dC dI o0 a0 a1 q w hp0 hp1 hw hq hqd z0 z1 hz0 hz1 hbad) (cwV 2 hts gL_rotate_X0_rotate rfl rfl rfl hvX0_rotate ⟨Nat.le_of_ble_eq_true rfl, Nat.le_of_ble_eq_true rfl⟩) (xV_pre (ci := 0) (q0 := 0) hK hP hG rfl rfl rfl) rfl rfl hl.1 rfl (lv_room (Nat.le_of_ble_eq_true rfl)) dL_rotate_3 ⟨Nat.le_of_ble_eq_true rfl, Nat.le_of_ble_eq_true rfl⟩) (fun ce q9 H1 hz9 hk9 hce hcv hcl => ?_)
  refine vx_catch (own := RL) (name := "java/lang/IllegalArgumentException") (E := "java/lang/IllegalArgumentException") hown [⟨0, 6, 7, 14⟩] ⟨0, 6, 11, 17⟩ [] (vx_table (x := yL_rotate) (hh := [(0, 6, 7, 14), (0, 6, 11, 17)]) B (hts _ List.mem_cons_self)) (fun z hz => by rcases List.mem_singleton.mp hz with rfl; exact Or.inr ⟨by decide, "java/lang/IndexOutOfBoundsException", hts _ (by decide +kernel), hN.1⟩) (by decide) (by decide) (hts _ (by decide +kernel)) ((hG.1 _ (by decide +kernel)).use rfl) hce hcv hcl ?_
  refine lv_astore_n (lv' := [(3, .ref q9), (0, .ref o0), (1, .int (iI z0)), (2, .int (iI z1))]) hx hb dL_rotate_11 rfl hl (by decide) rfl (fun ls hl => ?_)
  refine lv_ldc (v := -99999) hx hb hown (hts (.constant RL 16 (-99999)) (by decide +kernel)) dL_rotate_12 ?_
  refine st_i (y := iI (-99999)) (by decide) ?_
  exact W.iret hx hb hr (fun t ht _ => ⟨rfl, by rw [ht]; exact va_P_new hP hk9, ⟨by rw [ht]; exact hz9, fun q h _ => by rw [ht]; exact hk9 q h⟩⟩) (fun _ h => nomatch h) dL_rotate_14

set_option maxHeartbeats 4000000 in
set_option maxRecDepth 100000 in
theorem mL_write_ok (l : Launch) (hfl : l.stackTraces = false) (dC : Nat → ClassId) (dI : Nat → Nat → Nat) (o0 : Nat) (a0 a1 q : Nat → Nat) (w : Nat) (hp0 : Pm a0) (hp1 : Pm a1) (hw : w ≤ 12) (hq : ∀ i, i < w → q i < 12) (hqd : ∀ i j, i < w → j < w → q i = q j → i = j) (t : Nat) (ht : t < 12) (hnw : ¬ orN (wtB q t) w = true) (hw12 : w < 12) : ax l yL_write wsL_write { frames := 8, cells := 1, slots := 6, locals := 125 } [.ref o0, .int (iI ((t : Nat) : Int))] (dC, dI) [(o0, .inr (0, [.long (pk a0), .long (pk a1), .long (pkn q w), .int (iI ((w : Nat) : Int))]))] [(o0, .inr (0, [.long (pk a0), .long (pk a1), .long (pkn (upq q w t) (w + 1)), .int (iI ((w + 1 : Nat) : Int))]))] (some (.int (iI ((w + 1 : Nat) : Int)))) := by
  refine mt_ofWH (cc := cL_write) (maxL := 3) (ret := (some .int)) (hh := [(0, 5, 6, 17), (0, 5, 10, 34)]) (by decide +kernel) rfl ?_
  intro P0 e s m args below meth c s₁ B hml hv
  obtain ⟨rfl, hP, hK, hD0, hG, hN⟩ := hv
  have hx := B.exec
  have hb := B.bytes
  have hr := B.returns
  have hts := atoms_spec (ws := wsL_write) B.pre
  have hown : s.vm.findClass RL = some m.cls := findClass_of_methodNamed B.named
  have hlocks := B.notSynchronized
  have hD : va_D (inW [(o0, .inr (0, [.long (pk a0), .long (pk a1), .long (pkn q w), .int (iI ((w : Nat) : Int))]))]) [(o0, .inr (0, [.long (pk a0), .long (pk a1), .long (pkn q w), .int (iI ((w : Nat) : Int))]))] := va_D_in hD0
  have hS : va_S (inW [(o0, .inr (0, [.long (pk a0), .long (pk a1), .long (pkn q w), .int (iI ((w : Nat) : Int))]))]) s.heap s.heap [] := va_S.rf
  have hl := lv_entry ([.ref o0, .int (iI ((t : Nat) : Int))]) (n := 3) (Nat.le_of_ble_eq_true rfl)
  rw [lg_entry_eq]
  generalize (lg_sl ([.ref o0, .int (iI ((t : Nat) : Int))]) ++ List.replicate (3 - (lg_sl ([.ref o0, .int (iI ((t : Nat) : Int))])).length) Slot.unset).toArray = ls at hl ⊢
  have hl : lv_has ls 3 [(0, .ref o0), (1, .int (iI ((t : Nat) : Int)))] := hl
  refine lv_aload_n hx hb dL_write_0 rfl (lv_at hl 0 rfl) ?_
  refine lv_iload_n hx hb dL_write_1 rfl (lv_at hl 1 rfl) ?_
  refine wr_call (va_runV (As := [.int (iI ((t : Nat) : Int))]) (rest := []) ⟨hx, hb, hml, hown, hts⟩ (mX0_write_ok l dC dI o0 a0 a1 q w hp0 hp1 hw hq hqd t ht hnw hw12) (cwV 1 hts gL_write_X0_write rfl rfl rfl hvX0_write ⟨Nat.le_of_ble_eq_true rfl, Nat.le_of_ble_eq_true rfl⟩) (bD_pre (ci := 0) (q0 := 0) hK hP hD rfl rfl rfl) rfl rfl hl.1 rfl (lv_room (Nat.le_of_ble_eq_true rfl)) dL_write_2 ⟨Nat.le_of_ble_eq_true rfl, Nat.le_of_ble_eq_true rfl⟩) hS (fun q9 h => h) (fun H locs hP hz hk hS => ?_)
  refine W.widen (k := 1) (n := 6) (by omega) (by omega) ?_
  exact W.iret hx hb hr (fun t ht _ => ⟨rfl, by rw [ht]; exact hP, hS.F ht⟩) hS.2.2 dL_write_5

set_option maxHeartbeats 4000000 in
set_option maxRecDepth 100000 in
theorem mL_write_x1 (l : Launch) (hfl : l.stackTraces = false) (dC : Nat → ClassId) (dI : Nat → Nat → Nat) (o0 : Nat) (a0 a1 q : Nat → Nat) (w : Nat) (hp0 : Pm a0) (hp1 : Pm a1) (hw : w ≤ 12) (hq : ∀ i, i < w → q i < 12) (hqd : ∀ i j, i < w → j < w → q i = q j → i = j) (z0 : Int) (hz0 : inI z0) (hbad : ¬ (0 ≤ z0 ∧ z0 ≤ 11)) : ax l yL_write wsL_write { frames := 8, cells := 1, slots := 6, locals := 125 } [.ref o0, .int (iI z0)] (dC, dI) [(o0, .inr (0, [.long (pk a0), .long (pk a1), .long (pkn q w), .int (iI ((w : Nat) : Int))]))] [(o0, .inr (0, [.long (pk a0), .long (pk a1), .long (pkn q w), .int (iI ((w : Nat) : Int))]))] (some (.int (iI (-99999)))) := by
  refine mt_ofWH (cc := cL_write) (maxL := 3) (ret := (some .int)) (hh := [(0, 5, 6, 17), (0, 5, 10, 34)]) (by decide +kernel) rfl ?_
  intro P0 e s m args below meth c s₁ B hml hv
  obtain ⟨rfl, hP, hK, hD0, hG, hN⟩ := hv
  have hx := B.exec
  have hb := B.bytes
  have hr := B.returns
  have hts := atoms_spec (ws := wsL_write) B.pre
  have hown : s.vm.findClass RL = some m.cls := findClass_of_methodNamed B.named
  have hlocks := B.notSynchronized
  have hD : va_D (inW [(o0, .inr (0, [.long (pk a0), .long (pk a1), .long (pkn q w), .int (iI ((w : Nat) : Int))]))]) [(o0, .inr (0, [.long (pk a0), .long (pk a1), .long (pkn q w), .int (iI ((w : Nat) : Int))]))] := va_D_in hD0
  have hS : va_S (inW [(o0, .inr (0, [.long (pk a0), .long (pk a1), .long (pkn q w), .int (iI ((w : Nat) : Int))]))]) s.heap s.heap [] := va_S.rf
  have hl := lv_entry ([.ref o0, .int (iI z0)]) (n := 3) (Nat.le_of_ble_eq_true rfl)
  rw [lg_entry_eq]
  generalize (lg_sl ([.ref o0, .int (iI z0)]) ++ List.replicate (3 - (lg_sl ([.ref o0, .int (iI z0)])).length) Slot.unset).toArray = ls at hl ⊢
  have hl : lv_has ls 3 [(0, .ref o0), (1, .int (iI z0))] := hl
  refine lv_aload_n hx hb dL_write_0 rfl (lv_at hl 0 rfl) ?_
  refine lv_iload_n hx hb dL_write_1 rfl (lv_at hl 1 rfl) ?_
  refine th_call (vx_runV (As := [.int (iI z0)]) (rest := []) ⟨hx, hb, hml, hown, hts⟩ (mX0_write_x1 l hfl dC dI o0 a0 a1 q w hp0 hp1 hw hq hqd z0 hz0 hbad) (cwV 1 hts gL_write_X0_write rfl rfl rfl hvX0_write ⟨Nat.le_of_ble_eq_true rfl, Nat.le_of_ble_eq_true rfl⟩) (xV_pre (ci := 0) (q0 := 0) hK hP hG rfl rfl rfl) rfl rfl hl.1 rfl (lv_room (Nat.le_of_ble_eq_true rfl)) dL_write_2 ⟨Nat.le_of_ble_eq_true rfl, Nat.le_of_ble_eq_true rfl⟩) (fun ce q9 H1 hz9 hk9 hce hcv hcl => ?_)
  refine vx_catch (own := RL) (name := "java/lang/IllegalArgumentException") (E := "java/lang/IllegalArgumentException") hown [] ⟨0, 5, 6, 17⟩ [⟨0, 5, 10, 34⟩] (vx_table (x := yL_write) (hh := [(0, 5, 6, 17), (0, 5, 10, 34)]) B (hts _ List.mem_cons_self)) (fun _ h => nomatch h) (by decide) (by decide) (hts _ (by decide +kernel)) ((hG.1 _ (by decide +kernel)).use rfl) hce hcv hcl ?_
  refine lv_astore_n (lv' := [(2, .ref q9), (0, .ref o0), (1, .int (iI z0))]) hx hb dL_write_6 rfl hl (by decide) rfl (fun ls hl => ?_)
  refine lv_ldc (v := -99999) hx hb hown (hts (.constant RL 16 (-99999)) (by decide +kernel)) dL_write_7 ?_
  refine st_i (y := iI (-99999)) (by decide) ?_
  exact W.iret hx hb hr (fun t ht _ => ⟨rfl, by rw [ht]; exact va_P_new hP hk9, ⟨by rw [ht]; exact hz9, fun q h _ => by rw [ht]; exact hk9 q h⟩⟩) (fun _ h => nomatch h) dL_write_9

set_option maxHeartbeats 4000000 in
set_option maxRecDepth 100000 in
theorem mL_write_x2 (l : Launch) (hfl : l.stackTraces = false) (dC : Nat → ClassId) (dI : Nat → Nat → Nat) (o0 : Nat) (a0 a1 q : Nat → Nat) (w : Nat) (hp0 : Pm a0) (hp1 : Pm a1) (hw : w ≤ 12) (hq : ∀ i, i < w → q i < 12) (hqd : ∀ i j, i < w → j < w → q i = q j → i = j) (t : Nat) (ht : t < 12) (hwr : orN (wtB q t) w = true) : ax l yL_write wsL_write { frames := 8, cells := 1, slots := 6, locals := 125 } [.ref o0, .int (iI ((t : Nat) : Int))] (dC, dI) [(o0, .inr (0, [.long (pk a0), .long (pk a1), .long (pkn q w), .int (iI ((w : Nat) : Int))]))] [(o0, .inr (0, [.long (pk a0), .long (pk a1), .long (pkn q w), .int (iI ((w : Nat) : Int))]))] (some (.int (iI (-99999)))) := by
  refine mt_ofWH (cc := cL_write) (maxL := 3) (ret := (some .int)) (hh := [(0, 5, 6, 17), (0, 5, 10, 34)]) (by decide +kernel) rfl ?_
  intro P0 e s m args below meth c s₁ B hml hv
  obtain ⟨rfl, hP, hK, hD0, hG, hN⟩ := hv
  have hx := B.exec
  have hb := B.bytes
  have hr := B.returns
  have hts := atoms_spec (ws := wsL_write) B.pre
  have hown : s.vm.findClass RL = some m.cls := findClass_of_methodNamed B.named
  have hlocks := B.notSynchronized
  have hD : va_D (inW [(o0, .inr (0, [.long (pk a0), .long (pk a1), .long (pkn q w), .int (iI ((w : Nat) : Int))]))]) [(o0, .inr (0, [.long (pk a0), .long (pk a1), .long (pkn q w), .int (iI ((w : Nat) : Int))]))] := va_D_in hD0
  have hS : va_S (inW [(o0, .inr (0, [.long (pk a0), .long (pk a1), .long (pkn q w), .int (iI ((w : Nat) : Int))]))]) s.heap s.heap [] := va_S.rf
  have hl := lv_entry ([.ref o0, .int (iI ((t : Nat) : Int))]) (n := 3) (Nat.le_of_ble_eq_true rfl)
  rw [lg_entry_eq]
  generalize (lg_sl ([.ref o0, .int (iI ((t : Nat) : Int))]) ++ List.replicate (3 - (lg_sl ([.ref o0, .int (iI ((t : Nat) : Int))])).length) Slot.unset).toArray = ls at hl ⊢
  have hl : lv_has ls 3 [(0, .ref o0), (1, .int (iI ((t : Nat) : Int)))] := hl
  refine lv_aload_n hx hb dL_write_0 rfl (lv_at hl 0 rfl) ?_
  refine lv_iload_n hx hb dL_write_1 rfl (lv_at hl 1 rfl) ?_
  refine th_call (vx_runV (As := [.int (iI ((t : Nat) : Int))]) (rest := []) ⟨hx, hb, hml, hown, hts⟩ (mX0_write_x2 l hfl dC dI o0 a0 a1 q w hp0 hp1 hw hq hqd t ht hwr) (cwV 1 hts gL_write_X0_write rfl rfl rfl hvX0_write ⟨Nat.le_of_ble_eq_true rfl, Nat.le_of_ble_eq_true rfl⟩) (xV_pre (ci := 0) (q0 := 0) hK hP hG rfl rfl rfl) rfl rfl hl.1 rfl (lv_room (Nat.le_of_ble_eq_true rfl)) dL_write_2 ⟨Nat.le_of_ble_eq_true rfl, Nat.le_of_ble_eq_true rfl⟩) (fun ce q9 H1 hz9 hk9 hce hcv hcl => ?_)
  refine vx_catch (own := RL) (name := "java/lang/IllegalStateException") (E := "java/lang/IllegalStateException") hown [⟨0, 5, 6, 17⟩] ⟨0, 5, 10, 34⟩ [] (vx_table (x := yL_write) (hh := [(0, 5, 6, 17), (0, 5, 10, 34)]) B (hts _ List.mem_cons_self)) (fun z hz => by rcases List.mem_singleton.mp hz with rfl; exact Or.inr ⟨by decide, "java/lang/IllegalArgumentException", hts _ (by decide +kernel), hN.2⟩) (by decide) (by decide) (hts _ (by decide +kernel)) ((hG.1 _ (by decide +kernel)).use rfl) hce hcv hcl ?_
  refine lv_astore_n (lv' := [(2, .ref q9), (0, .ref o0), (1, .int (iI ((t : Nat) : Int)))]) hx hb dL_write_10 rfl hl (by decide) rfl (fun ls hl => ?_)
  refine lv_ldc (v := -99999) hx hb hown (hts (.constant RL 16 (-99999)) (by decide +kernel)) dL_write_11 ?_
  refine st_i (y := iI (-99999)) (by decide) ?_
  exact W.iret hx hb hr (fun t ht _ => ⟨rfl, by rw [ht]; exact va_P_new hP hk9, ⟨by rw [ht]; exact hz9, fun q h _ => by rw [ht]; exact hk9 q h⟩⟩) (fun _ h => nomatch h) dL_write_13

set_option maxHeartbeats 4000000 in
set_option maxRecDepth 100000 in
theorem mL_complete_ok (l : Launch) (hfl : l.stackTraces = false) (dC : Nat → ClassId) (dI : Nat → Nat → Nat) (o0 : Nat) (a0 a1 q : Nat → Nat) (w : Nat) (hp0 : Pm a0) (hp1 : Pm a1) (hw : w ≤ 12) (hq : ∀ i, i < w → q i < 12) (hqd : ∀ i j, i < w → j < w → q i = q j → i = j) (r : Nat) (hr9 : r < 2) (G : Nat → Nat) (e12 : Nat) (he12 : e12 = 12) (hG : lt12 G) (hGe : pkn (cpK q (rw_ r a0 a1) (fun _ => 0) w e12) (cpC q (rw_ r a0 a1) w e12) = pk G) : ax l yL_complete wsL_complete { frames := 8, cells := 1, slots := 6, locals := 130 } [.ref o0, .int (iI ((r : Nat) : Int))] (dC, dI) [(o0, .inr (0, [.long (pk a0), .long (pk a1), .long (pkn q w), .int (iI ((w : Nat) : Int))]))] [(o0, .inr (0, [.long (pk (sr0 r G a0)), .long (pk (sr1 r G a1)), .long (pkn q w), .int (iI ((w : Nat) : Int))]))] (some (.int (iI ((G 0 : Nat) : Int)))) := by
  refine mt_ofWH (cc := cL_complete) (maxL := 3) (ret := (some .int)) (hh := [(0, 5, 6, 14)]) (by decide +kernel) rfl ?_
  intro P0 e s m args below meth c s₁ B hml hv
  obtain ⟨rfl, hP, hK, hD0, hG9, hN⟩ := hv
  have hx := B.exec
  have hb := B.bytes
  have hr := B.returns
  have hts := atoms_spec (ws := wsL_complete) B.pre
  have hown : s.vm.findClass RL = some m.cls := findClass_of_methodNamed B.named
  have hlocks := B.notSynchronized
  have hD : va_D (inW [(o0, .inr (0, [.long (pk a0), .long (pk a1), .long (pkn q w), .int (iI ((w : Nat) : Int))]))]) [(o0, .inr (0, [.long (pk a0), .long (pk a1), .long (pkn q w), .int (iI ((w : Nat) : Int))]))] := va_D_in hD0
  have hS : va_S (inW [(o0, .inr (0, [.long (pk a0), .long (pk a1), .long (pkn q w), .int (iI ((w : Nat) : Int))]))]) s.heap s.heap [] := va_S.rf
  have hl := lv_entry ([.ref o0, .int (iI ((r : Nat) : Int))]) (n := 3) (Nat.le_of_ble_eq_true rfl)
  rw [lg_entry_eq]
  generalize (lg_sl ([.ref o0, .int (iI ((r : Nat) : Int))]) ++ List.replicate (3 - (lg_sl ([.ref o0, .int (iI ((r : Nat) : Int))])).length) Slot.unset).toArray = ls at hl ⊢
  have hl : lv_has ls 3 [(0, .ref o0), (1, .int (iI ((r : Nat) : Int)))] := hl
  refine lv_aload_n hx hb dL_complete_0 rfl (lv_at hl 0 rfl) ?_
  refine lv_iload_n hx hb dL_complete_1 rfl (lv_at hl 1 rfl) ?_
  refine wr_call (va_runV (As := [.int (iI ((r : Nat) : Int))]) (rest := []) ⟨hx, hb, hml, hown, hts⟩ (mX0_complete_ok l dC dI o0 a0 a1 q w hp0 hp1 hw hq hqd r hr9 G e12 he12 hG hGe) (cwV 1 hts gL_complete_X0_complete rfl rfl rfl hvX0_complete ⟨Nat.le_of_ble_eq_true rfl, Nat.le_of_ble_eq_true rfl⟩) (bD_pre (ci := 0) (q0 := 0) hK hP hD rfl rfl rfl) rfl rfl hl.1 rfl (lv_room (Nat.le_of_ble_eq_true rfl)) dL_complete_2 ⟨Nat.le_of_ble_eq_true rfl, Nat.le_of_ble_eq_true rfl⟩) hS (fun q9 h => h) (fun H locs hP hz hk hS => ?_)
  refine W.widen (k := 1) (n := 6) (by omega) (by omega) ?_
  exact W.iret hx hb hr (fun t ht _ => ⟨rfl, by rw [ht]; exact hP, hS.F ht⟩) hS.2.2 dL_complete_5

set_option maxHeartbeats 4000000 in
set_option maxRecDepth 100000 in
theorem mL_complete_x1 (l : Launch) (hfl : l.stackTraces = false) (dC : Nat → ClassId) (dI : Nat → Nat → Nat) (o0 : Nat) (a0 a1 q : Nat → Nat) (w : Nat) (hp0 : Pm a0) (hp1 : Pm a1) (hw : w ≤ 12) (hq : ∀ i, i < w → q i < 12) (hqd : ∀ i j, i < w → j < w → q i = q j → i = j) (z0 : Int) (hz0 : inI z0) (hbad : ¬ (z0 = 0 ∨ z0 = 1)) : ax l yL_complete wsL_complete { frames := 8, cells := 1, slots := 6, locals := 130 } [.ref o0, .int (iI z0)] (dC, dI) [(o0, .inr (0, [.long (pk a0), .long (pk a1), .long (pkn q w), .int (iI ((w : Nat) : Int))]))] [(o0, .inr (0, [.long (pk a0), .long (pk a1), .long (pkn q w), .int (iI ((w : Nat) : Int))]))] (some (.int (iI (-99999)))) := by
  refine mt_ofWH (cc := cL_complete) (maxL := 3) (ret := (some .int)) (hh := [(0, 5, 6, 14)]) (by decide +kernel) rfl ?_
  intro P0 e s m args below meth c s₁ B hml hv
  obtain ⟨rfl, hP, hK, hD0, hG, hN⟩ := hv
  have hx := B.exec
  have hb := B.bytes
  have hr := B.returns
  have hts := atoms_spec (ws := wsL_complete) B.pre
  have hown : s.vm.findClass RL = some m.cls := findClass_of_methodNamed B.named
  have hlocks := B.notSynchronized
  have hD : va_D (inW [(o0, .inr (0, [.long (pk a0), .long (pk a1), .long (pkn q w), .int (iI ((w : Nat) : Int))]))]) [(o0, .inr (0, [.long (pk a0), .long (pk a1), .long (pkn q w), .int (iI ((w : Nat) : Int))]))] := va_D_in hD0
  have hS : va_S (inW [(o0, .inr (0, [.long (pk a0), .long (pk a1), .long (pkn q w), .int (iI ((w : Nat) : Int))]))]) s.heap s.heap [] := va_S.rf
  have hl := lv_entry ([.ref o0, .int (iI z0)]) (n := 3) (Nat.le_of_ble_eq_true rfl)
  rw [lg_entry_eq]
  generalize (lg_sl ([.ref o0, .int (iI z0)]) ++ List.replicate (3 - (lg_sl ([.ref o0, .int (iI z0)])).length) Slot.unset).toArray = ls at hl ⊢
  have hl : lv_has ls 3 [(0, .ref o0), (1, .int (iI z0))] := hl
  refine lv_aload_n hx hb dL_complete_0 rfl (lv_at hl 0 rfl) ?_
  refine lv_iload_n hx hb dL_complete_1 rfl (lv_at hl 1 rfl) ?_
  refine th_call (vx_runV (As := [.int (iI z0)]) (rest := []) ⟨hx, hb, hml, hown, hts⟩ (mX0_complete_x1 l hfl dC dI o0 a0 a1 q w hp0 hp1 hw hq hqd z0 hz0 hbad) (cwV 1 hts gL_complete_X0_complete rfl rfl rfl hvX0_complete ⟨Nat.le_of_ble_eq_true rfl, Nat.le_of_ble_eq_true rfl⟩) (xV_pre (ci := 0) (q0 := 0) hK hP hG rfl rfl rfl) rfl rfl hl.1 rfl (lv_room (Nat.le_of_ble_eq_true rfl)) dL_complete_2 ⟨Nat.le_of_ble_eq_true rfl, Nat.le_of_ble_eq_true rfl⟩) (fun ce q9 H1 hz9 hk9 hce hcv hcl => ?_)
  refine vx_catch (own := RL) (name := "java/lang/IndexOutOfBoundsException") (E := "java/lang/IndexOutOfBoundsException") hown [] ⟨0, 5, 6, 14⟩ [] (vx_table (x := yL_complete) (hh := [(0, 5, 6, 14)]) B (hts _ List.mem_cons_self)) (fun _ h => nomatch h) (by decide) (by decide) (hts _ (by decide +kernel)) ((hG.1 _ (by decide +kernel)).use rfl) hce hcv hcl ?_
  refine lv_astore_n (lv' := [(2, .ref q9), (0, .ref o0), (1, .int (iI z0))]) hx hb dL_complete_6 rfl hl (by decide) rfl (fun ls hl => ?_)
  refine lv_ldc (v := -99999) hx hb hown (hts (.constant RL 16 (-99999)) (by decide +kernel)) dL_complete_7 ?_
  refine st_i (y := iI (-99999)) (by decide) ?_
  exact W.iret hx hb hr (fun t ht _ => ⟨rfl, by rw [ht]; exact va_P_new hP hk9, ⟨by rw [ht]; exact hz9, fun q h _ => by rw [ht]; exact hk9 q h⟩⟩) (fun _ h => nomatch h) dL_complete_9
