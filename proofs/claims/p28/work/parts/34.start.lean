theorem xNw_in : ∀ w ∈ xNw, w ∈ lw_tbl := by decide +kernel
theorem xTX_in : ∀ q ∈ xTX, Cond.stringRef RX0 q.1 q.2 ∈ lw_tbl := by decide +kernel
theorem no_traces {l : Launch} (h : l.flags = flags0) : l.stackTraces = false := by
  unfold Launch.stackTraces
  rw [h]
  decide +kernel
set_option maxHeartbeats 4000000 in
set_option maxRecDepth 100000 in
theorem whole_start {p : Program} {e : Env} {s : State} {m : MethodId} {below : List Frame} {meth : Method} {c : Code} (l : Launch) (hflags : l.flags = flags0) {b L : Nat} {xs : Nat → Int32} (hL : L ≤ 260) (C0 : lw_At p s m meth c b L xs) : W p l e room_1 s m #[Value.ref b] below meth c s.heap [] 0 0 (lw_Z below #[Value.ref b] s) (entryFrame m ([Value.ref b] : List Value).toArray 6) := by
  obtain ⟨hx, hb, hr, hml, hown, htb, hX, hbl, hlocks, hgv⟩ := C0
  have hts : ∀ w ∈ wsL_law, w.before #[Value.ref b] s = true := fun w h => htb w (wsL_law_in w h)
  have hflat := flat_of_before _ hgv
  obtain ⟨c0, i0, hk0⟩ := u_known (C := RX0) (T := TX0) (N := 4) (n := 4) hts inlX0 (hts (.instantiable RX0 4) (by decide +kernel))
  obtain ⟨dC, hdC⟩ : ∃ f : Nat → ClassId, f 0 = c0 := ⟨fun _ => c0, rfl⟩
  obtain ⟨dI, hdI⟩ : ∃ f : Nat → Nat → Nat, f 0 = i0 := ⟨fun _ => i0, rfl⟩
  have hK : va_K (dC, dI) vwCl [] s := by
    refine ⟨fun k q hq => ?_, fun k q hk => nomatch hk⟩
    have hlt : k < 1 := (List.getElem?_eq_some_iff.mp hq).1
    have h0 : k = 0 := by omega
    subst h0
    cases hq
    show u_Kn s RX0 TX0 4 (dC 0) (dI 0)
    rw [hdC, hdI]
    exact hk0
  have hG0 : xG0 s := ⟨fun w hw => va_Nw.of (xNw_tab w hw) (htb w (xNw_in w hw)),
    vx_Zqof (htb _ (by decide +kernel)) (htb _ (by decide +kernel)) (hflat _ (by decide +kernel)) (fun a h => Nat.not_le.mpr h),
    vx_Zqof (htb _ (by decide +kernel)) (htb _ (by decide +kernel)) (hflat _ (by decide +kernel)) (fun a h => Nat.not_le.mpr h),
    fun q hq => by
      have h1 := htb _ (xTX_in q hq)
      obtain ⟨cur, kC9, hcur, -⟩ := Cond.instantiable_spec (hts (.instantiable RX0 4) (by decide +kernel))
      obtain ⟨k9, cf9, i9, a9, -, -, -, -, -, hev⟩ := Cond.stringRef_spec (cls := RX0) hcur h1
      exact ⟨a9, vk_R.of h1 hev⟩⟩
  have hN : xN s := ⟨va_Nc.of (hflat _ (by decide +kernel)), va_Nc.of (hflat _ (by decide +kernel))⟩
  have hA : ∀ q : Nat, s.heap.size ≤ q → LA s q := fun _ h => h
  have hP : va_P (dC, dI) vwCl [] s.heap := fun k q h => nomatch h
  have hD : va_D (LA s) [] := ⟨fun i j p q h => (nomatch h), fun k q h => (nomatch h)⟩
  have hS : va_S (LA s) s.heap s.heap [] := va_S.rf
  have hl := lv_entry ([.ref b]) (n := 6) (Nat.le_of_ble_eq_true rfl)
  rw [lg_entry_eq]
  generalize (lg_sl ([.ref b]) ++ List.replicate (6 - (lg_sl ([.ref b])).length) Slot.unset).toArray = ls at hl ⊢
  have hl : lv_has ls 6 [(0, .ref b)] := hl
  refine va_new (ci := 0) (fs := [.long (0 : Int64), .long (0 : Int64), .long (0 : Int64), .int (iI 0)]) (C := RX0) (T := TX0) (N := 4) hx hb hts inlX0 tyX0 tyX0_ok hown (hts (.classLink RL 9 RX0) (by decide +kernel)) (hts (.instantiable RX0 4) (by decide +kernel)) (hts (.initialized RX0) (by decide +kernel)) hK hP hD hS hA rfl (fun j hj => by rcases (show j = 0 ∨ j = 1 ∨ j = 2 ∨ j = 3 by omega) with rfl | rfl | rfl | rfl <;> rfl) (Nat.le_of_ble_eq_true rfl) (Nat.le_of_ble_eq_true rfl) dL_law_0 (fun o0 H hP hD hS => ?_)
  have hP : va_P (dC, dI) vwCl ([(o0, .inr (0, [.long (0 : Int64), .long (0 : Int64), .long (0 : Int64), .int (iI 0)]))]) H := hP
  have hD : va_D (LA s) ([(o0, .inr (0, [.long (0 : Int64), .long (0 : Int64), .long (0 : Int64), .int (iI 0)]))]) := hD
  refine lv_dup hx hb dL_law_3 rfl ?_
  refine wr_call (va_runI (As := []) (rest := [.ref o0]) ⟨hx, hb, hml, hown, hts⟩ (mX0_init l dC dI o0 (fun _ => 0)) (cwI 0 hts gL_law_X0_init rfl rfl rfl (hts (.initialized RX0) (by decide +kernel)) (hts (.methodLink RL 114 yX0_init) (by decide +kernel)) (hts (.instanceMethod yX0_init) (by decide +kernel)) rfl (by decide +kernel) ⟨Nat.le_of_ble_eq_true rfl, Nat.le_of_ble_eq_true rfl⟩) ⟨bD_blind, fun U hU hW => ⟨rfl, by rw [hU]; exact hP, va_K.moved hW.alike hK, hD.weaken (fun _ _ _ _ => trivial)⟩⟩ rfl rfl hl.1 rfl (lv_room (Nat.le_of_ble_eq_true rfl)) dL_law_4 ⟨Nat.le_of_ble_eq_true rfl, Nat.le_of_ble_eq_true rfl⟩) hS (fun q9 h => inW_A hD h) (fun H locs hPn hz hk hS => ?_)
  have hD : va_D (LA s) [oC o0 (fun i => i) (fun i => i) (fun _ => 0) 0] := va_D_same (w := [(o0, .inr (0, [.long (0 : Int64), .long (0 : Int64), .long (0 : Int64), .int (iI 0)]))]) (Eq.trans (b := [o0]) rfl rfl) hD
  have hP : va_P (dC, dI) vwCl [oC o0 (fun i => i) (fun i => i) (fun _ => 0) 0] H := hPn
  refine va_forget hS.2.2 ?_
  have hS := va_S_nil hS
  refine lv_astore_n (lv' := [(1, .ref o0), (0, .ref b)]) hx hb dL_law_7 rfl hl (by decide) rfl (fun ls hl => ?_)
  refine va_new (ci := 0) (fs := [.long (0 : Int64), .long (0 : Int64), .long (0 : Int64), .int (iI 0)]) (C := RX0) (T := TX0) (N := 4) hx hb hts inlX0 tyX0 tyX0_ok hown (hts (.classLink RL 9 RX0) (by decide +kernel)) (hts (.instantiable RX0 4) (by decide +kernel)) (hts (.initialized RX0) (by decide +kernel)) hK hP hD hS hA rfl (fun j hj => by rcases (show j = 0 ∨ j = 1 ∨ j = 2 ∨ j = 3 by omega) with rfl | rfl | rfl | rfl <;> rfl) (Nat.le_of_ble_eq_true rfl) (Nat.le_of_ble_eq_true rfl) dL_law_8 (fun p0 H hP hD hS => ?_)
  have hP : va_P (dC, dI) vwCl ([oC o0 (fun i => i) (fun i => i) (fun _ => 0) 0] ++ [(p0, .inr (0, [.long (0 : Int64), .long (0 : Int64), .long (0 : Int64), .int (iI 0)]))]) H := hP
  have hD : va_D (LA s) ([oC o0 (fun i => i) (fun i => i) (fun _ => 0) 0] ++ [(p0, .inr (0, [.long (0 : Int64), .long (0 : Int64), .long (0 : Int64), .int (iI 0)]))]) := hD
  refine lv_dup hx hb dL_law_11 rfl ?_
  have hP2 := va_P_r (w1 := [oC o0 (fun i => i) (fun i => i) (fun _ => 0) 0]) (w2 := [(p0, .inr (0, [.long (0 : Int64), .long (0 : Int64), .long (0 : Int64), .int (iI 0)]))]) hP
  have hD2 := va_D_r (w1 := [oC o0 (fun i => i) (fun i => i) (fun _ => 0) 0]) (w2 := [(p0, .inr (0, [.long (0 : Int64), .long (0 : Int64), .long (0 : Int64), .int (iI 0)]))]) hD
  refine wr_call (va_runI (As := []) (rest := [.ref p0]) ⟨hx, hb, hml, hown, hts⟩ (mX0_init l dC dI p0 (fun _ => 0)) (cwI 0 hts gL_law_X0_init rfl rfl rfl (hts (.initialized RX0) (by decide +kernel)) (hts (.methodLink RL 114 yX0_init) (by decide +kernel)) (hts (.instanceMethod yX0_init) (by decide +kernel)) rfl (by decide +kernel) ⟨Nat.le_of_ble_eq_true rfl, Nat.le_of_ble_eq_true rfl⟩) ⟨bD_blind, fun U hU hW => ⟨rfl, by rw [hU]; exact hP2, va_K.moved hW.alike hK, hD2.weaken (fun _ _ _ _ => trivial)⟩⟩ rfl rfl hl.1 rfl (lv_room (Nat.le_of_ble_eq_true rfl)) dL_law_12 ⟨Nat.le_of_ble_eq_true rfl, Nat.le_of_ble_eq_true rfl⟩) hS (fun q9 h => inW_A hD2 h) (fun H locs hPn hz hk hS => ?_)
  have hP : va_P (dC, dI) vwCl ([oC o0 (fun i => i) (fun i => i) (fun _ => 0) 0] ++ [oC p0 (fun i => i) (fun i => i) (fun _ => 0) 0]) H := wj_r (w1 := [oC o0 (fun i => i) (fun i => i) (fun _ => 0) 0]) (w2 := [(p0, .inr (0, [.long (0 : Int64), .long (0 : Int64), .long (0 : Int64), .int (iI 0)]))]) (w2' := [oC p0 (fun i => i) (fun i => i) (fun _ => 0) 0]) hP hD hPn hk
  have hD : va_D (LA s) ([oC o0 (fun i => i) (fun i => i) (fun _ => 0) 0] ++ [oC p0 (fun i => i) (fun i => i) (fun _ => 0) 0]) := va_D_same (w := [oC o0 (fun i => i) (fun i => i) (fun _ => 0) 0] ++ [(p0, .inr (0, [.long (0 : Int64), .long (0 : Int64), .long (0 : Int64), .int (iI 0)]))]) (Eq.trans (b := [o0, p0]) rfl rfl) hD
  refine va_forget hS.2.2 ?_
  have hS := va_S_nil hS
  refine lv_astore_n (lv' := [(2, .ref p0), (1, .ref o0), (0, .ref b)]) hx hb dL_law_15 rfl hl (by decide) rfl (fun ls hl => ?_)
  refine ib_const hx hb dL_law_16 ?_
  refine lv_istore_n (lv' := [(3, .int (iI 0)), (2, .ref p0), (1, .ref o0), (0, .ref b)]) hx hb dL_law_17 rfl hl (by decide) rfl (fun ls hl => ?_)
  refine law_loop (l := l) (dC := dC) (dI := dI) (L := L) (xs := xs) (o0 := o0) (p0 := p0) ⟨hx, hb, hml, hown, hts, hK, hG0, hN, hX, hbl, no_traces hflags⟩ hL (fun H ls => ?_) 44 0 2 8 (fun i => i) (fun i => i) (fun _ => 0) 0 H ls ⟨⟨⟨fun i h => h, fun i j _ _ h => h⟩, ⟨fun i h => h, fun i j _ _ h => h⟩, Nat.zero_le _, fun i h => absurd h (Nat.not_lt_zero i), fun i j h => absurd h (Nat.not_lt_zero i)⟩, hP, hD, hS⟩ (lv_sub hl [3, 2, 1, 0] rfl) (by omega) (by decide) (by decide)
  refine ib_const hx hb dL_law_173 ?_
  exact lw_ret hx hb hr hlocks dL_law_174
