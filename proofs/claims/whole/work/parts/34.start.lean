theorem xNw_in : ∀ w ∈ xNw, w ∈ lw_tbl := by decide +kernel
theorem xTX_in : ∀ q ∈ xTX, Cond.stringRef RX0 q.1 q.2 ∈ lw_tbl := by decide +kernel
theorem no_traces {l : Launch} (h : l.flags = flags0) : l.stackTraces = false := by
  unfold Launch.stackTraces
  rw [h]
  decide +kernel
theorem ini_call {p : Program} {l : Launch} {e : Env} {R : Room} {s : State} {m : MethodId} {args : Array Value} {below : List Frame} {meth : Method} {c : Code} {H : Heap} {locs : List Loc} {cells slots : Nat} {Q : State → Prop} {pc : Nat} {ls : Array Slot} {rest st0 : List Value} {a : Array Value} {D : va_G} {m0 : Nat}
    (hr : va_Run p l e R s m args below meth c H locs cells slots 3 48 (F0 m pc ls st0) rest (iniQ D m0 a) (fun q9 => q9 = m0 ∨ H.size ≤ q9)) (hlocs : ∀ z ∈ locs, s.heap.size ≤ z.base) (hm : s.heap.size ≤ m0) (hH : s.heap.size ≤ H.size)
    (kk : ∀ (cI : ClassId) (t0 k0 p0 : Nat) (H1 : Heap), va_P D vwCl [(m0, .inr (1, [.int (iI 0), .ref t0, .ref k0, .ref p0, .int (iI 0)])), (t0, .inl (cI, 24, .inl (fun j => iI ((tb (fun i => i) (fun i => i) j : Nat) : Int)))), (k0, .inl (cI, 12, .inl (fun _ => iI ((0 : Nat) : Int)))), (p0, .inl (cI, 12, .inl (fun _ => iI ((0 : Nat) : Int))))] H1 → va_K D vwCl [(cI, .int)] s →
      va_D (fun q => q = m0 ∨ H.size ≤ q) [(m0, .inr (1, [.int (iI 0), .ref t0, .ref k0, .ref p0, .int (iI 0)])), (t0, .inl (cI, 24, .inl (fun j => iI ((tb (fun i => i) (fun i => i) j : Nat) : Int)))), (k0, .inl (cI, 12, .inl (fun _ => iI ((0 : Nat) : Int)))), (p0, .inl (cI, 12, .inl (fun _ => iI ((0 : Nat) : Int))))] → H.size ≤ H1.size → (∀ q : Nat, q < H.size → ¬ q = m0 → H1[q]? = H[q]?) → W p l e R s m args below meth c H1 [] (cells + 3) (slots + 48) Q (F0 m (pc + 3) ls rest)) : W p l e R s m args below meth c H locs cells slots Q (F0 m pc ls st0) := by
  intro T hT X
  obtain ⟨v', st₀, t, T', L, h0, X', hL, e1, e2, ⟨hv, cI, t0, k0, p0, hP, hK, hD, hz, hk⟩, st⟩ := hr T hT X
  cases hv
  rw [h0] at hz hk hD
  obtain ⟨t2, a1, b1⟩ := va_forget (locs := locs ++ L) (fun z hzz => (List.mem_append.mp hzz).elim (hlocs z) (fun h => (hL z h).elim (fun q => by rw [q]; exact hm) (fun q => Nat.le_trans hH q))) (kk cI t0 k0 p0 T'.heap (by rw [e1]; exact hP) (va_K.moved (u := t) (U := s) (by rw [← e2]; exact X'.warmed.alike.symm) hK) hD (by rw [e1]; exact hz) (fun q h1 h2 => by rw [e1]; exact hk q h1 h2)) T' rfl X'
  exact ⟨t2, st t2 a1, b1⟩
set_option maxHeartbeats 4000000 in
set_option maxRecDepth 100000 in
theorem whole_start {p : Program} {e : Env} {s : State} {m : MethodId} {below : List Frame} {meth : Method} {c : Code} (l : Launch) (hflags : l.flags = flags0) {b L : Nat} {xs : Nat → Int32} (hL : L ≤ 2560) (C0 : lw_At p s m meth c b L xs) : W p l e room_1 s m #[Value.ref b] below meth c s.heap [] 0 0 (lw_Z below #[Value.ref b] s) (entryFrame m ([Value.ref b] : List Value).toArray 8) := by
  obtain ⟨hx, hb, hr, hml, hown, htb, hX, hbl, hlocks, hgv⟩ := C0
  have hts : ∀ w ∈ wsL_law, w.before #[Value.ref b] s = true := fun w h => htb w (wsL_law_in w h)
  have hflat := flat_of_before _ hgv
  obtain ⟨c0, i0, hk0⟩ := u_known (C := RX0) (T := TX0) (N := 4) (n := 4) hts inlX0 (hts (.instantiable RX0 4) (by decide +kernel))
  obtain ⟨c1, i1, hk1⟩ := u_known (C := RX1) (T := TX1) (N := 5) (n := 5) hts inlX1 (hts (.instantiable RX1 5) (by decide +kernel))
  obtain ⟨dC, hdC⟩ : ∃ f : Nat → ClassId, f 0 = c0 ∧ f 1 = c1 := ⟨fun k => match k with | 0 => c0 | _ => c1, rfl, rfl⟩
  obtain ⟨dI, hdI⟩ : ∃ f : Nat → Nat → Nat, f 0 = i0 ∧ f 1 = i1 := ⟨fun k => match k with | 0 => i0 | _ => i1, rfl, rfl⟩
  have hK : va_K (dC, dI) vwCl [] s := by
    refine ⟨fun k q hq => ?_, fun k q hk => nomatch hk⟩
    have hlt : k < 2 := (List.getElem?_eq_some_iff.mp hq).1
    rcases (show k = 0 ∨ k = 1 by omega) with rfl | rfl
    · cases hq
      show u_Kn s RX0 TX0 4 (dC 0) (dI 0)
      rw [hdC.1, hdI.1]
      exact hk0
    · cases hq
      show u_Kn s RX1 TX1 5 (dC 1) (dI 1)
      rw [hdC.2, hdI.2]
      exact hk1
  have hG0 : xG0 s := ⟨fun w hw => va_Nw.of (xNw_tab w hw) (htb w (xNw_in w hw)),
    vx_Zqof (htb _ (by decide +kernel)) (htb _ (by decide +kernel)) (hflat _ (by decide +kernel)) (fun a h => Nat.not_le.mpr h),
    vx_Zqof (htb _ (by decide +kernel)) (htb _ (by decide +kernel)) (hflat _ (by decide +kernel)) (fun a h => Nat.not_le.mpr h),
    fun q hq => by
      have h1 := htb _ (xTX_in q hq)
      obtain ⟨cur, kC9, hcur, -⟩ := Cond.instantiable_spec (hts (.instantiable RX0 4) (by decide +kernel))
      obtain ⟨k9, cf9, i9, a9, -, -, -, -, -, hev⟩ := Cond.stringRef_spec (cls := RX0) hcur h1
      exact ⟨a9, vk_R.of h1 hev⟩⟩
  have hN : xN s := ⟨va_Nc.of (hflat _ (by decide +kernel)), va_Nc.of (hflat _ (by decide +kernel))⟩
  have hA : ∀ q : Nat, s.heap.size ≤ q → LA s q := fun _ h => h
  have hP : va_P (dC, dI) vwCl [] s.heap := fun k q h => nomatch h
  have hD : va_D (LA s) [] := ⟨fun i j p q h => (nomatch h), fun k q h => (nomatch h)⟩
  have hS : va_S (LA s) s.heap s.heap [] := va_S.rf
  have hl := lv_entry ([.ref b]) (n := 8) (Nat.le_of_ble_eq_true rfl)
  rw [lg_entry_eq]
  generalize (lg_sl ([.ref b]) ++ List.replicate (8 - (lg_sl ([.ref b])).length) Slot.unset).toArray = ls at hl ⊢
  have hl : lv_has ls 8 [(0, .ref b)] := hl
  refine va_new (ci := 0) (fs := [.long (0 : Int64), .long (0 : Int64), .long (0 : Int64), .int (iI 0)]) (C := RX0) (T := TX0) (N := 4) hx hb hts inlX0 tyX0 tyX0_ok hown (hts (.classLink RL 8 RX0) (by decide +kernel)) (hts (.instantiable RX0 4) (by decide +kernel)) (hts (.initialized RX0) (by decide +kernel)) hK hP hD hS hA rfl (fun j hj => by rcases (show j = 0 ∨ j = 1 ∨ j = 2 ∨ j = 3 by omega) with rfl | rfl | rfl | rfl <;> rfl) (Nat.le_of_ble_eq_true rfl) (Nat.le_of_ble_eq_true rfl) dL_law_0 (fun o0 H hP hD hS => ?_)
  have hP : va_P (dC, dI) vwCl [(o0, .inr (0, [.long (0 : Int64), .long (0 : Int64), .long (0 : Int64), .int (iI 0)]))] H := hP
  have hD : va_D (LA s) [(o0, .inr (0, [.long (0 : Int64), .long (0 : Int64), .long (0 : Int64), .int (iI 0)]))] := hD
  refine lv_dup hx hb dL_law_3 rfl ?_
  refine wr_call (va_runI (As := []) (rest := [.ref o0]) ⟨hx, hb, hml, hown, hts⟩ (mX0_init l dC dI o0 (fun _ => 0)) (cwI 0 hts gL_law_X0_init rfl rfl rfl (hts (.initialized RX0) (by decide +kernel)) (hts (.methodLink RL 94 yX0_init) (by decide +kernel)) (hts (.instanceMethod yX0_init) (by decide +kernel)) rfl (by decide +kernel) ⟨Nat.le_of_ble_eq_true rfl, Nat.le_of_ble_eq_true rfl⟩) ⟨bD_blind, fun U hU hW => ⟨rfl, by rw [hU]; exact hP, va_K.moved hW.alike hK, hD.weaken (fun _ _ _ _ => trivial)⟩⟩ rfl rfl hl.1 rfl (lv_room (Nat.le_of_ble_eq_true rfl)) dL_law_4 ⟨Nat.le_of_ble_eq_true rfl, Nat.le_of_ble_eq_true rfl⟩) hS (fun q9 h => inW_A hD h) (fun H locs hPn hz hk hS => ?_)
  have hD : va_D (LA s) [(o0, .inr (0, [.long (pk (fun i => i)), .long (pk (fun i => i)), .long (pkn (fun _ => 0) 0), .int (iI ((0 : Nat) : Int))]))] := va_D_same (w := [(o0, .inr (0, [.long (0 : Int64), .long (0 : Int64), .long (0 : Int64), .int (iI 0)]))]) (Eq.trans (b := [o0]) rfl rfl) hD
  have hP : va_P (dC, dI) vwCl [(o0, .inr (0, [.long (pk (fun i => i)), .long (pk (fun i => i)), .long (pkn (fun _ => 0) 0), .int (iI ((0 : Nat) : Int))]))] H := hPn
  refine va_forget hS.2.2 ?_
  have hS := va_S_nil hS
  refine lv_astore_n (lv' := [(1, .ref o0), (0, .ref b)]) hx hb dL_law_7 rfl hl (by decide) rfl (fun ls hl => ?_)
  refine va_new (ci := 1) (fs := [.int (iI 0), .null, .null, .null, .int (iI 0)]) (C := RX1) (T := TX1) (N := 5) hx hb hts inlX1 tyX1 tyX1_ok hown (hts (.classLink RL 95 RX1) (by decide +kernel)) (hts (.instantiable RX1 5) (by decide +kernel)) (hts (.initialized RX1) (by decide +kernel)) hK hP hD hS hA rfl (fun j hj => by rcases (show j = 0 ∨ j = 1 ∨ j = 2 ∨ j = 3 ∨ j = 4 by omega) with rfl | rfl | rfl | rfl | rfl <;> rfl) (Nat.le_of_ble_eq_true rfl) (Nat.le_of_ble_eq_true rfl) dL_law_8 (fun m0 H hP hD hS => ?_)
  have hP0 := va_P_l hP
  have hP1 := va_P_r hP
  have hD0 := va_D_l hD
  have hm0 : s.heap.size ≤ m0 := (va_D_r hD).2 0 _ rfl
  have hom : ¬ o0 = m0 := fun q => by
    have := hD.1 0 1 _ _ rfl rfl q
    omega
  refine lv_dup hx hb dL_law_11 rfl ?_
  refine ini_call (m0 := m0) (D := (dC, dI)) (va_runI (As := []) (rest := [.ref m0]) ⟨hx, hb, hml, hown, hts⟩ (mX1_init l dC dI m0 H.size) (cwI 0 hts gL_law_X1_init rfl rfl rfl (hts (.initialized RX1) (by decide +kernel)) (hts (.methodLink RL 97 yX1_init) (by decide +kernel)) (hts (.instanceMethod yX1_init) (by decide +kernel)) rfl (by decide +kernel) ⟨Nat.le_of_ble_eq_true rfl, Nat.le_of_ble_eq_true rfl⟩) ⟨fun a U g mk q => by obtain ⟨q0, q1, qP, qK⟩ := q; exact ⟨q0, q1, qP, va_K.moved (u := U) (U := U.calling g mk a) (Vm.Alike.refl U.vm) qK⟩, fun U hU hW => ⟨rfl, by rw [hU], by rw [hU]; exact hP1, va_K.moved hW.alike hK⟩⟩ rfl rfl hl.1 rfl (lv_room (Nat.le_of_ble_eq_true rfl)) dL_law_12 ⟨Nat.le_of_ble_eq_true rfl, Nat.le_of_ble_eq_true rfl⟩) hS.2.2 hm0 hS.1 (fun cI t0 k0 p0 H1 hPm hKm hDm hz hk => ?_)
  have ho0 : o0 < H.size := (hP0 0 _ rfl).lt
  have hP := va_P.app (hP0.kept (H1 := H1) (fun k q hq => by
    have h1 : k < 1 := (List.getElem?_eq_some_iff.mp hq).1
    rw [show k = 0 by omega] at hq
    cases hq
    exact hk o0 ho0 hom)) hPm
  have hD := va_D_app (A := LA s) hD0 hDm (fun q h => h.elim (fun h => by rw [h]; exact hm0) (fun h => Nat.le_trans hS.1 h)) (fun k q hq h => by
    have h1 : k < 1 := (List.getElem?_eq_some_iff.mp hq).1
    rw [show k = 0 by omega] at hq
    cases hq
    exact h.elim hom (fun h => absurd ho0 (Nat.not_lt.mpr h)))
  have hS : va_S (LA s) s.heap H1 [] := ⟨Nat.le_trans hS.1 hz, fun q h1 h2 => (hk q (Nat.lt_of_lt_of_le h1 hS.1) (fun h => h2 (by rw [h]; exact hm0))).trans (hS.2.1 q h1 h2), fun _ h => nomatch h⟩
  refine lv_astore_n (lv' := [(2, .ref m0), (1, .ref o0), (0, .ref b)]) hx hb dL_law_15 rfl hl (by decide) rfl (fun ls hl => ?_)
  refine ib_const hx hb dL_law_16 ?_
  refine va_newa (atype := .long) (ty := .long) (N' := 1) (a0 := (1, .inr (.inl (fun _ => 0)))) hx hb (hts (.arrayClass .long) (by decide +kernel)) rfl hKm hP hD hS hA (fun cA => rfl) (by decide +kernel) (by decide +kernel) (by decide +kernel) (Nat.le_of_ble_eq_true rfl) (Nat.le_of_ble_eq_true rfl) dL_law_17 (fun u0 cJ H hK hP hD hS => ?_)
  have hK : va_K (dC, dI) vwCl [(cJ, .long), (cI, .int)] s := hK.sub [1, 0] rfl
  have hP := hP.sub (ws' := [(o0, .inr (0, [.long (pk (fun i => i)), .long (pk (fun i => i)), .long (pkn (fun _ => 0) 0), .int (iI ((0 : Nat) : Int))])), (u0, .inl (cJ, 1, .inr (.inl (fun _ => 0))))] ++ [(m0, .inr (1, [.int (iI 0), .ref t0, .ref k0, .ref p0, .int (iI ((0 : Nat) : Int))])), (t0, .inl (cI, 24, .inl (fun j => iI ((tb (fun i => i) (fun i => i) j : Nat) : Int)))), (k0, .inl (cI, 12, .inl (fun j => iI (((fun _ => 0 : Nat → Nat) j : Nat) : Int)))), (p0, .inl (cI, 12, .inl (fun j => iI (((fun _ => 0 : Nat → Nat) j : Nat) : Int))))]) [0, 5, 1, 2, 3, 4] rfl
  have hD := hD.sub (ws' := [(o0, .inr (0, [.long (pk (fun i => i)), .long (pk (fun i => i)), .long (pkn (fun _ => 0) 0), .int (iI ((0 : Nat) : Int))])), (u0, .inl (cJ, 1, .inr (.inl (fun _ => 0))))] ++ [(m0, .inr (1, [.int (iI 0), .ref t0, .ref k0, .ref p0, .int (iI ((0 : Nat) : Int))])), (t0, .inl (cI, 24, .inl (fun j => iI ((tb (fun i => i) (fun i => i) j : Nat) : Int)))), (k0, .inl (cI, 12, .inl (fun j => iI (((fun _ => 0 : Nat → Nat) j : Nat) : Int)))), (p0, .inl (cI, 12, .inl (fun j => iI (((fun _ => 0 : Nat → Nat) j : Nat) : Int))))]) [0, 5, 1, 2, 3, 4] (by decide) rfl
  refine lv_astore_n (lv' := [(3, .ref u0), (2, .ref m0), (1, .ref o0), (0, .ref b)]) hx hb dL_law_19 rfl hl (by decide) rfl (fun ls hl => ?_)
  refine ib_const hx hb dL_law_20 ?_
  refine lv_istore (lv' := [(4, .int (iI 0)), (3, .ref u0), (2, .ref m0), (1, .ref o0), (0, .ref b)]) hx hb dL_law_21 hl (by decide) rfl (fun ls hl => ?_)
  refine law_loop (l := l) (dC := dC) (dI := dI) (cI := cI) (cJ := cJ) (L := L) (xs := xs) (o0 := o0) (u0 := u0) (m0 := m0) (t0 := t0) (k0 := k0) (p0 := p0) ⟨hx, hb, hml, hown, hts, hK, hG0, hN, hX, hbl, no_traces hflags⟩ hL (fun H ls => ?_) 512 0 6 58 (fun i => i) (fun i => i) (fun _ => 0) (fun _ => 0) 0 (iI 0) (fun _ => 0) H ls ⟨⟨fun i h => h, fun i j _ _ h => h⟩, ⟨fun i h => h, fun i j _ _ h => h⟩, Nat.zero_le _, fun i h => absurd h (Nat.not_lt_zero i), fun i j h => absurd h (Nat.not_lt_zero i), hP, hD, hS⟩ (lv_sub hl [4, 3, 2, 1, 0] rfl) (by omega) (by decide) (by decide) (by decide)
  refine ib_const hx hb dL_law_1839 ?_
  exact lw_ret hx hb hr hlocks dL_law_1840
