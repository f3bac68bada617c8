section
-- ===== PART A: goes FIRST, ahead of the names: the tables' words, and 'selects' of the private methods out of them =====
/-- a private method of a class that the tables say can be made, by its rows of tables_1 -/
def lw_okq (q : MethodName × Nat) : Prop := (q.1.cls ≠ "java/lang/invoke/MethodHandle" ∧ q.1.cls ≠ "java/lang/invoke/VarHandle") ∧ Cond.instantiable q.1.cls q.2 ∈ tables_1 ∧ Cond.privateMethod q.1 ∈ tables_1 ∧ Cond.instanceMethod q.1 ∈ tables_1
theorem lw_p0 : lw_okq (⟨"java/lang/Throwable", "fillInStackTrace", "(I)Ljava/lang/Throwable;"⟩, 6) := ⟨⟨by decide +kernel, by decide +kernel⟩, List.mem_of_getElem? (i := 92) (by decide +kernel), List.mem_of_getElem? (i := 90) (by decide +kernel), List.mem_of_getElem? (i := 91) (by decide +kernel)⟩
theorem lw_p1 : lw_okq (⟨"ToneRows", "rowAt", "(I)J"⟩, 4) := ⟨⟨by decide +kernel, by decide +kernel⟩, List.mem_of_getElem? (i := 12) (by decide +kernel), List.mem_of_getElem? (i := 145) (by decide +kernel), List.mem_of_getElem? (i := 146) (by decide +kernel)⟩
theorem lw_p2 : lw_okq (⟨"ToneRows", "setRow", "(IJ)V"⟩, 4) := ⟨⟨by decide +kernel, by decide +kernel⟩, List.mem_of_getElem? (i := 12) (by decide +kernel), List.mem_of_getElem? (i := 155) (by decide +kernel), List.mem_of_getElem? (i := 156) (by decide +kernel)⟩
theorem lw_p3 : lw_okq (⟨"ToneRows", "replaceRow", "(IJ)I"⟩, 4) := ⟨⟨by decide +kernel, by decide +kernel⟩, List.mem_of_getElem? (i := 12) (by decide +kernel), List.mem_of_getElem? (i := 181) (by decide +kernel), List.mem_of_getElem? (i := 182) (by decide +kernel)⟩
theorem lw_p4 : lw_okq (⟨"ToneRows", "phraseHas", "(I)Z"⟩, 4) := ⟨⟨by decide +kernel, by decide +kernel⟩, List.mem_of_getElem? (i := 12) (by decide +kernel), List.mem_of_getElem? (i := 363) (by decide +kernel), List.mem_of_getElem? (i := 364) (by decide +kernel)⟩
theorem lw_p5 : lw_okq (⟨"ToneRows", "phraseBegin", "(J)I"⟩, 4) := ⟨⟨by decide +kernel, by decide +kernel⟩, List.mem_of_getElem? (i := 12) (by decide +kernel), List.mem_of_getElem? (i := 391) (by decide +kernel), List.mem_of_getElem? (i := 392) (by decide +kernel)⟩
theorem lw_p6 : lw_okq (⟨"ToneRowsModel", "goesWell", "(I)Z"⟩, 5) := ⟨⟨by decide +kernel, by decide +kernel⟩, List.mem_of_getElem? (i := 409) (by decide +kernel), List.mem_of_getElem? (i := 449) (by decide +kernel), List.mem_of_getElem? (i := 450) (by decide +kernel)⟩
theorem lw_p7 : lw_okq (⟨"ToneRowsModel", "at", "(II)I"⟩, 5) := ⟨⟨by decide +kernel, by decide +kernel⟩, List.mem_of_getElem? (i := 409) (by decide +kernel), List.mem_of_getElem? (i := 453) (by decide +kernel), List.mem_of_getElem? (i := 454) (by decide +kernel)⟩
theorem lw_p8 : lw_okq (⟨"ToneRowsModel", "formAt", "(III)I"⟩, 5) := ⟨⟨by decide +kernel, by decide +kernel⟩, List.mem_of_getElem? (i := 409) (by decide +kernel), List.mem_of_getElem? (i := 467) (by decide +kernel), List.mem_of_getElem? (i := 468) (by decide +kernel)⟩
theorem lw_p9 : lw_okq (⟨"ToneRowsModel", "lay", "(I)I"⟩, 5) := ⟨⟨by decide +kernel, by decide +kernel⟩, List.mem_of_getElem? (i := 409) (by decide +kernel), List.mem_of_getElem? (i := 474) (by decide +kernel), List.mem_of_getElem? (i := 475) (by decide +kernel)⟩
theorem lw_p10 : lw_okq (⟨"ToneRowsModel", "step", "(II)I"⟩, 5) := ⟨⟨by decide +kernel, by decide +kernel⟩, List.mem_of_getElem? (i := 409) (by decide +kernel), List.mem_of_getElem? (i := 494) (by decide +kernel), List.mem_of_getElem? (i := 495) (by decide +kernel)⟩
theorem lw_p11 : lw_okq (⟨"ToneRowsModel", "areSame", "(III)Z"⟩, 5) := ⟨⟨by decide +kernel, by decide +kernel⟩, List.mem_of_getElem? (i := 409) (by decide +kernel), List.mem_of_getElem? (i := 514) (by decide +kernel), List.mem_of_getElem? (i := 515) (by decide +kernel)⟩
theorem lw_p12 : lw_okq (⟨"ToneRowsModel", "itself", "(I)I"⟩, 5) := ⟨⟨by decide +kernel, by decide +kernel⟩, List.mem_of_getElem? (i := 409) (by decide +kernel), List.mem_of_getElem? (i := 526) (by decide +kernel), List.mem_of_getElem? (i := 527) (by decide +kernel)⟩
theorem lw_p13 : lw_okq (⟨"ToneRowsModel", "setOf", "(IIII)I"⟩, 5) := ⟨⟨by decide +kernel, by decide +kernel⟩, List.mem_of_getElem? (i := 409) (by decide +kernel), List.mem_of_getElem? (i := 530) (by decide +kernel), List.mem_of_getElem? (i := 531) (by decide +kernel)⟩
theorem lw_p14 : lw_okq (⟨"ToneRowsModel", "setsKept", "(III)I"⟩, 5) := ⟨⟨by decide +kernel, by decide +kernel⟩, List.mem_of_getElem? (i := 409) (by decide +kernel), List.mem_of_getElem? (i := 560) (by decide +kernel), List.mem_of_getElem? (i := 561) (by decide +kernel)⟩
theorem lw_p15 : lw_okq (⟨"ToneRowsModel", "same", "(IIII)I"⟩, 5) := ⟨⟨by decide +kernel, by decide +kernel⟩, List.mem_of_getElem? (i := 409) (by decide +kernel), List.mem_of_getElem? (i := 568) (by decide +kernel), List.mem_of_getElem? (i := 569) (by decide +kernel)⟩
def lw_privs_1 : List (MethodName × Nat) := [(⟨"java/lang/Throwable", "fillInStackTrace", "(I)Ljava/lang/Throwable;"⟩, 6), (⟨"ToneRows", "rowAt", "(I)J"⟩, 4), (⟨"ToneRows", "setRow", "(IJ)V"⟩, 4), (⟨"ToneRows", "replaceRow", "(IJ)I"⟩, 4), (⟨"ToneRows", "phraseHas", "(I)Z"⟩, 4), (⟨"ToneRows", "phraseBegin", "(J)I"⟩, 4), (⟨"ToneRowsModel", "goesWell", "(I)Z"⟩, 5), (⟨"ToneRowsModel", "at", "(II)I"⟩, 5), (⟨"ToneRowsModel", "formAt", "(III)I"⟩, 5), (⟨"ToneRowsModel", "lay", "(I)I"⟩, 5), (⟨"ToneRowsModel", "step", "(II)I"⟩, 5), (⟨"ToneRowsModel", "areSame", "(III)Z"⟩, 5), (⟨"ToneRowsModel", "itself", "(I)I"⟩, 5), (⟨"ToneRowsModel", "setOf", "(IIII)I"⟩, 5), (⟨"ToneRowsModel", "setsKept", "(III)I"⟩, 5), (⟨"ToneRowsModel", "same", "(IIII)I"⟩, 5)]
theorem lw_r1 : ∀ q ∈ lw_privs_1, lw_okq q := List.forall_mem_cons.mpr ⟨lw_p0, List.forall_mem_cons.mpr ⟨lw_p1, List.forall_mem_cons.mpr ⟨lw_p2, List.forall_mem_cons.mpr ⟨lw_p3, List.forall_mem_cons.mpr ⟨lw_p4, List.forall_mem_cons.mpr ⟨lw_p5, List.forall_mem_cons.mpr ⟨lw_p6, List.forall_mem_cons.mpr ⟨lw_p7, List.forall_mem_cons.mpr ⟨lw_p8, List.forall_mem_cons.mpr ⟨lw_p9, List.forall_mem_cons.mpr ⟨lw_p10, List.forall_mem_cons.mpr ⟨lw_p11, List.forall_mem_cons.mpr ⟨lw_p12, List.forall_mem_cons.mpr ⟨lw_p13, List.forall_mem_cons.mpr ⟨lw_p14, List.forall_mem_cons.mpr ⟨lw_p15, fun _ h => absurd h List.not_mem_nil⟩⟩⟩⟩⟩⟩⟩⟩⟩⟩⟩⟩⟩⟩⟩⟩
theorem lw_p16 : lw_okq (⟨"ToneRowsModel", "isWritten", "(I)Z"⟩, 5) := ⟨⟨by decide +kernel, by decide +kernel⟩, List.mem_of_getElem? (i := 409) (by decide +kernel), List.mem_of_getElem? (i := 587) (by decide +kernel), List.mem_of_getElem? (i := 588) (by decide +kernel)⟩
theorem lw_p17 : lw_okq (⟨"ToneRowsModel", "placeIn", "(II)I"⟩, 5) := ⟨⟨by decide +kernel, by decide +kernel⟩, List.mem_of_getElem? (i := 409) (by decide +kernel), List.mem_of_getElem? (i := 599) (by decide +kernel), List.mem_of_getElem? (i := 600) (by decide +kernel)⟩
def lw_privs_2 : List (MethodName × Nat) := [(⟨"ToneRowsModel", "isWritten", "(I)Z"⟩, 5), (⟨"ToneRowsModel", "placeIn", "(II)I"⟩, 5)]
theorem lw_r2 : ∀ q ∈ lw_privs_2, lw_okq q := List.forall_mem_cons.mpr ⟨lw_p16, List.forall_mem_cons.mpr ⟨lw_p17, fun _ h => absurd h List.not_mem_nil⟩⟩
def lw_privs : List (MethodName × Nat) := lw_privs_1 ++ (lw_privs_2)
def lw_tbl : List Cond := k2_sels lw_privs ++ tables_1
theorem lw_privs_ok : ∀ q ∈ lw_privs, lw_okq q := by
  show ∀ q ∈ lw_privs_1 ++ (lw_privs_2), lw_okq q
  exact List.forall_mem_append.mpr ⟨lw_r1, lw_r2⟩
end
section
/-! ===== BEGIN words of one list among another's, by their places ===== -/
theorem goodIn_r {big : List Cond} (ws : List Cond) (ps : List Nat) (hp : ws = ps.filterMap (fun i => big[i]?)) (h : ws.all goodWord = true) : GoodIn big ws := by
  intro w hw
  have h1 := List.all_eq_true.mp h w hw
  rw [hp] at hw
  obtain ⟨i, -, hi⟩ := List.mem_filterMap.mp hw
  have hm : w ∈ big := by first | exact List.mem_of_getElem? hi | exact List.getElem?_mem hi
  exact ⟨hm, good_of_word h1⟩
theorem goodIn_app {big a b : List Cond} (ha : GoodIn big a) (hb : GoodIn big b) : GoodIn big (a ++ b) := fun w h => (List.mem_append.mp h).elim (ha w) (hb w)
theorem goodIn_ca {big a b : List Cond} {c : Cond} (ha : GoodIn big (c :: a)) (hb : GoodIn big b) : GoodIn big (c :: (a ++ b)) := fun w h => (List.mem_cons.mp h).elim (fun e => ha w (List.mem_cons.mpr (Or.inl e))) (fun h => (List.mem_append.mp h).elim (fun h => ha w (List.mem_cons.mpr (Or.inr h))) (hb w))
theorem goodIn_sub {big ws : List Cond} (hm : ∀ w ∈ ws, w ∈ big) (h : ws.all goodWord = true) : GoodIn big ws := fun w hw => ⟨hm w hw, good_of_word (List.all_eq_true.mp h w hw)⟩
/-! ===== END ===== -/

/-! ===== BEGIN exceptions that leave a method, and their catching by the caller (launches without stack traces) ===== -/
section VXA
/-! The laws vx_back, vx_callV, vx_callS, vx_callSW, vx_throw0, vx_throwS follow proofs of the library, with one case more: JvmDerived/Free/Laws.lean (Back.of_free), Shelf42/LK1.lean (callV, callS), Shelf/KitTraced.lean (throwNew0V, throwNewS). -/
/-- where a method has thrown q: the class by its name, the cell, what was written, the world -/
def vx_T (XC : String → State → State → Prop) (st : State) (q : Addr) (t : State) (mc ms : Nat) (free : Addr → Prop) : Prop :=
  ∃ (E : String) (ce : Cell) (L : List Loc), XC E st t ∧ t.heap[q]? = some ce ∧ ce.vm = .none ∧ st.vm.findClass E = some ce.cls ∧ st.WarmedH t.vm ∧ st.sameButNew ({ t with vm := st.vm } : State) L mc ms ∧ ∀ z ∈ L, free z.base
def vx_Q (Qc : Array Value → State → Outcome → State → Prop) (XC : String → State → State → Prop) (mc ms : Nat) (free : Addr → Prop) : Array Value → State → Outcome → State → Prop := fun a st o t =>
  (Qc a st o t ∧ ∃ L, FrameEnd st o t L mc ms ∧ ∀ q ∈ L, free q.base) ∨ ∃ q, o = .threw q ∧ vx_T XC st q t mc ms free
/-- a callee that returns or throws -/
def vx_Met (l : Launch) (y : MethodName) (ws : List Cond) (rm : Room) (Pc : Array Value → State → Prop) (Qc : Array Value → State → Outcome → State → Prop) (XC : String → State → State → Prop) (mc ms : Nat) (free : Addr → Prop) : Prop :=
  MetFree l y (headSpec ws rm) Pc (fun _ _ _ _ _ => True) (vx_Q Qc XC mc ms free)
def vx_Post (XC : String → State → State → Prop) (mc ms : Nat) (free : Addr → Prop) : Pt → Array Value → Addr → Pt → Prop := fun A a q B =>
  ∃ (g : JFrame) (mk : MethodId) (t : State) (L : List Loc) (E : String) (ce : Cell), B.U.heap = t.heap ∧ B.U.vm = t.vm ∧ XC E (A.U.calling g mk a) t ∧ t.heap[q]? = some ce ∧ ce.vm = .none ∧ A.U.vm.findClass E = some ce.cls ∧ B.locs = A.locs ++ L ∧ (∀ z ∈ L, free z.base) ∧ B.cells = A.cells + mc ∧ B.slots = A.slots + ms
def vx_Back (l : Launch) (R : Room) (p : Program) (e : Env) (below : List Frame) (s : State) (sargs : Array Value) (y : MethodName) (len W9 : Nat)
    (Pre : Pt → Array Value → Prop) (Post : Pt → Array Value → Option Value → Pt → Prop) (PostX : Pt → Array Value → Addr → Pt → Prop) : Prop :=
  ∀ (m : MethodId) (meth : Method) (c : Code) (A : Pt) (g : JFrame) (ig : Instr) (mk : MethodId) (a : Array Value),
    Stand p l e R s m sargs below meth c A.U A.locs A.cells A.slots → g.method = m → g.locals.size = c.maxLocals → decode c.code g.pc = .ok (ig, len) →
    2 * g.monitorRoom + (g.stack.map fun v => v.category).sum ≤ W9 → A.U.methodNamed? y = some mk → Pre A a →
    (∃ (v : Option Value) (B : Pt), Stand p l e R s m sargs below meth c B.U B.locs B.cells B.slots ∧ Post A a v B ∧
      Steps p.tables e below (doInvoke e (A.U.setTop g) [] mk a).1 (B.U.setTop { g with pc := g.pc + len, stack := v.toList ++ g.stack })) ∨
    (∃ (q : Addr) (B : Pt), Stand p l e R s m sargs below meth c B.U B.locs B.cells B.slots ∧ PostX A a q B ∧
      Steps p.tables e below (doInvoke e (A.U.setTop g) [] mk a).1 ((B.U.setTop g).pushFrame (.throwing q)))
section Payer
variable {l : Launch} {R : Room} {p : Program} {e : Env} {below : List Frame} {s : State} {sargs : Array Value} {y : MethodName} {len W9 : Nat}
theorem vx_back {ws : List Cond} {rm : Room} {Pc : Array Value → State → Prop} {Qc : Array Value → State → Outcome → State → Prop} {XC : String → State → State → Prop} {mc ms : Nat} {free : Addr → Prop} {bytes : ByteArray} {maxL : Nat} {ret : Option FieldType}
    (hM : vx_Met l y ws rm Pc Qc XC mc ms free) (hblind : FrameBlind Pc) (hrc : rm.cells = mc) (hrs : rm.slots = ms)
    (hframes : rm.frames + 1 ≤ R.frames) (hlocals : W9 + (maxL + 11) + rm.locals ≤ R.locals)
    (hws : ∀ w ∈ ws, ∀ a' U, s.WarmedH U.vm → w.before a' U = true) (hcode : Cond.code y bytes maxL ret ∈ ws) (hinit : ∀ a' U, s.WarmedH U.vm → (Cond.initialized y.cls).before a' U = true) :
    vx_Back l R p e below s sargs y len W9 (PreOf R mc ms Pc) (PostOf Qc mc ms free) (vx_Post XC mc ms free) := by
  intro m meth c A g ig mk a X hg hsize hdg hW hn hp
  have h1 : (headSpec ws rm).pre.before a A.U = true := atoms_intro fun w hw => hws w hw _ _ X.warmed
  have h2 : (Cond.code y bytes maxL ret).before a A.U = true := hws _ hcode _ _ X.warmed
  have h3 : (Cond.initialized y.cls).before a A.U = true := hinit _ _ X.warmed
  have h4 : A.cells + (headSpec ws rm).room.cells ≤ R.cells := by rw [show (headSpec ws rm).room.cells = mc from hrc]; exact hp.1
  have h5 : A.slots + (headSpec ws rm).room.slots ≤ R.slots := by rw [show (headSpec ws rm).room.slots = ms from hrs]; exact hp.2.1
  have hPc : Pc a (A.U.calling g mk a) := hblind _ _ _ _ hp.2.2
  obtain ⟨U, Ls, c0, s0⟩ := A
  dsimp only [Pt.U, Pt.locs, Pt.cells, Pt.slots] at h1 h2 h3 h4 h5 X hn hPc ⊢
  obtain ⟨methY, cY, hmY, hcY, -, hlY, -, -, -, -⟩ := Cond.code_spec hn h2
  obtain ⟨kY, hkY, -⟩ := className_of_methodNamed hn
  have hinitY : kY.init = .initialized := Cond.initialized_spec (findClass_of_methodNamed hn) hkY h3
  have h : At U g.method c below := by rw [hg]; exact X.here
  have hlocals9 : W9 + (maxL + 11) + (headSpec ws rm).room.locals ≤ R.locals := hlocals
  have happ : (headSpec ws rm).appliesLoose y e.platform (U.calling g mk a) = true :=
    Spec.appliesLoose_calling (g := g) h hdg hn hkY hinitY
      (X.room_calling (g := g) (R' := (headSpec ws rm).room) hsize hmY hcY hframes (by rw [hlY]; omega) h4 h5) h1
  obtain ⟨mid, hmid⟩ := h.above
  have hfr : (U.setTop g).frames = (.java g :: mid) ++ below := by rw [State.frames_setTop' g h.top, hmid]; rfl
  obtain ⟨o, s₂, hsteps, -, hend, hq⟩ := Steps.callFree hM p X.admits X.cas X.clock (acts := []) hfr happ hPc trivial
  have hq' : vx_Q Qc XC mc ms free a (U.calling g mk a) o s₂ := hq
  rw [State.frames_setTop' g h.top] at hend
  obtain ⟨g₀, hg0⟩ := Option.isSome_iff_exists.mp h.top
  obtain ⟨r, hr⟩ := State.topJava?_eq_some.mp hg0
  have hr' : (({ U with heap := s₂.heap, slotsUsed := s₂.slotsUsed } : State).setVm s₂.vm).frames = .java g₀ :: r := hr
  rcases hq' with ⟨hqc, L, hfe, hL⟩ | ⟨q, rfl, E, ce, L, hx, hce, hcv, hcl, hW₂, hsm, hL⟩
  · obtain ⟨⟨v, rfl⟩, hW₂, e2, q2, q3, q4, q5, q6⟩ := id hfe
    have e3 : s₂ = ({ (U.calling g mk a).setFrames s₂.frames with heap := s₂.heap, slotsUsed := s₂.slotsUsed } : State).setVm s₂.vm := by
      have : s₂ = ({ s₂ with vm := (U.calling g mk a).vm } : State).setVm s₂.vm := rfl
      rw [e2] at this
      exact this
    obtain ⟨c₂, i₂, len₂, hc₂, hd₂, hf₂⟩ := hend
    have hW' : U.WarmedH s₂.vm := hW₂
    have hcc : c₂ = c := by
      have h1 : s₂.code? g.method = U.code? g.method := by
        rw [State.code?_eq, State.code?_eq, hW'.alike.method?]
      exact Option.some.inj (hc₂.symm.trans (h1.trans h.code))
    subst hcc
    have hlen : len₂ = len := by rw [hdg] at hd₂; cases hd₂; rfl
    subst hlen
    have hs₂ : s₂ = (({ U with heap := s₂.heap, slotsUsed := s₂.slotsUsed } : State).setVm s₂.vm).setTop { g with pc := g.pc + len₂, stack := v.toList ++ g.stack } := by
      refine e3.trans ?_
      rw [hf₂, State.calling_eq h.top, State.setFrames_setFrames, State.setTop_of_frames _ hr', hr]
      rfl
    have hsame : U.sameButNew ({ U with heap := s₂.heap, slotsUsed := s₂.slotsUsed } : State) L mc ms := by
      refine ⟨?_, q2, q3, q4, q5, q6⟩
      obtain ⟨t, ht, -⟩ := State.frames_cons hr
      show ({ U with heap := s₂.heap, slotsUsed := s₂.slotsUsed } : State) = { U.setFrames U.frames with heap := s₂.heap, slotsUsed := s₂.slotsUsed }
      rw [State.setFrames_self ht]
    subst hg
    refine Or.inl ⟨v, ⟨(({ U with heap := s₂.heap, slotsUsed := s₂.slotsUsed } : State).setVm s₂.vm), Ls ++ L, c0 + mc, s0 + ms⟩,
      ⟨X.admits, X.cas, X.clock, X.frames, X.room, X.hears, X.method, X.code, (X.here.setHeapUsed s₂.heap s₂.slotsUsed).setVm hW'.alike, X.tail, State.WarmedH.trans X.warmed hW', X.limits, X.bytes, X.same.trans (hsame.setVm s.vm)⟩,
      ⟨g, mk, s₂, L, rfl, rfl, hqc, rfl, hL, rfl, rfl⟩, ?_⟩
    show Steps p.tables e below _ ((({ U with heap := s₂.heap, slotsUsed := s₂.slotsUsed } : State).setVm s₂.vm).setTop { g with pc := g.pc + len₂, stack := v.toList ++ g.stack })
    rw [← hs₂]
    exact hsteps
  · obtain ⟨e2, q2, q3, q4, q5, q6⟩ := id hsm
    have e3 : s₂ = ({ (U.calling g mk a).setFrames s₂.frames with heap := s₂.heap, slotsUsed := s₂.slotsUsed } : State).setVm s₂.vm := by
      have : s₂ = ({ s₂ with vm := (U.calling g mk a).vm } : State).setVm s₂.vm := rfl
      rw [e2] at this
      exact this
    have hf₂ : s₂.frames = .throwing q :: .java g :: U.frames.tail := hend
    have hW' : U.WarmedH s₂.vm := hW₂
    have hs₂ : s₂ = ((({ U with heap := s₂.heap, slotsUsed := s₂.slotsUsed } : State).setVm s₂.vm).setTop g).pushFrame (.throwing q) := by
      refine e3.trans ?_
      rw [hf₂, State.calling_eq h.top, State.setFrames_setFrames, State.pushFrame, State.frames_setTop _ hr', State.setTop_of_frames _ hr', State.setFrames_setFrames, hr]
      rfl
    have hsame : U.sameButNew ({ U with heap := s₂.heap, slotsUsed := s₂.slotsUsed } : State) L mc ms := by
      refine ⟨?_, q2, q3, q4, q5, q6⟩
      obtain ⟨t, ht, -⟩ := State.frames_cons hr
      show ({ U with heap := s₂.heap, slotsUsed := s₂.slotsUsed } : State) = { U.setFrames U.frames with heap := s₂.heap, slotsUsed := s₂.slotsUsed }
      rw [State.setFrames_self ht]
    subst hg
    refine Or.inr ⟨q, ⟨(({ U with heap := s₂.heap, slotsUsed := s₂.slotsUsed } : State).setVm s₂.vm), Ls ++ L, c0 + mc, s0 + ms⟩,
      ⟨X.admits, X.cas, X.clock, X.frames, X.room, X.hears, X.method, X.code, (X.here.setHeapUsed s₂.heap s₂.slotsUsed).setVm hW'.alike, X.tail, State.WarmedH.trans X.warmed hW', X.limits, X.bytes, X.same.trans (hsame.setVm s.vm)⟩,
      ⟨g, mk, s₂, L, E, ce, rfl, rfl, hx, hce, hcv, hcl, rfl, hL, rfl, rfl⟩, ?_⟩
    show Steps p.tables e below _ (((({ U with heap := s₂.heap, slotsUsed := s₂.slotsUsed } : State).setVm s₂.vm).setTop g).pushFrame (.throwing q))
    rw [← hs₂]
    exact hsteps
end Payer
section Calls
variable {p : Program} {l : Launch} {e : Env} {R : Room} {s : State} {m : MethodId} {args : Array Value} {below : List Frame} {meth : Method} {c : Code} {T : State} {locs : List Loc} {cells slots : Nat}
theorem vx_callV (X : Stand p l e R s m args below meth c T locs cells slots) (hexec : p.tables.exec = Jvm.exec) {own C : String} {index : Nat} {y : MethodName} {bytes : ByteArray} {maxL : Nat} {ret : Option FieldType}
    (hown : s.vm.findClass own = some m.cls) (hlink : (Cond.methodLink own index y).before args s = true) (hinst : (Cond.instanceMethod y).before args s = true) (hsel : (Cond.selects C y y).before args s = true)
    (hcode : (Cond.code y bytes maxL ret).before args s = true) (hy : y.cls ≠ "java/lang/invoke/MethodHandle" ∧ y.cls ≠ "java/lang/invoke/VarHandle")
    {W9 : Nat} {Pre : Pt → Array Value → Prop} {Post : Pt → Array Value → Option Value → Pt → Prop} {PostX : Pt → Array Value → Addr → Pt → Prop} (hK : vx_Back l R p e below s args y 3 W9 Pre Post PostX)
    {b : Addr} {cellB : Cell} (hcell : T.heap[b]? = some cellB) (hobj : cellB.vm.isStatics = false) (hcls : s.vm.findClass C = some cellB.cls)
    {g : JFrame} (hg : g.method = m) (hsize : g.locals.size = c.maxLocals) {argsL rest : List Value} (hlen : ∀ sig, parseMethodDescriptor y.desc = some sig → argsL.length = sig.parameters.length)
    (hstack : g.stack = argsL.reverse ++ .ref b :: rest) (hW : 2 * g.monitorRoom + (rest.map fun v => v.category).sum ≤ W9) (hdg : decode c.code g.pc = .ok (.invokevirtual index, 3))
    (hpre : ∀ vm₁, s.WarmedH vm₁ → Pre ⟨T.setVm vm₁, locs, cells, slots⟩ (Value.ref b :: argsL).toArray) :
    (∃ (v : Option Value) (vm₁ : Vm) (B : Pt), s.WarmedH vm₁ ∧ Stand p l e R s m args below meth c B.U B.locs B.cells B.slots ∧ Post ⟨T.setVm vm₁, locs, cells, slots⟩ (Value.ref b :: argsL).toArray v B ∧
      ∀ target, Steps p.tables e below (B.U.setTop { g with pc := g.pc + 3, stack := v.toList ++ rest }) target → Steps p.tables e below (T.setTop g) target) ∨
    (∃ (q : Addr) (vm₁ : Vm) (B : Pt), s.WarmedH vm₁ ∧ Stand p l e R s m args below meth c B.U B.locs B.cells B.slots ∧ PostX ⟨T.setVm vm₁, locs, cells, slots⟩ (Value.ref b :: argsL).toArray q B ∧
      Steps p.tables e below (T.setTop g) ((B.U.setTop { g with stack := rest }).pushFrame (.throwing q))) := by
  obtain ⟨mk, methM, hnamed, hmethM, hstM, habM⟩ := Cond.instanceMethod_spec hinst
  obtain ⟨methM', cM, hmethM', -, -, -, -, -, -, hsigM⟩ := Cond.code_spec hnamed hcode
  cases hmethM.symm.trans hmethM'
  obtain ⟨c2, r2, m2, q1, q2, q3, q4, kP, hkP, hkPi⟩ := Cond.selects_spec hsel
  cases hcls.symm.trans q1
  cases (State.methodFound?_of_named hnamed hy).symm.trans q2
  cases hnamed.symm.trans q3
  have hselP : selectMethod e.platform s.vm cellB.cls mk = .method mk := by rw [Launch.admits_selectMethod X.admits]; exact q4
  obtain ⟨vm₁, X₁, hstep₁⟩ := X.invokevirtual hexec hown hlink hnamed hmethM hstM hkP hkPi hy (a := b) (cell := cellB) hcell
    (fun z h => by rw [h] at hobj; cases hobj) hselP hmethM habM hkP hkPi (g := g) hg (argsL := argsL) (rest := rest) (hlen _ hsigM) hstack hdg
  rcases hK m meth c ⟨T.setVm vm₁, locs, cells, slots⟩ { g with stack := rest } (.invokevirtual index) mk (Value.ref b :: argsL).toArray X₁ hg hsize hdg hW (X₁.named hnamed) (hpre vm₁ X₁.warmed) with ⟨v, B, X', hpost, hsteps⟩ | ⟨q, B, X', hpost, hsteps⟩
  · exact Or.inl ⟨v, vm₁, B, X₁.warmed, X', hpost, fun target h => hstep₁ _ fun acts => by rw [doInvoke_state]; exact hsteps.trans h⟩
  · exact Or.inr ⟨q, vm₁, B, X₁.warmed, X', hpost, hstep₁ _ fun acts => by rw [doInvoke_state]; exact hsteps⟩
theorem vx_callS (X : Stand p l e R s m args below meth c T locs cells slots) (hexec : p.tables.exec = Jvm.exec) {own : String} {index : Nat} {y : MethodName} {bytes : ByteArray} {maxL : Nat} {ret : Option FieldType}
    (hown : s.vm.findClass own = some m.cls) (hlink : (Cond.methodLink own index y).before args s = true) (hstat : (Cond.static y).before args s = true) (hinit : (Cond.initialized y.cls).before args s = true)
    (hcode : (Cond.code y bytes maxL ret).before args s = true) (hy : y.cls ≠ "java/lang/invoke/MethodHandle" ∧ y.cls ≠ "java/lang/invoke/VarHandle")
    {W9 : Nat} {Pre : Pt → Array Value → Prop} {Post : Pt → Array Value → Option Value → Pt → Prop} {PostX : Pt → Array Value → Addr → Pt → Prop} (hK : vx_Back l R p e below s args y 3 W9 Pre Post PostX)
    {g : JFrame} (hg : g.method = m) (hsize : g.locals.size = c.maxLocals) {argsL rest : List Value} (hlen : ∀ sig, parseMethodDescriptor y.desc = some sig → argsL.length = sig.parameters.length)
    (hstack : g.stack = argsL.reverse ++ rest) (hW : 2 * g.monitorRoom + (rest.map fun v => v.category).sum ≤ W9) (hdg : decode c.code g.pc = .ok (.invokestatic index, 3))
    (hpre : ∀ vm₁, s.WarmedH vm₁ → Pre ⟨T.setVm vm₁, locs, cells, slots⟩ argsL.toArray) :
    (∃ (v : Option Value) (vm₁ : Vm) (B : Pt), s.WarmedH vm₁ ∧ Stand p l e R s m args below meth c B.U B.locs B.cells B.slots ∧ Post ⟨T.setVm vm₁, locs, cells, slots⟩ argsL.toArray v B ∧
      ∀ target, Steps p.tables e below (B.U.setTop { g with pc := g.pc + 3, stack := v.toList ++ rest }) target → Steps p.tables e below (T.setTop g) target) ∨
    (∃ (q : Addr) (vm₁ : Vm) (B : Pt), s.WarmedH vm₁ ∧ Stand p l e R s m args below meth c B.U B.locs B.cells B.slots ∧ PostX ⟨T.setVm vm₁, locs, cells, slots⟩ argsL.toArray q B ∧
      Steps p.tables e below (T.setTop g) ((B.U.setTop { g with stack := rest }).pushFrame (.throwing q))) := by
  obtain ⟨mk, hnamed⟩ := Cond.code_named hcode
  obtain ⟨methM, cM, hmethM, -, -, -, -, -, -, hsigM⟩ := Cond.code_spec hnamed hcode
  have hstatic : methM.isStatic = true := Cond.static_spec hnamed hmethM hstat
  obtain ⟨kP, hkP, -⟩ := className_of_methodNamed hnamed
  have hinitP : kP.init = .initialized := Cond.initialized_spec (findClass_of_methodNamed hnamed) hkP hinit
  obtain ⟨vm₁, X₁, hstep₁⟩ := X.invokestatic hexec hown hlink hnamed hmethM hstatic hkP hinitP hy (g := g) hg (argsL := argsL) (rest := rest) (hlen _ hsigM) hstack hdg
  rcases hK m meth c ⟨T.setVm vm₁, locs, cells, slots⟩ { g with stack := rest } (.invokestatic index) mk argsL.toArray X₁ hg hsize hdg hW (X₁.named hnamed) (hpre vm₁ X₁.warmed) with ⟨v, B, X', hpost, hsteps⟩ | ⟨q, B, X', hpost, hsteps⟩
  · exact Or.inl ⟨v, vm₁, B, X₁.warmed, X', hpost, fun target h => hstep₁ _ fun acts => by rw [doInvoke_state]; exact hsteps.trans h⟩
  · exact Or.inr ⟨q, vm₁, B, X₁.warmed, X', hpost, hstep₁ _ fun acts => by rw [doInvoke_state]; exact hsteps⟩
end Calls
theorem vx_cls {s : State} {T : State} {vm₁ : Vm} {E : String} {k : ClassId} (hW : s.WarmedH vm₁) (h : (T.setVm vm₁).vm.findClass E = some k) : s.vm.findClass E = some k := by
  have h1 : vm₁.findClass E = some k := h
  rw [hW.alike.findClass] at h1
  exact h1
/-- the method's frame g, with q thrown over it -/
def vx_W (p : Program) (l : Launch) (e : Env) (R : Room) (s : State) (m : MethodId) (args : Array Value) (below : List Frame) (meth : Method) (c : Code) (H : Heap) (locs : List Loc) (cells slots : Nat) (Q : State → Prop) (g : JFrame) (q : Addr) : Prop :=
  ∀ T : State, T.heap = H → Stand p l e R s m args below meth c T locs cells slots → ∃ t, Steps p.tables e below ((T.setTop g).pushFrame (.throwing q)) t ∧ Q t
def vx_Run (p : Program) (l : Launch) (e : Env) (R : Room) (s : State) (m : MethodId) (args : Array Value) (below : List Frame) (meth : Method) (c : Code) (H : Heap) (locs : List Loc) (cells slots mc ms : Nat) (g : JFrame) (rest : List Value) (Qa : State → Outcome → State → Prop) (XC : String → State → State → Prop) (free : Addr → Prop) : Prop :=
  ∀ T : State, T.heap = H → Stand p l e R s m args below meth c T locs cells slots →
    (∃ (v : Option Value) (st₀ t T' : State) (L : List Loc), st₀.heap = H ∧ Stand p l e R s m args below meth c T' (locs ++ L) (cells + mc) (slots + ms) ∧ (∀ q ∈ L, free q.base) ∧ T'.heap = t.heap ∧ T'.vm = t.vm ∧ Qa st₀ (.returned v) t ∧
      Goes p e below T g T' { g with pc := g.pc + 3, stack := v.toList ++ rest }) ∨
    (∃ (q : Addr) (st₀ t T' : State) (L : List Loc) (E : String) (ce : Cell), st₀.heap = H ∧ Stand p l e R s m args below meth c T' (locs ++ L) (cells + mc) (slots + ms) ∧ (∀ z ∈ L, free z.base) ∧ T'.heap = t.heap ∧ T'.vm = t.vm ∧ XC E st₀ t ∧ t.heap[q]? = some ce ∧ ce.vm = .none ∧ s.vm.findClass E = some ce.cls ∧
      Steps p.tables e below (T.setTop g) ((T'.setTop { g with stack := rest }).pushFrame (.throwing q)))
def vx_X {S : Type} (px : S → Prop) (B : String → S → State → Prop) (A : Nat → Prop) : String → State → State → Prop := fun E st t => ∃ u : S, px u ∧ B E u t ∧ va_F A st t
section Runs
variable {p : Program} {l : Launch} {e : Env} {R : Room} {s : State} {m : MethodId} {args : Array Value} {below : List Frame} {meth : Method} {c : Code} {H : Heap} {locs : List Loc} {cells slots : Nat}
variable {y : MethodName} {bytes cc : ByteArray} {maxL nL mc ms n index : Nat} {ret : Option FieldType} {ws : List Cond} {rm : Room} {Pc : Array Value → State → Prop} {Qc : Array Value → State → Outcome → State → Prop} {XC : String → State → State → Prop} {free : Addr → Prop} {Ts : List Cond} {own C : String} {b : Addr} {As rest : List Value} {g : JFrame}
theorem vx_callBack (cb : CallB R s args own index y bytes maxL ret ws rm mc ms n) (hM : vx_Met l y ws rm Pc Qc XC mc ms free) (hbl : FrameBlind Pc) : vx_Back l R p e below s args y 3 8 (PreOf R mc ms Pc) (PostOf Qc mc ms free) (vx_Post XC mc ms free) := by
  obtain ⟨hrc, hrs, hfr, hlo, hws, hcw, -, hini, -⟩ := cb
  exact vx_back (bytes := bytes) (maxL := maxL) (ret := ret) hM hbl hrc hrs hfr hlo hws hcw (fun a' U hW => word_at hW (Or.inl (by first | rfl | simp [Cond.onTables, Cond.keeps, Cond.steady])) hini)
theorem vx_runV (S : CallFix p m c cc nL s args Ts own) (hM : vx_Met l y ws rm Pc Qc XC mc ms free) (cw : CallW R s args own C index y bytes maxL ret ws rm mc ms n) (hp : PreV s H C b Pc As)
    (hg : g.method = m) (hn : As.length = n) (hsize : g.locals.size = nL) (hstack : g.stack = As.reverse ++ .ref b :: rest) (hW : 2 * g.monitorRoom + (rest.map fun v => v.category).sum ≤ 8) (hdg : decode cc g.pc = .ok (.invokevirtual index, 3)) (hf : cells + mc ≤ R.cells ∧ slots + ms ≤ R.slots) :
    vx_Run p l e R s m args below meth c H locs cells slots mc ms g rest (Qc (Value.ref b :: As).toArray) XC free := by
  have hK : vx_Back l R p e below s args y 3 8 (PreOf R mc ms Pc) (PostOf Qc mc ms free) (vx_Post XC mc ms free) := vx_callBack cw.1 hM hp.1
  obtain ⟨⟨-, -, -, -, -, -, hcode, -, hy, hlen, hl⟩, hin, hse⟩ := cw
  obtain ⟨hx, hb, hml, ho, -⟩ := S
  obtain ⟨-, ⟨cellB, hcB, hoB, hclB⟩, hPc⟩ := hp
  intro T hT X
  rcases vx_callV X hx (C := C) (bytes := bytes) (maxL := maxL) (ret := ret) ho hl hin hse hcode hy hK (by rw [hT]; exact hcB) hoB hclB hg (hsize.trans hml.symm) (argsL := As) (rest := rest) (fun sig h => hn.trans (hlen sig h)) hstack hW (by rw [hb]; exact hdg)
    (fun vm₁ hW₁ => ⟨hf.1, hf.2, hPc (T.setVm vm₁) hT hW₁⟩) with ⟨v, vm₁, ⟨U', l2, c2, s2⟩, hW₁, X', ⟨g', mk, t, L, e1, e2, hq, h1, hL, h2, h3⟩, st⟩ | ⟨q, vm₁, ⟨U', l2, c2, s2⟩, hW₁, X', ⟨g', mk, t, L, E, ce, e1, e2, hq, hce, hcv, hcl, h1, hL, h2, h3⟩, st⟩
  · dsimp only [Pt.U, Pt.locs, Pt.cells, Pt.slots] at X' e1 e2 h1 h2 h3 st
    subst h1; subst h2; subst h3
    exact Or.inl ⟨v, (T.setVm vm₁).calling g' mk (Value.ref b :: As).toArray, t, U', L, hT, X', hL, e1, e2, hq, st⟩
  · dsimp only [Pt.U, Pt.locs, Pt.cells, Pt.slots] at X' e1 e2 h1 h2 h3 st hcl
    subst h1; subst h2; subst h3
    exact Or.inr ⟨q, (T.setVm vm₁).calling g' mk (Value.ref b :: As).toArray, t, U', L, E, ce, hT, X', hL, e1, e2, hq, hce, hcv, vx_cls hW₁ hcl, st⟩
theorem vx_runS (S : CallFix p m c cc nL s args Ts own) (hM : vx_Met l y ws rm Pc Qc XC mc ms free) (cw : CallB R s args own index y bytes maxL ret ws rm mc ms n ∧ (Cond.static y).before args s = true) (hp : PreS s H Pc As)
    (hg : g.method = m) (hn : As.length = n) (hsize : g.locals.size = nL) (hstack : g.stack = As.reverse ++ rest) (hW : 2 * g.monitorRoom + (rest.map fun v => v.category).sum ≤ 8) (hdg : decode cc g.pc = .ok (.invokestatic index, 3)) (hf : cells + mc ≤ R.cells ∧ slots + ms ≤ R.slots) :
    vx_Run p l e R s m args below meth c H locs cells slots mc ms g rest (Qc As.toArray) XC free := by
  have hK : vx_Back l R p e below s args y 3 8 (PreOf R mc ms Pc) (PostOf Qc mc ms free) (vx_Post XC mc ms free) := vx_callBack cw.1 hM hp.1
  obtain ⟨⟨-, -, -, -, -, -, hcode, hini, hy, hlen, hl⟩, hstt⟩ := cw
  obtain ⟨hx, hb, hml, ho, -⟩ := S
  intro T hT X
  rcases vx_callS X hx (bytes := bytes) (maxL := maxL) (ret := ret) ho hl hstt hini hcode hy hK hg (hsize.trans hml.symm) (argsL := As) (rest := rest) (fun sig h => hn.trans (hlen sig h)) hstack hW (by rw [hb]; exact hdg)
    (fun vm₁ hW₁ => ⟨hf.1, hf.2, hp.2 (T.setVm vm₁) hT hW₁⟩) with ⟨v, vm₁, ⟨U', l2, c2, s2⟩, hW₁, X', ⟨g', mk, t, L, e1, e2, hq, h1, hL, h2, h3⟩, st⟩ | ⟨q, vm₁, ⟨U', l2, c2, s2⟩, hW₁, X', ⟨g', mk, t, L, E, ce, e1, e2, hq, hce, hcv, hcl, h1, hL, h2, h3⟩, st⟩
  · dsimp only [Pt.U, Pt.locs, Pt.cells, Pt.slots] at X' e1 e2 h1 h2 h3 st
    subst h1; subst h2; subst h3
    exact Or.inl ⟨v, (T.setVm vm₁).calling g' mk As.toArray, t, U', L, hT, X', hL, e1, e2, hq, st⟩
  · dsimp only [Pt.U, Pt.locs, Pt.cells, Pt.slots] at X' e1 e2 h1 h2 h3 st hcl
    subst h1; subst h2; subst h3
    exact Or.inr ⟨q, (T.setVm vm₁).calling g' mk As.toArray, t, U', L, E, ce, hT, X', hL, e1, e2, hq, hce, hcv, vx_cls hW₁ hcl, st⟩
end Runs
section Rows
variable {p : Program} {l : Launch} {e : Env} {R : Room} {s : State} {m : MethodId} {args : Array Value} {below : List Frame} {meth : Method} {c : Code} {H : Heap} {locs : List Loc} {cells slots : Nat} {Q : State → Prop}
variable {mc ms : Nat} {free : Addr → Prop} {A0 A1 : Nat → Prop} {H0 : Heap} {a : Array Value} {pc : Nat} {ls : Array Slot} {st0 rest : List Value}
theorem vx_keep {st₀ t T' : State} {L : List Loc} (h0 : st₀.heap = H) (e1 : T'.heap = t.heap) (hS : va_S A0 H0 H locs) (hA : ∀ q, q < H.size → A1 q → A0 q) (hf : ∀ q, free q → A0 q) (hL : ∀ q ∈ L, free q.base) (hF : va_F A1 st₀ t) :
    H.size ≤ T'.heap.size ∧ (∀ q : Nat, q < H.size → ¬ A1 q → T'.heap[q]? = H[q]?) ∧ va_S A0 H0 T'.heap (locs ++ L) := by
  obtain ⟨hz, hk⟩ := hF
  rw [h0] at hz hk
  exact ⟨by rw [e1]; exact hz, fun q h1 h2 => by rw [e1]; exact hk q h1 h2,
    ⟨Nat.le_trans hS.1 (by rw [e1]; exact hz), fun q h1 h2 => by rw [e1, hk q (Nat.lt_of_lt_of_le h1 hS.1) (fun z => h2 (hA q (Nat.lt_of_lt_of_le h1 hS.1) z))]; exact hS.2.1 q h1 h2, fun q hq => by
      rcases List.mem_append.mp hq with h | h
      · exact hS.2.2 q h
      · exact hf _ (hL q h)⟩⟩
theorem vx_calli {S SX : Type} {post : Int32 → S → Prop} {px : SX → Prop} {B : S → State → Prop} {BX : String → SX → State → Prop} {AX : Nat → Prop} (hr : vx_Run p l e R s m args below meth c H locs cells slots mc ms (F0 m pc ls st0) rest (va_Qi post B A1 a) (vx_X px BX AX) free) (hS : va_S A0 H0 H locs) (hA : ∀ q, q < H.size → A1 q → A0 q) (hf : ∀ q, free q → A0 q) (hAX : ∀ q, q < H.size → AX q → A0 q)
    (kx : ∀ (E : String) (ce : Cell) (q9 : Addr) (u : SX) (t : State) (H1 : Heap) (locs1 : List Loc), t.heap = H1 → s.vm.Alike t.vm → px u → BX E u t → H.size ≤ H1.size → (∀ q : Nat, q < H.size → ¬ AX q → H1[q]? = H[q]?) → va_S A0 H0 H1 locs1 → H1[q9]? = some ce → ce.vm = .none → s.vm.findClass E = some ce.cls → vx_W p l e R s m args below meth c H1 locs1 (cells + mc) (slots + ms) Q (F0 m pc ls rest) q9)
    (kk : ∀ (r : Int32) (u : S) (t : State) (H1 : Heap) (locs1 : List Loc), t.heap = H1 → s.vm.Alike t.vm → post r u → B u t → H.size ≤ H1.size → (∀ q : Nat, q < H.size → ¬ A1 q → H1[q]? = H[q]?) → va_S A0 H0 H1 locs1 → W p l e R s m args below meth c H1 locs1 (cells + mc) (slots + ms) Q (F0 m (pc + 3) ls (.int r :: rest))) : W p l e R s m args below meth c H locs cells slots Q (F0 m pc ls st0) := by
  intro T hT X
  rcases hr T hT X with ⟨v, st₀, t, T', L, h0, X', hL, e1, e2, ⟨⟨r, u, hv, hp, hb⟩, hF⟩, st⟩ | ⟨q, st₀, t, T', L, E, ce, h0, X', hL, e1, e2, ⟨u, hp, hb, hF⟩, hce, hcv, hcl, st⟩
  · cases hv
    obtain ⟨k1, k2, k3⟩ := vx_keep h0 e1 hS hA hf hL hF
    obtain ⟨t2, a1, b1⟩ := kk r u t T'.heap (locs ++ L) e1.symm (by rw [← e2]; exact X'.warmed.alike) hp hb k1 k2 k3 T' rfl X'
    exact ⟨t2, st t2 a1, b1⟩
  · obtain ⟨k1, k2, k3⟩ := vx_keep h0 e1 hS hAX hf hL hF
    obtain ⟨t2, a1, b1⟩ := kx E ce q u t T'.heap (locs ++ L) e1.symm (by rw [← e2]; exact X'.warmed.alike) hp hb k1 k2 k3 (by rw [e1]; exact hce) hcv hcl T' rfl X'
    exact ⟨t2, st.trans a1, b1⟩
theorem vx_calll {S SX : Type} {post : Int64 → S → Prop} {px : SX → Prop} {B : S → State → Prop} {BX : String → SX → State → Prop} {AX : Nat → Prop} (hr : vx_Run p l e R s m args below meth c H locs cells slots mc ms (F0 m pc ls st0) rest (va_Ql post B A1 a) (vx_X px BX AX) free) (hS : va_S A0 H0 H locs) (hA : ∀ q, q < H.size → A1 q → A0 q) (hf : ∀ q, free q → A0 q) (hAX : ∀ q, q < H.size → AX q → A0 q)
    (kx : ∀ (E : String) (ce : Cell) (q9 : Addr) (u : SX) (t : State) (H1 : Heap) (locs1 : List Loc), t.heap = H1 → s.vm.Alike t.vm → px u → BX E u t → H.size ≤ H1.size → (∀ q : Nat, q < H.size → ¬ AX q → H1[q]? = H[q]?) → va_S A0 H0 H1 locs1 → H1[q9]? = some ce → ce.vm = .none → s.vm.findClass E = some ce.cls → vx_W p l e R s m args below meth c H1 locs1 (cells + mc) (slots + ms) Q (F0 m pc ls rest) q9)
    (kk : ∀ (r : Int64) (u : S) (t : State) (H1 : Heap) (locs1 : List Loc), t.heap = H1 → s.vm.Alike t.vm → post r u → B u t → H.size ≤ H1.size → (∀ q : Nat, q < H.size → ¬ A1 q → H1[q]? = H[q]?) → va_S A0 H0 H1 locs1 → W p l e R s m args below meth c H1 locs1 (cells + mc) (slots + ms) Q (F0 m (pc + 3) ls (.long r :: rest))) : W p l e R s m args below meth c H locs cells slots Q (F0 m pc ls st0) := by
  intro T hT X
  rcases hr T hT X with ⟨v, st₀, t, T', L, h0, X', hL, e1, e2, ⟨⟨r, u, hv, hp, hb⟩, hF⟩, st⟩ | ⟨q, st₀, t, T', L, E, ce, h0, X', hL, e1, e2, ⟨u, hp, hb, hF⟩, hce, hcv, hcl, st⟩
  · cases hv
    obtain ⟨k1, k2, k3⟩ := vx_keep h0 e1 hS hA hf hL hF
    obtain ⟨t2, a1, b1⟩ := kk r u t T'.heap (locs ++ L) e1.symm (by rw [← e2]; exact X'.warmed.alike) hp hb k1 k2 k3 T' rfl X'
    exact ⟨t2, st t2 a1, b1⟩
  · obtain ⟨k1, k2, k3⟩ := vx_keep h0 e1 hS hAX hf hL hF
    obtain ⟨t2, a1, b1⟩ := kx E ce q u t T'.heap (locs ++ L) e1.symm (by rw [← e2]; exact X'.warmed.alike) hp hb k1 k2 k3 (by rw [e1]; exact hce) hcv hcl T' rfl X'
    exact ⟨t2, st.trans a1, b1⟩
theorem vx_callf {S SX : Type} {post : UInt32 → S → Prop} {px : SX → Prop} {B : S → State → Prop} {BX : String → SX → State → Prop} {AX : Nat → Prop} (hr : vx_Run p l e R s m args below meth c H locs cells slots mc ms (F0 m pc ls st0) rest (va_Qf post B A1 a) (vx_X px BX AX) free) (hS : va_S A0 H0 H locs) (hA : ∀ q, q < H.size → A1 q → A0 q) (hf : ∀ q, free q → A0 q) (hAX : ∀ q, q < H.size → AX q → A0 q)
    (kx : ∀ (E : String) (ce : Cell) (q9 : Addr) (u : SX) (t : State) (H1 : Heap) (locs1 : List Loc), t.heap = H1 → s.vm.Alike t.vm → px u → BX E u t → H.size ≤ H1.size → (∀ q : Nat, q < H.size → ¬ AX q → H1[q]? = H[q]?) → va_S A0 H0 H1 locs1 → H1[q9]? = some ce → ce.vm = .none → s.vm.findClass E = some ce.cls → vx_W p l e R s m args below meth c H1 locs1 (cells + mc) (slots + ms) Q (F0 m pc ls rest) q9)
    (kk : ∀ (r : UInt32) (u : S) (t : State) (H1 : Heap) (locs1 : List Loc), t.heap = H1 → s.vm.Alike t.vm → post r u → B u t → H.size ≤ H1.size → (∀ q : Nat, q < H.size → ¬ A1 q → H1[q]? = H[q]?) → va_S A0 H0 H1 locs1 → W p l e R s m args below meth c H1 locs1 (cells + mc) (slots + ms) Q (F0 m (pc + 3) ls (.float r :: rest))) : W p l e R s m args below meth c H locs cells slots Q (F0 m pc ls st0) := by
  intro T hT X
  rcases hr T hT X with ⟨v, st₀, t, T', L, h0, X', hL, e1, e2, ⟨⟨r, u, hv, hp, hb⟩, hF⟩, st⟩ | ⟨q, st₀, t, T', L, E, ce, h0, X', hL, e1, e2, ⟨u, hp, hb, hF⟩, hce, hcv, hcl, st⟩
  · cases hv
    obtain ⟨k1, k2, k3⟩ := vx_keep h0 e1 hS hA hf hL hF
    obtain ⟨t2, a1, b1⟩ := kk r u t T'.heap (locs ++ L) e1.symm (by rw [← e2]; exact X'.warmed.alike) hp hb k1 k2 k3 T' rfl X'
    exact ⟨t2, st t2 a1, b1⟩
  · obtain ⟨k1, k2, k3⟩ := vx_keep h0 e1 hS hAX hf hL hF
    obtain ⟨t2, a1, b1⟩ := kx E ce q u t T'.heap (locs ++ L) e1.symm (by rw [← e2]; exact X'.warmed.alike) hp hb k1 k2 k3 (by rw [e1]; exact hce) hcv hcl T' rfl X'
    exact ⟨t2, st.trans a1, b1⟩
theorem vx_calld {S SX : Type} {post : UInt64 → S → Prop} {px : SX → Prop} {B : S → State → Prop} {BX : String → SX → State → Prop} {AX : Nat → Prop} (hr : vx_Run p l e R s m args below meth c H locs cells slots mc ms (F0 m pc ls st0) rest (va_Qd post B A1 a) (vx_X px BX AX) free) (hS : va_S A0 H0 H locs) (hA : ∀ q, q < H.size → A1 q → A0 q) (hf : ∀ q, free q → A0 q) (hAX : ∀ q, q < H.size → AX q → A0 q)
    (kx : ∀ (E : String) (ce : Cell) (q9 : Addr) (u : SX) (t : State) (H1 : Heap) (locs1 : List Loc), t.heap = H1 → s.vm.Alike t.vm → px u → BX E u t → H.size ≤ H1.size → (∀ q : Nat, q < H.size → ¬ AX q → H1[q]? = H[q]?) → va_S A0 H0 H1 locs1 → H1[q9]? = some ce → ce.vm = .none → s.vm.findClass E = some ce.cls → vx_W p l e R s m args below meth c H1 locs1 (cells + mc) (slots + ms) Q (F0 m pc ls rest) q9)
    (kk : ∀ (r : UInt64) (u : S) (t : State) (H1 : Heap) (locs1 : List Loc), t.heap = H1 → s.vm.Alike t.vm → post r u → B u t → H.size ≤ H1.size → (∀ q : Nat, q < H.size → ¬ A1 q → H1[q]? = H[q]?) → va_S A0 H0 H1 locs1 → W p l e R s m args below meth c H1 locs1 (cells + mc) (slots + ms) Q (F0 m (pc + 3) ls (.double r :: rest))) : W p l e R s m args below meth c H locs cells slots Q (F0 m pc ls st0) := by
  intro T hT X
  rcases hr T hT X with ⟨v, st₀, t, T', L, h0, X', hL, e1, e2, ⟨⟨r, u, hv, hp, hb⟩, hF⟩, st⟩ | ⟨q, st₀, t, T', L, E, ce, h0, X', hL, e1, e2, ⟨u, hp, hb, hF⟩, hce, hcv, hcl, st⟩
  · cases hv
    obtain ⟨k1, k2, k3⟩ := vx_keep h0 e1 hS hA hf hL hF
    obtain ⟨t2, a1, b1⟩ := kk r u t T'.heap (locs ++ L) e1.symm (by rw [← e2]; exact X'.warmed.alike) hp hb k1 k2 k3 T' rfl X'
    exact ⟨t2, st t2 a1, b1⟩
  · obtain ⟨k1, k2, k3⟩ := vx_keep h0 e1 hS hAX hf hL hF
    obtain ⟨t2, a1, b1⟩ := kx E ce q u t T'.heap (locs ++ L) e1.symm (by rw [← e2]; exact X'.warmed.alike) hp hb k1 k2 k3 (by rw [e1]; exact hce) hcv hcl T' rfl X'
    exact ⟨t2, st.trans a1, b1⟩
theorem vx_callv {S SX : Type} {post : S → Prop} {px : SX → Prop} {B : S → State → Prop} {BX : String → SX → State → Prop} {AX : Nat → Prop} (hr : vx_Run p l e R s m args below meth c H locs cells slots mc ms (F0 m pc ls st0) rest (va_Qv post B A1 a) (vx_X px BX AX) free) (hS : va_S A0 H0 H locs) (hA : ∀ q, q < H.size → A1 q → A0 q) (hf : ∀ q, free q → A0 q) (hAX : ∀ q, q < H.size → AX q → A0 q)
    (kx : ∀ (E : String) (ce : Cell) (q9 : Addr) (u : SX) (t : State) (H1 : Heap) (locs1 : List Loc), t.heap = H1 → s.vm.Alike t.vm → px u → BX E u t → H.size ≤ H1.size → (∀ q : Nat, q < H.size → ¬ AX q → H1[q]? = H[q]?) → va_S A0 H0 H1 locs1 → H1[q9]? = some ce → ce.vm = .none → s.vm.findClass E = some ce.cls → vx_W p l e R s m args below meth c H1 locs1 (cells + mc) (slots + ms) Q (F0 m pc ls rest) q9)
    (kk : ∀ (u : S) (t : State) (H1 : Heap) (locs1 : List Loc), t.heap = H1 → s.vm.Alike t.vm → post u → B u t → H.size ≤ H1.size → (∀ q : Nat, q < H.size → ¬ A1 q → H1[q]? = H[q]?) → va_S A0 H0 H1 locs1 → W p l e R s m args below meth c H1 locs1 (cells + mc) (slots + ms) Q (F0 m (pc + 3) ls (rest))) : W p l e R s m args below meth c H locs cells slots Q (F0 m pc ls st0) := by
  intro T hT X
  rcases hr T hT X with ⟨v, st₀, t, T', L, h0, X', hL, e1, e2, ⟨⟨u, hv, hp, hb⟩, hF⟩, st⟩ | ⟨q, st₀, t, T', L, E, ce, h0, X', hL, e1, e2, ⟨u, hp, hb, hF⟩, hce, hcv, hcl, st⟩
  · cases hv
    obtain ⟨k1, k2, k3⟩ := vx_keep h0 e1 hS hA hf hL hF
    obtain ⟨t2, a1, b1⟩ := kk u t T'.heap (locs ++ L) e1.symm (by rw [← e2]; exact X'.warmed.alike) hp hb k1 k2 k3 T' rfl X'
    exact ⟨t2, st t2 a1, b1⟩
  · obtain ⟨k1, k2, k3⟩ := vx_keep h0 e1 hS hAX hf hL hF
    obtain ⟨t2, a1, b1⟩ := kx E ce q u t T'.heap (locs ++ L) e1.symm (by rw [← e2]; exact X'.warmed.alike) hp hb k1 k2 k3 (by rw [e1]; exact hce) hcv hcl T' rfl X'
    exact ⟨t2, st.trans a1, b1⟩
/-- caught by the row x of this method's table; the rows ahead don't take it -/
theorem vx_catch {own name : String} {E : String} {ce : Cell} {q : Addr} (hown : s.vm.findClass own = some m.cls) (pre : List ExceptionTableEntry) (x : ExceptionTableEntry) (suf : List ExceptionTableEntry) (hsplit : c.exceptionTable.toList = pre ++ x :: suf)
    (hpass : ∀ z ∈ pre, covers z pc = false ∨ (z.catchType ≠ 0 ∧ ∃ nm : String, (Cond.classLink own z.catchType nm).before args s = true ∧ va_Nc E nm s)) (hx : covers x pc = true) (h0 : x.catchType ≠ 0)
    (hlink : (Cond.classLink own x.catchType name).before args s = true) (hcast : (Cond.castable E name).before args s = true) (hcell : H[q]? = some ce) (hv : ce.vm = .none) (hcl : s.vm.findClass E = some ce.cls)
    (kk : W p l e R s m args below meth c H locs cells slots Q (F0 m x.handlerPc ls [.ref q])) : vx_W p l e R s m args below meth c H locs cells slots Q (F0 m pc ls rest) q := by
  intro T hT X
  have hpl : e.platform.magicAccessors = ({} : Platform).magicAccessors := by rw [X.admits.platform]
  obtain ⟨c3, c4, hc3, hc4, hasg⟩ := Cond.castable_spec hcast
  cases Option.some.inj (hc3.symm.trans hcl)
  obtain ⟨c5, hc5, hcl5⟩ := Cond.classLink_spec hown hlink e.platform hpl
  cases Option.some.inj (hc4.symm.trans hc5)
  obtain ⟨vm', X', st⟩ := X.thenCaughtThrough q (g := F0 m pc ls rest) rfl (Steps.refl _) (by rw [hT]; exact hcell) (by rw [hv]; rfl) (by obtain ⟨k9, h9, -⟩ := Vm.findClass_spec hcl; exact ⟨k9, h9⟩) pre x suf hsplit
    (fun z hz => by
      rcases hpass z hz with h | ⟨hz0, nm, hl1, hn1⟩
      · exact Or.inl h
      · obtain ⟨c6, hc6, hcl6⟩ := Cond.classLink_spec hown hl1 e.platform hpl
        obtain ⟨a8, b8, h1, h2, h3⟩ := hn1
        cases Option.some.inj (h1.symm.trans hcl)
        cases Option.some.inj (h2.symm.trans hc6)
        exact Or.inr ⟨hz0, _, hcl6, h3⟩) hx (Or.inr ⟨h0, c4, hcl5, hasg⟩)
  obtain ⟨t, a1, b1⟩ := kk (T.setVm vm') hT X'
  exact ⟨t, st.trans a1, b1⟩
end Rows
section Ends
variable {p : Program} {l : Launch} {e : Env} {R : Room} {s : State} {m : MethodId} {args : Array Value} {below : List Frame} {meth : Method} {c : Code} {H : Heap} {locs : List Loc} {cells slots : Nat} {Q : State → Prop}
variable {mc ms : Nat} {free : Addr → Prop} {A0 A1 : Nat → Prop} {H0 : Heap} {a : Array Value} {ls : Array Slot} {st0 rest : List Value}
variable {Qc : Array Value → State → Outcome → State → Prop} {XC : String → State → State → Prop}
/-- what a body that may throw owes at its end -/
def vx_MQ (below : List Frame) (Qc : Array Value → State → Outcome → State → Prop) (XC : String → State → State → Prop) (a : Array Value) (s : State) (mc ms : Nat) (free : Addr → Prop) : State → Prop := fun t =>
  ∃ o, t.status = .running ∧ Ended t below o ∧ vx_Q Qc XC mc ms free a s o t
theorem vx_ret {g : JFrame} {mc ms : Nat} (k : W p l e R s m args below meth c H locs cells slots (MQ below Qc args s mc ms free) g) : W p l e R s m args below meth c H locs cells slots (vx_MQ below Qc XC args s mc ms free) g := by
  intro T hT X
  obtain ⟨t, a1, o, b1, b2, b3, b4⟩ := k T hT X
  exact ⟨t, a1, o, b1, b2, Or.inl ⟨b3, b4⟩⟩
/-- not caught here: it goes on to the caller -/
theorem vx_widen {g : JFrame} {q : Addr} {k n : Nat} (h1 : cells ≤ k) (h2 : slots ≤ n) (kk : vx_W p l e R s m args below meth c H locs k n Q g q) : vx_W p l e R s m args below meth c H locs cells slots Q g q := fun T hT X => kk T hT (stand_widen X h1 h2)
theorem vx_out {pc : Nat} {E : String} {ce : Cell} {q : Addr} {mc ms : Nat} (hout : ∀ x ∈ c.exceptionTable.toList, covers x pc = false) (hlocks : meth.locks = false) (hcell : H[q]? = some ce) (hv : ce.vm = .none) (hcl : s.vm.findClass E = some ce.cls)
    (hx : ∀ t : State, t.heap = H → s.vm.Alike t.vm → XC E s t) (hf : ∀ z ∈ locs, free z.base) (hc : cells ≤ mc) (hs : slots ≤ ms) :
    vx_W p l e R s m args below meth c H locs cells slots (vx_MQ below Qc XC args s mc ms free) (F0 m pc ls rest) q := by
  intro T hT X
  obtain ⟨st1, hrun, hend, hW, hsm⟩ := X.leaveThrown q (g := F0 m pc ls rest) rfl rfl rfl hout hlocks
  have hcell9 : (T.setFrames (.throwing q :: below)).heap[q]? = some ce := by
    show T.heap[q]? = some ce
    rw [hT]; exact hcell
  exact ⟨_, st1, .threw q, hrun, hend, Or.inr ⟨q, rfl, E, ce, locs, hx _ hT hW.alike, hcell9, hv, hcl, hW, hsm.mono hc hs, hf⟩⟩
theorem vx_frame {U : State} {k n : Nat} (h : s.sameButNew ({ U with vm := s.vm } : State) locs k n) : s.heap.size ≤ U.heap.size ∧ ∀ q : Nat, q < s.heap.size → (∀ z ∈ locs, z.base ≠ q) → U.heap[q]? = s.heap[q]? := by
  obtain ⟨-, h2, -, -, -, h6⟩ := h
  refine ⟨h2, fun q hq hz => ?_⟩
  obtain ⟨c9, e1, e2, e3, e4⟩ := h6 q _ (Array.getElem?_eq_getElem hq)
  have hs : c9.slots = (s.heap[q]).slots := Array.ext_getElem? fun i => e4 i fun hm => hz _ hm rfl
  have h9 : c9 = s.heap[q] := by
    rw [hs] at e2
    exact e2
  have e5 : U.heap[q]? = some c9 := e1
  rw [e5, h9, Array.getElem?_eq_getElem hq]
/-- the words of a throw but the four that speak of the heap -/
def vx_no (w : Cond) : Bool := decide (w ≠ .isRef (.static Bundle.tN "UNASSIGNED_STACK" Bundle.steD)) && decide (w ≠ .isRef (.static Bundle.tN "SUPPRESSED_SENTINEL" Bundle.listD)) && decide (w ≠ .laysStatic Bundle.tN "UNASSIGNED_STACK" Bundle.steD) && decide (w ≠ .laysStatic Bundle.tN "SUPPRESSED_SENTINEL" Bundle.listD)
def vx_at0 (own : String) (ic : Nat) (X : String) (names : List String) : List Cond := (Bundle.ownAtoms0 own ic X names).filter vx_no
def vx_atS (own : String) (ic : Nat) (X : String) (names : List String) : List Cond := (Bundle.ownAtoms own ic X names).filter vx_no
/-- a word that the tables alone decide, or a good one -/
def vx_ot (w : Cond) : Bool := w.onTables || goodWord w
theorem vx_ot_at {args a' : Array Value} {s U : State} {w : Cond} (hW : s.WarmedH U.vm) (hvm : s.vm = U.vm) (hg : vx_ot w = true) (h : w.before args s = true) : w.before a' U = true := by
  simp only [vx_ot, Bool.or_eq_true] at hg
  rcases hg with hg | hg
  · exact va_tabs hg hvm h
  · exact word_at hW (good_of_word hg) h
/-- a list's words: the good ones out of the method's own list, the others by premises of their own -/
theorem vx_hat {args : Array Value} {s : State} {L B : List Cond} (h1 : ∀ w ∈ L.filter goodWord, w.before args s = true) (h2 : ∀ w ∈ L.filter (fun w => !goodWord w), w ∈ B) (h3 : ∀ w ∈ B, w.before args s = true) : ∀ w ∈ L, w.before args s = true := by
  intro w hw
  by_cases g : goodWord w = true
  · exact h1 w (List.mem_filter.mpr ⟨hw, g⟩)
  · refine h3 w (h2 w (List.mem_filter.mpr ⟨hw, ?_⟩))
    show (!goodWord w) = true
    cases hgw : goodWord w
    · rfl
    · exact absurd hgw g
theorem vx_c {args : Array Value} {s : State} {w : Cond} {B : List Cond} (h : w.before args s = true) (t : ∀ w ∈ B, w.before args s = true) : ∀ w' ∈ w :: B, w'.before args s = true := fun w' h' => (List.mem_cons.mp h').elim (fun e => by rw [e]; exact h) (t w')
theorem vx_n {args : Array Value} {s : State} : ∀ w ∈ ([] : List Cond), w.before args s = true := fun _ h => nomatch h
theorem vx_own {args : Array Value} {s : State} {L : List Cond} (h1 : ∀ w ∈ L.filter vx_no, w.before args s = true)
    (hU : (Cond.isRef (.static Bundle.tN "UNASSIGNED_STACK" Bundle.steD)).before args s = true) (hN : (Cond.isRef (.static Bundle.tN "SUPPRESSED_SENTINEL" Bundle.listD)).before args s = true)
    (lU : (Cond.laysStatic Bundle.tN "UNASSIGNED_STACK" Bundle.steD).before args s = true) (lN : (Cond.laysStatic Bundle.tN "SUPPRESSED_SENTINEL" Bundle.listD).before args s = true) : ∀ w ∈ L, w.before args s = true := by
  intro w hw
  by_cases e1 : w = .isRef (.static Bundle.tN "UNASSIGNED_STACK" Bundle.steD)
  · rw [e1]; exact hU
  · by_cases e2 : w = .isRef (.static Bundle.tN "SUPPRESSED_SENTINEL" Bundle.listD)
    · rw [e2]; exact hN
    · by_cases e3 : w = .laysStatic Bundle.tN "UNASSIGNED_STACK" Bundle.steD
      · rw [e3]; exact lU
      · by_cases e4 : w = .laysStatic Bundle.tN "SUPPRESSED_SENTINEL" Bundle.listD
        · rw [e4]; exact lN
        · exact h1 w (List.mem_filter.mpr ⟨hw, by unfold vx_no; rw [decide_eq_true e1, decide_eq_true e2, decide_eq_true e3, decide_eq_true e4]; rfl⟩)
/-- where a static field lies, its class's statics cell in H -/
def vx_L (C n d : String) (A : Nat → Prop) (U : State) (H : Heap) : Prop := ∃ (c : ClassId) (k : Class) (i : Nat) (f : Field) (a : Nat) (cell : Cell), U.vm.findClass C = some c ∧ U.fieldFound? C n d = some (c, k, i, f) ∧ f.isStatic = true ∧ k.statics = some a ∧ H[a]? = some cell ∧ cell.vm.isStatics = true ∧ cell.cls = c ∧ f.slot < cell.slots.size ∧ k.staticTypes[f.slot]? = some f.type ∧ ¬ A a
theorem vx_L.moved {C n d : String} {A : Nat → Prop} {u U : State} {H : Heap} (hvm : u.vm.Alike U.vm) (h : vx_L C n d A u H) : vx_L C n d A U H := by
  obtain ⟨c, k, i, f, a, cell, h1, h2, h3, h4, h5, h6, h7, h8, h9, h10⟩ := h
  obtain ⟨k', hi', he⟩ := State.fieldFound?_setVm hvm h2
  exact ⟨c, k', i, f, a, cell, by rw [hvm.findClass]; exact h1, hi', h3, by rw [he]; exact h4, h5, h6, h7, h8, by rw [he]; exact h9, h10⟩
theorem vx_L.kept {C n d : String} {A : Nat → Prop} {U : State} {H H1 : Heap} (h : vx_L C n d A U H) (hq : ∀ a : Nat, a < H.size → ¬ A a → H1[a]? = H[a]?) : vx_L C n d A U H1 := by
  obtain ⟨c, k, i, f, a, cell, h1, h2, h3, h4, h5, h6, h7, h8, h9, h10⟩ := h
  exact ⟨c, k, i, f, a, cell, h1, h2, h3, h4, by rw [hq a (Array.getElem?_eq_some_iff.mp h5).1 h10]; exact h5, h6, h7, h8, h9, h10⟩
theorem vx_L.narrow {C n d : String} {A B : Nat → Prop} {U : State} {H : Heap} (h : vx_L C n d A U H) (hAB : ∀ q, B q → A q) : vx_L C n d B U H := by
  obtain ⟨c, k, i, f, a, cell, h1, h2, h3, h4, h5, h6, h7, h8, h9, h10⟩ := h
  exact ⟨c, k, i, f, a, cell, h1, h2, h3, h4, h5, h6, h7, h8, h9, fun z => h10 (hAB _ z)⟩
theorem vx_L.word {C n d : String} {A : Nat → Prop} {s : State} {args : Array Value} (h : vx_L C n d A s s.heap) : (Cond.laysStatic C n d).before args s = true := by
  obtain ⟨c, k, i, f, a, cell, h1, h2, h3, h4, h5, h6, h7, h8, h9, -⟩ := h
  show (Cond.laysStatic C n d).holds args s none s [] = true
  exact Cond.laysStatic_of h1 h2 h3 h4 h5 h6 h7 h8 h9
/-- .. and what it holds: null or some reference -/
def vx_Zq (C n d : String) (A : Nat → Prop) (U : State) (H : Heap) : Prop := va_Zq C n d A U H ∧ vx_L C n d A U H
theorem vx_Zq.moved {C n d : String} {A : Nat → Prop} {u U : State} {H : Heap} (hvm : u.vm.Alike U.vm) (h : vx_Zq C n d A u H) : vx_Zq C n d A U H := ⟨va_Zq.moved hvm h.1, vx_L.moved hvm h.2⟩
theorem vx_Zq.kept {C n d : String} {A : Nat → Prop} {U : State} {H H1 : Heap} (h : vx_Zq C n d A U H) (hq : ∀ a : Nat, a < H.size → ¬ A a → H1[a]? = H[a]?) : vx_Zq C n d A U H1 := ⟨va_Zq.kept h.1 hq, vx_L.kept h.2 hq⟩
theorem vx_Zq.narrow {C n d : String} {A B : Nat → Prop} {U : State} {H : Heap} (h : vx_Zq C n d A U H) (hAB : ∀ q, B q → A q) : vx_Zq C n d B U H := ⟨va_Zq.narrow h.1 hAB, vx_L.narrow h.2 hAB⟩
theorem vx_Zqof {args : Array Value} {s : State} {C n d : String} {A : Nat → Prop} (hl : (Cond.laysStatic C n d).before args s = true) (hini : (Cond.initialized C).before args s = true) (h : (Cond.isRef (.static C n d)).before args s = true) (hA : ∀ a : Nat, a < s.heap.size → ¬ A a) : vx_Zq C n d A s s.heap := by
  refine ⟨va_Zqof hl hini h hA, ?_⟩
  obtain ⟨c, k, i, f, a, cell, h1, h2, h3, h4, h5, h6, h7, h8, h9⟩ := Cond.laysStatic_spec hl
  exact ⟨c, k, i, f, a, cell, h1, h2, h3, h4, h5, h6, h7, h8, h9, hA a (Array.getElem?_eq_some_iff.mp h5).1⟩
theorem vx_isRef {C n d : String} {v : Value} {A : Nat → Prop} {s : State} {args : Array Value} (h : va_Z C n d v A s s.heap) (hv : v.isRef = true) : (Cond.isRef (.static C n d)).before args s = true := by
  obtain ⟨cf, kf, fi, f, a, cell, h1, h2, h3, h4, h5, h6, h7, -⟩ := h
  have he : (Term.static C n d).eval args s none [] s = some v := by
    simp [Term.eval, State.fieldNamed?, h1, h2, h4, h5, h6, h7]
  simp only [Cond.before, Cond.holds, Cond.value, he]
  cases v <;> simp_all [Value.isRef]
theorem vx_isRefq {C n d : String} {A : Nat → Prop} {s : State} {args : Array Value} (h : va_Zq C n d A s s.heap) : (Cond.isRef (.static C n d)).before args s = true := by
  rcases h with h | ⟨t, h⟩
  · exact vx_isRef h rfl
  · exact vx_isRef h rfl
/-- the same frame, seen from here: as if the method were called anew in this heap -/
theorem vx_rebase {T : State} (X : Stand p l e R s m args below meth c T locs cells slots) {R' : Room} (hf : R'.frames ≤ R.frames) (hl : R'.locals ≤ R.locals) (hc : cells + R'.cells ≤ R.cells) (hs : slots + R'.slots ≤ R.slots) :
    Stand p l e R' ((T.setVm s.vm).setFrames (.invoking m args :: below)) m args below meth c T [] 0 0 := by
  have htop : (T.setVm s.vm).topJava?.isSome := X.here.top
  have hF : ((T.setVm s.vm).setFrames (.invoking m args :: below)).frames = .invoking m args :: below := State.frames_setFrames _ (State.cur_lt_of_top htop)
  obtain ⟨g₀, hg0⟩ := Option.isSome_iff_exists.mp htop
  obtain ⟨r, hr⟩ := State.topJava?_eq_some.mp hg0
  have hl9 : e.platform.stackLimits (T.setVm s.vm).me = e.platform.stackLimits s.me := X.limits
  have hb9 : (T.setVm s.vm).me.stackBytes = s.me.stackBytes := X.bytes
  refine ⟨X.admits, X.cas, X.clock, hF, ?_, X.hears, X.method, X.code, X.here, X.tail, X.warmed, ?_, ?_, ?_⟩
  · have h := X.room
    have hU : ((T.setVm s.vm).setFrames (.invoking m args :: below)).localsInUse = s.localsInUse := by
      rw [State.localsInUse_invoking hF (meth := meth) (c := c) X.method X.code, State.localsInUse_invoking X.frames X.method X.code]
    simp only [State.hasRoom, Bool.and_eq_true, decide_eq_true_eq] at h ⊢
    obtain ⟨⟨⟨⟨h1, h2, h3, h4, h5, h6⟩, h7⟩, h8⟩, h9⟩ := h
    rw [X.frames, List.length_cons] at h2 h3
    have q1 := X.heapSize
    have q2 := X.used
    simp only [hF, hU, List.length_cons, State.stackLimits_setFrames, State.stackBytes_setFrames, hl9, hb9]
    refine ⟨⟨⟨⟨by omega, by omega, by omega, by omega, by omega, h6⟩, ?_⟩, ?_⟩, X.book⟩
    · show T.heap.size + R'.cells ≤ e.platform.maxCells
      omega
    · show T.slotsUsed + R'.slots ≤ e.platform.maxSlots
      omega
  · rw [State.stackLimits_setFrames]; rfl
  · rw [State.stackBytes_setFrames]; rfl
  · refine ⟨?_, Nat.le_refl _, Nat.le_refl _, ?_, ?_, fun a c9 h9 => ⟨c9, h9, rfl, rfl, fun _ _ => rfl⟩⟩
    · obtain ⟨t, ht, -⟩ := State.frames_cons hr
      show T.setVm s.vm = { ((T.setVm s.vm).setFrames (.invoking m args :: below)).setFrames (T.setVm s.vm).frames with heap := T.heap, slotsUsed := T.slotsUsed }
      rw [State.setFrames_setFrames, State.setFrames_self ht]
      rfl
    · show T.slotsUsed = T.slotsUsed + ((T.heap.toList.drop T.heap.size).map (·.slots.size)).sum
      rw [List.drop_eq_nil_of_le (Nat.le_of_eq Array.length_toList)]
      rfl
    · show ((T.heap.toList.drop T.heap.size).map (·.slots.size)).sum ≤ 0
      rw [List.drop_eq_nil_of_le (Nat.le_of_eq Array.length_toList)]
      exact Nat.le_refl _
/-- 'throw new E()': new; dup; invokespecial; athrow -/
theorem vx_throw0 {cc : ByteArray} {pc : Nat} (hexec : p.tables.exec = Jvm.exec) (hb : c.code = cc) (hl : l.stackTraces = false) {own cls : String} {names : List String} {ik ic mc ms : Nat} {A : Nat → Prop}
    (hown : s.vm.findClass own = some m.cls) (hcls : Bundle.fit cls = true) (hnames : ∀ n ∈ names, Bundle.fit n = true)
    (hk : (Cond.classLink own ik cls).before args s = true) (hini : (Cond.initialized cls).before args s = true) (hat : ∀ w ∈ vx_at0 own ic cls names, w.before args s = true)
    (hgood : ∀ w ∈ Cond.classLink own ik cls :: Cond.initialized cls :: vx_at0 own ic cls names, vx_ot w = true)
    (hU : vx_Zq Bundle.tN "UNASSIGNED_STACK" Bundle.steD A s s.heap) (hN : vx_Zq Bundle.tN "SUPPRESSED_SENTINEL" Bundle.listD A s s.heap) (hS : va_S A s.heap H locs) (hsize : ls.size = c.maxLocals)
    (d0 : decode cc pc = .ok (.new ik, 3)) (d3 : decode cc (pc + 3) = .ok (.dup, 1)) (d4 : decode cc (pc + 4) = .ok (.invokespecial ic, 3)) (d7 : decode cc (pc + 7) = .ok (.athrow, 1))
    (hout : ∀ x ∈ c.exceptionTable.toList, covers x (pc + 7) = false)
    (hRframes : names.length + 3 < R.frames) (hRlocals : (rest.map fun v => v.category).sum + (13 * (names.length + 1) + 42) ≤ R.locals) (hRcells : cells + 1 ≤ R.cells) (hRslots : slots + 6 ≤ R.slots) (hlocks : meth.locks = false)
    (hx : ∀ t : State, s.vm.Alike t.vm → H.size ≤ t.heap.size → (∀ q : Nat, q < H.size → t.heap[q]? = H[q]?) → XC cls s t)
    (hf : ∀ z ∈ locs, free z.base) (hc : cells + 1 ≤ mc) (hs : slots + 6 ≤ ms) :
    W p l e R s m args below meth c H locs cells slots (vx_MQ below Qc XC args s mc ms free) (F0 m pc ls rest) := by
  intro T hT X
  have htr : e.platform.stackTraces = false := (show e.platform.stackTraces = l.stackTraces by rw [X.admits.platform]).trans hl
  have Y := vx_rebase X (R' := { frames := R.frames, locals := R.locals, cells := 1, slots := 6 }) (Nat.le_refl _) (Nat.le_refl _) hRcells hRslots
  obtain ⟨s', hA⟩ : ∃ z, z = (T.setVm s.vm).setFrames (.invoking m args :: below) := ⟨_, rfl⟩
  rw [← hA] at Y
  have hvm : s'.vm = s.vm := by rw [hA]; rfl
  have hhp : s'.heap = H := by rw [hA]; exact hT
  have hW0 : s.WarmedH s'.vm := by rw [hvm]; exact State.WarmedH.refl s
  have hat' : ∀ w ∈ vx_at0 own ic cls names, w.before args s' = true := fun w hw => vx_ot_at hW0 hvm.symm (hgood w (List.mem_cons_of_mem _ (List.mem_cons_of_mem _ hw))) (hat w hw)
  have hk' : (Cond.classLink own ik cls).before args s' = true := vx_ot_at hW0 hvm.symm (hgood _ List.mem_cons_self) hk
  have hini' : (Cond.initialized cls).before args s' = true := vx_ot_at hW0 hvm.symm (hgood _ (List.mem_cons_of_mem _ List.mem_cons_self)) hini
  have hU' : vx_Zq Bundle.tN "UNASSIGNED_STACK" Bundle.steD A s' s'.heap := by rw [hhp]; exact vx_Zq.moved hW0.alike (hU.kept hS.2.1)
  have hN' : vx_Zq Bundle.tN "SUPPRESSED_SENTINEL" Bundle.listD A s' s'.heap := by rw [hhp]; exact vx_Zq.moved hW0.alike (hN.kept hS.2.1)
  have h : ∀ w ∈ Bundle.ownAtoms0 own ic cls names, w.before args s' = true := vx_own hat' (vx_isRefq hU'.1) (vx_isRefq hN'.1) hU'.2.word hN'.2.word
  have hown' : s'.vm.findClass own = some m.cls := by rw [hvm]; exact hown
  have hins : (Cond.instantiable cls 6).before args s' = true := h _ (by simp [Bundle.ownAtoms0])
  obtain ⟨vm₁, cX, kX, hfX, hkX, -, -, X₁, st1⟩ := Y.newCold hexec (own := own) (C := cls) (index := ik) (n := 6) hown' hk' hins hini'
    (g := F0 m pc ls rest) rfl (by rw [hb]; exact d0) (Nat.le_refl _) (Nat.le_refl _)
  generalize hT1 : (T.setVm vm₁).pushCell { cls := cX, slots := kX.instanceTypes.map defaultValue, vm := .none } = T1 at X₁ st1
  have hcat : (Value.ref T.heap.size).category = 1 := rfl
  have hcellA : T1.heap[T.heap.size]? = some (freshCell cX kX) := by rw [← hT1]; exact State.heap_pushCell_size _ _
  have d3' : decode c.code (pc + 3) = .ok (.dup, 1) := by rw [hb]; exact d3
  obtain ⟨U, hsteps, hrun, hend, hW, hsame, ce, hce, hO⟩ := X₁.ctorThrow0 hexec htr (own := own) (cls := cls) (names := names) (ic := ic) hown' hcls hnames h (fun x hx => nomatch hx) hfX hkX hcellA (by rw [hhp, hT]; exact Nat.le_refl _)
    (g := { method := m, pc := pc + 4, locals := ls, stack := .ref T.heap.size :: .ref T.heap.size :: rest, locked := none }) rfl hsize rfl rfl (rest := rest) rfl
    (by rw [hb]; exact d4) (by rw [hb]; exact d7) hout hRframes (by simp only [List.map_cons, List.sum_cons, hcat]; omega) hlocks
  obtain ⟨f1, f2⟩ := vx_frame hsame
  rw [hhp] at f1 f2
  have hWs : s.WarmedH U.vm := State.WarmedH.trans hW0 hW
  have hcl : s.vm.findClass cls = some ce.cls := by
    have h9 := hO.cls
    rw [hvm] at h9
    exact h9
  have hall : s.sameButNew ({ U with vm := s.vm } : State) locs mc ms := by
    subst hA
    obtain ⟨e1, e2⟩ := hsame
    rw [State.setFrames_setFrames] at e1
    have h2 : (T.setVm s.vm).sameButNew ({ U with vm := s.vm } : State) [] (0 + 1) (0 + 6) := ⟨e1, e2⟩
    have h3 := X.same.trans h2
    rw [List.append_nil] at h3
    exact h3.mono hc hs
  refine ⟨U, ?_, .threw T.heap.size, hrun, hend, Or.inr ⟨T.heap.size, rfl, cls, ce, locs, hx U hWs.alike f1 (fun q hq => f2 q hq (fun z hz => nomatch hz)), hce, hO.vm, hcl, hWs, hall, hf⟩⟩
  refine st1 _ ?_
  show Steps p.tables e below (T1.setTop { method := m, pc := pc + 3, locals := ls, stack := .ref T.heap.size :: rest, locked := none }) _
  jvm_step X₁.here [X₁.here.top, hexec, d3', Value.category]
  exact hsteps
/-- 'throw new E("text")': new; dup; ldc; invokespecial; athrow -/
theorem vx_throwS {cc : ByteArray} {pc : Nat} (hexec : p.tables.exec = Jvm.exec) (hb : c.code = cc) (hl : l.stackTraces = false) {own cls text : String} {names : List String} {ik is ic mc ms sa : Nat} {A : Nat → Prop}
    (hown : s.vm.findClass own = some m.cls) (hcls : Bundle.fit cls = true) (hnames : ∀ n ∈ names, Bundle.fit n = true)
    (hk : (Cond.classLink own ik cls).before args s = true) (hini : (Cond.initialized cls).before args s = true) (hstr : vk_R own is text sa s) (hat : ∀ w ∈ vx_atS own ic cls names, w.before args s = true)
    (hgood : ∀ w ∈ Cond.classLink own ik cls :: Cond.initialized cls :: vx_atS own ic cls names, vx_ot w = true)
    (hU : vx_Zq Bundle.tN "UNASSIGNED_STACK" Bundle.steD A s s.heap) (hN : vx_Zq Bundle.tN "SUPPRESSED_SENTINEL" Bundle.listD A s s.heap) (hS : va_S A s.heap H locs) (hsize : ls.size = c.maxLocals)
    (d0 : decode cc pc = .ok (.new ik, 3)) (d3 : decode cc (pc + 3) = .ok (.dup, 1)) (d4 : decode cc (pc + 4) = .ok (.ldc is, 2)) (d6 : decode cc (pc + 6) = .ok (.invokespecial ic, 3)) (d9 : decode cc (pc + 9) = .ok (.athrow, 1))
    (hout : ∀ x ∈ c.exceptionTable.toList, covers x (pc + 9) = false)
    (hRframes : names.length + 3 < R.frames) (hRlocals : (rest.map fun v => v.category).sum + (13 * (names.length + 1) + 43) ≤ R.locals) (hRcells : cells + 1 ≤ R.cells) (hRslots : slots + 6 ≤ R.slots) (hlocks : meth.locks = false)
    (hx : ∀ t : State, s.vm.Alike t.vm → H.size ≤ t.heap.size → (∀ q : Nat, q < H.size → t.heap[q]? = H[q]?) → XC cls s t)
    (hf : ∀ z ∈ locs, free z.base) (hc : cells + 1 ≤ mc) (hs : slots + 6 ≤ ms) :
    W p l e R s m args below meth c H locs cells slots (vx_MQ below Qc XC args s mc ms free) (F0 m pc ls rest) := by
  intro T hT X
  have htr : e.platform.stackTraces = false := (show e.platform.stackTraces = l.stackTraces by rw [X.admits.platform]).trans hl
  have Y := vx_rebase X (R' := { frames := R.frames, locals := R.locals, cells := 1, slots := 6 }) (Nat.le_refl _) (Nat.le_refl _) hRcells hRslots
  obtain ⟨s', hA⟩ : ∃ z, z = (T.setVm s.vm).setFrames (.invoking m args :: below) := ⟨_, rfl⟩
  rw [← hA] at Y
  have hvm : s'.vm = s.vm := by rw [hA]; rfl
  have hhp : s'.heap = H := by rw [hA]; exact hT
  have hW0 : s.WarmedH s'.vm := by rw [hvm]; exact State.WarmedH.refl s
  have hat' : ∀ w ∈ vx_atS own ic cls names, w.before args s' = true := fun w hw => vx_ot_at hW0 hvm.symm (hgood w (List.mem_cons_of_mem _ (List.mem_cons_of_mem _ hw))) (hat w hw)
  have hk' : (Cond.classLink own ik cls).before args s' = true := vx_ot_at hW0 hvm.symm (hgood _ List.mem_cons_self) hk
  have hini' : (Cond.initialized cls).before args s' = true := vx_ot_at hW0 hvm.symm (hgood _ (List.mem_cons_of_mem _ List.mem_cons_self)) hini
  have hU' : vx_Zq Bundle.tN "UNASSIGNED_STACK" Bundle.steD A s' s'.heap := by rw [hhp]; exact vx_Zq.moved hW0.alike (hU.kept hS.2.1)
  have hN' : vx_Zq Bundle.tN "SUPPRESSED_SENTINEL" Bundle.listD A s' s'.heap := by rw [hhp]; exact vx_Zq.moved hW0.alike (hN.kept hS.2.1)
  have h : ∀ w ∈ Bundle.ownAtoms own ic cls names, w.before args s' = true := vx_own hat' (vx_isRefq hU'.1) (vx_isRefq hN'.1) hU'.2.word hN'.2.word
  have hown' : s'.vm.findClass own = some m.cls := by rw [hvm]; exact hown
  have hins : (Cond.instantiable cls 6).before args s' = true := h _ (by simp [Bundle.ownAtoms])
  obtain ⟨vm₁, cX, kX, hfX, hkX, -, -, X₁, st1⟩ := Y.newCold hexec (own := own) (C := cls) (index := ik) (n := 6) hown' hk' hins hini'
    (g := F0 m pc ls rest) rfl (by rw [hb]; exact d0) (Nat.le_refl _) (Nat.le_refl _)
  generalize hT1 : (T.setVm vm₁).pushCell { cls := cX, slots := kX.instanceTypes.map defaultValue, vm := .none } = T1 at X₁ st1
  have hcat : (Value.ref T.heap.size).category = 1 := rfl
  have hcellA : T1.heap[T.heap.size]? = some (freshCell cX kX) := by rw [← hT1]; exact State.heap_pushCell_size _ _
  have d3' : decode c.code (pc + 3) = .ok (.dup, 1) := by rw [hb]; exact d3
  have d4' : decode c.code (pc + 4) = .ok (.ldc is, 2) := by rw [hb]; exact d4
  have hstr' : vk_R own is text sa s' := vk_R.warm hW0 hstr
  obtain ⟨U, hsteps, hrun, hend, hW, hsame, ce, hce, hO⟩ := X₁.ctorThrowS hexec htr (own := own) (cls := cls) (names := names) (ic := ic) hown' hcls hnames h (fun x hx => nomatch hx) hfX hkX hcellA (by rw [hhp, hT]; exact Nat.le_refl _) (msg := .ref sa) rfl
    (g := { method := m, pc := pc + 6, locals := ls, stack := .ref sa :: .ref T.heap.size :: .ref T.heap.size :: rest, locked := none }) rfl hsize rfl rfl (rest := rest) rfl
    (by rw [hb]; exact d6) (by rw [hb]; exact d9) hout hRframes (by simp only [List.map_cons, List.sum_cons, hcat]; omega) hlocks
  obtain ⟨f1, f2⟩ := vx_frame hsame
  rw [hhp] at f1 f2
  have hWs : s.WarmedH U.vm := State.WarmedH.trans hW0 hW
  have hcl : s.vm.findClass cls = some ce.cls := by
    have h9 := hO.cls
    rw [hvm] at h9
    exact h9
  have hall : s.sameButNew ({ U with vm := s.vm } : State) locs mc ms := by
    subst hA
    obtain ⟨e1, e2⟩ := hsame
    rw [State.setFrames_setFrames] at e1
    have h2 : (T.setVm s.vm).sameButNew ({ U with vm := s.vm } : State) [] (0 + 1) (0 + 6) := ⟨e1, e2⟩
    have h3 := X.same.trans h2
    rw [List.append_nil] at h3
    exact h3.mono hc hs
  refine ⟨U, ?_, .threw T.heap.size, hrun, hend, Or.inr ⟨T.heap.size, rfl, cls, ce, locs, hx U hWs.alike f1 (fun q hq => f2 q hq (fun z hz => nomatch hz)), hce, hO.vm, hcl, hWs, hall, hf⟩⟩
  refine st1 _ ?_
  show Steps p.tables e below (T1.setTop { method := m, pc := pc + 3, locals := ls, stack := .ref T.heap.size :: rest, locked := none }) _
  jvm_step X₁.here [X₁.here.top, hexec, d3', Value.category]
  exact X₁.ldcString hexec (own := own) (text := text) (index := is) (a := sa) hown' hstr'.1 hstr'.2
    (g := { method := m, pc := pc + 4, locals := ls, stack := .ref T.heap.size :: .ref T.heap.size :: rest, locked := none }) rfl d4' _ hsteps
/-- 'throw new E("text")', the text by a wide index -/
theorem vx_throwSW {cc : ByteArray} {pc : Nat} (hexec : p.tables.exec = Jvm.exec) (hb : c.code = cc) (hl : l.stackTraces = false) {own cls text : String} {names : List String} {ik is ic mc ms sa : Nat} {A : Nat → Prop}
    (hown : s.vm.findClass own = some m.cls) (hcls : Bundle.fit cls = true) (hnames : ∀ n ∈ names, Bundle.fit n = true)
    (hk : (Cond.classLink own ik cls).before args s = true) (hini : (Cond.initialized cls).before args s = true) (hstr : vk_R own is text sa s) (hat : ∀ w ∈ vx_atS own ic cls names, w.before args s = true)
    (hgood : ∀ w ∈ Cond.classLink own ik cls :: Cond.initialized cls :: vx_atS own ic cls names, vx_ot w = true)
    (hU : vx_Zq Bundle.tN "UNASSIGNED_STACK" Bundle.steD A s s.heap) (hN : vx_Zq Bundle.tN "SUPPRESSED_SENTINEL" Bundle.listD A s s.heap) (hS : va_S A s.heap H locs) (hsize : ls.size = c.maxLocals)
    (d0 : decode cc pc = .ok (.new ik, 3)) (d3 : decode cc (pc + 3) = .ok (.dup, 1)) (d4 : decode cc (pc + 4) = .ok (.ldc_w is, 3)) (d7 : decode cc (pc + 7) = .ok (.invokespecial ic, 3)) (d10 : decode cc (pc + 10) = .ok (.athrow, 1))
    (hout : ∀ x ∈ c.exceptionTable.toList, covers x (pc + 10) = false)
    (hRframes : names.length + 3 < R.frames) (hRlocals : (rest.map fun v => v.category).sum + (13 * (names.length + 1) + 43) ≤ R.locals) (hRcells : cells + 1 ≤ R.cells) (hRslots : slots + 6 ≤ R.slots) (hlocks : meth.locks = false)
    (hx : ∀ t : State, s.vm.Alike t.vm → H.size ≤ t.heap.size → (∀ q : Nat, q < H.size → t.heap[q]? = H[q]?) → XC cls s t)
    (hf : ∀ z ∈ locs, free z.base) (hc : cells + 1 ≤ mc) (hs : slots + 6 ≤ ms) :
    W p l e R s m args below meth c H locs cells slots (vx_MQ below Qc XC args s mc ms free) (F0 m pc ls rest) := by
  intro T hT X
  have htr : e.platform.stackTraces = false := (show e.platform.stackTraces = l.stackTraces by rw [X.admits.platform]).trans hl
  have Y := vx_rebase X (R' := { frames := R.frames, locals := R.locals, cells := 1, slots := 6 }) (Nat.le_refl _) (Nat.le_refl _) hRcells hRslots
  obtain ⟨s', hA⟩ : ∃ z, z = (T.setVm s.vm).setFrames (.invoking m args :: below) := ⟨_, rfl⟩
  rw [← hA] at Y
  have hvm : s'.vm = s.vm := by rw [hA]; rfl
  have hhp : s'.heap = H := by rw [hA]; exact hT
  have hW0 : s.WarmedH s'.vm := by rw [hvm]; exact State.WarmedH.refl s
  have hat' : ∀ w ∈ vx_atS own ic cls names, w.before args s' = true := fun w hw => vx_ot_at hW0 hvm.symm (hgood w (List.mem_cons_of_mem _ (List.mem_cons_of_mem _ hw))) (hat w hw)
  have hk' : (Cond.classLink own ik cls).before args s' = true := vx_ot_at hW0 hvm.symm (hgood _ List.mem_cons_self) hk
  have hini' : (Cond.initialized cls).before args s' = true := vx_ot_at hW0 hvm.symm (hgood _ (List.mem_cons_of_mem _ List.mem_cons_self)) hini
  have hU' : vx_Zq Bundle.tN "UNASSIGNED_STACK" Bundle.steD A s' s'.heap := by rw [hhp]; exact vx_Zq.moved hW0.alike (hU.kept hS.2.1)
  have hN' : vx_Zq Bundle.tN "SUPPRESSED_SENTINEL" Bundle.listD A s' s'.heap := by rw [hhp]; exact vx_Zq.moved hW0.alike (hN.kept hS.2.1)
  have h : ∀ w ∈ Bundle.ownAtoms own ic cls names, w.before args s' = true := vx_own hat' (vx_isRefq hU'.1) (vx_isRefq hN'.1) hU'.2.word hN'.2.word
  have hown' : s'.vm.findClass own = some m.cls := by rw [hvm]; exact hown
  have hins : (Cond.instantiable cls 6).before args s' = true := h _ (by simp [Bundle.ownAtoms])
  obtain ⟨vm₁, cX, kX, hfX, hkX, -, -, X₁, st1⟩ := Y.newCold hexec (own := own) (C := cls) (index := ik) (n := 6) hown' hk' hins hini'
    (g := F0 m pc ls rest) rfl (by rw [hb]; exact d0) (Nat.le_refl _) (Nat.le_refl _)
  generalize hT1 : (T.setVm vm₁).pushCell { cls := cX, slots := kX.instanceTypes.map defaultValue, vm := .none } = T1 at X₁ st1
  have hcat : (Value.ref T.heap.size).category = 1 := rfl
  have hcellA : T1.heap[T.heap.size]? = some (freshCell cX kX) := by rw [← hT1]; exact State.heap_pushCell_size _ _
  have d3' : decode c.code (pc + 3) = .ok (.dup, 1) := by rw [hb]; exact d3
  have d4' : decode c.code (pc + 4) = .ok (.ldc_w is, 3) := by rw [hb]; exact d4
  have hstr' : vk_R own is text sa s' := vk_R.warm hW0 hstr
  obtain ⟨U, hsteps, hrun, hend, hW, hsame, ce, hce, hO⟩ := X₁.ctorThrowS hexec htr (own := own) (cls := cls) (names := names) (ic := ic) hown' hcls hnames h (fun x hx => nomatch hx) hfX hkX hcellA (by rw [hhp, hT]; exact Nat.le_refl _) (msg := .ref sa) rfl
    (g := { method := m, pc := pc + 7, locals := ls, stack := .ref sa :: .ref T.heap.size :: .ref T.heap.size :: rest, locked := none }) rfl hsize rfl rfl (rest := rest) rfl
    (by rw [hb]; exact d7) (by rw [hb]; exact d10) hout hRframes (by simp only [List.map_cons, List.sum_cons, hcat]; omega) hlocks
  obtain ⟨f1, f2⟩ := vx_frame hsame
  rw [hhp] at f1 f2
  have hWs : s.WarmedH U.vm := State.WarmedH.trans hW0 hW
  have hcl : s.vm.findClass cls = some ce.cls := by
    have h9 := hO.cls
    rw [hvm] at h9
    exact h9
  have hall : s.sameButNew ({ U with vm := s.vm } : State) locs mc ms := by
    subst hA
    obtain ⟨e1, e2⟩ := hsame
    rw [State.setFrames_setFrames] at e1
    have h2 : (T.setVm s.vm).sameButNew ({ U with vm := s.vm } : State) [] (0 + 1) (0 + 6) := ⟨e1, e2⟩
    have h3 := X.same.trans h2
    rw [List.append_nil] at h3
    exact h3.mono hc hs
  refine ⟨U, ?_, .threw T.heap.size, hrun, hend, Or.inr ⟨T.heap.size, rfl, cls, ce, locs, hx U hWs.alike f1 (fun q hq => f2 q hq (fun z hz => nomatch hz)), hce, hO.vm, hcl, hWs, hall, hf⟩⟩
  refine st1 _ ?_
  show Steps p.tables e below (T1.setTop { method := m, pc := pc + 3, locals := ls, stack := .ref T.heap.size :: rest, locked := none }) _
  jvm_step X₁.here [X₁.here.top, hexec, d3', Value.category]
  exact X₁.ldcStringW hexec (own := own) (text := text) (index := is) (a := sa) hown' hstr'.1 hstr'.2
    (g := { method := m, pc := pc + 4, locals := ls, stack := .ref T.heap.size :: .ref T.heap.size :: rest, locked := none }) rfl d4' _ hsteps
end Ends
section Bodies
variable {l : Launch}
theorem vx_ofW {y : MethodName} {ws ws' : List Cond} {rm : Room} {Pc : Array Value → State → Prop} {Qc : Array Value → State → Outcome → State → Prop} {XC : String → State → State → Prop} {mc ms : Nat} {free : Addr → Prop} {cc : ByteArray} {maxL : Nat} {ret : Option FieldType}
    (hy : plainName y.cls = true) (hw : ws = Cond.code y cc maxL ret :: ws')
    (body : ∀ p e s m args below meth c s₁, BodyLoose p l y (headSpec ws rm) cc maxL ret e s m args below meth c s₁ → c.maxLocals = maxL → (∀ x ∈ c.exceptionTable.toList, False) → Pc args s →
      W p l e (headSpec ws rm).room s m args below meth c s.heap [] 0 0 (vx_MQ below Qc XC args s mc ms free) (entryFrame m args maxL)) : vx_Met l y ws rm Pc Qc XC mc ms free := by
  refine MetFree.of_bodyS (code := cc) (maxLocals := maxL) (ret := ret) hy ?_ ?_
  · intro args s m h hn
    obtain ⟨meth, c, h1, h2, h3, h4, h5, h6, -, -⟩ := Cond.code_spec hn (atoms_spec (ws := ws) h _ (by rw [hw]; exact List.mem_cons_self))
    exact ⟨meth, c, h1, h2, h3, h4, h5, h6⟩
  · intro p e s m args below meth c s₁ B hml hP _
    have hh0 : s₁.heap = s.heap := by rw [B.state]; rfl
    have ht : ∀ x ∈ c.exceptionTable.toList, False := by
      obtain ⟨meth9, c9, h1, h2, -, -, -, -, h7, -⟩ := Cond.code_spec B.named (atoms_spec (ws := ws) B.pre _ (by rw [hw]; exact List.mem_cons_self))
      cases Option.some.inj (h1.symm.trans B.method)
      cases Option.some.inj (h2.symm.trans (Stand.of_body B).code)
      intro x hx
      rw [Array.isEmpty_iff.mp h7] at hx
      cases hx
    obtain ⟨t, a1, o, b1, b2, b3⟩ := body p e s m args below meth c s₁ B hml ht hP s₁ hh0 (Stand.of_body B)
    exact ⟨t, o, a1, b1, b2, b3⟩
/-- the table of a body with handlers -/
theorem vx_table {p : Program} {x y : MethodName} {S : Spec} {cc bytes : ByteArray} {maxL maxL' : Nat} {ret ret' : Option FieldType} {e : Env} {s s₁ : State} {m : MethodId} {args : Array Value} {below : List Frame} {meth : Method} {c : Code} {hh : List (Nat × Nat × Nat × Nat)}
    (B : BodyLoose p l y S cc maxL ret e s m args below meth c s₁) (h : (Cond.codeWith y bytes maxL' ret' hh).before args s = true) : c.exceptionTable.toList = tableOf hh := by
  obtain ⟨m9, meth9, c9, hn9, h1, h2, -, -, h6, -⟩ := Cond.codeWith_spec h
  cases Option.some.inj (hn9.symm.trans B.named)
  cases Option.some.inj (h1.symm.trans B.method)
  cases Option.some.inj (h2.symm.trans (Stand.of_body B).code)
  rw [← h6, table_eq]
end Bodies
end VXA
/-! ===== END ===== -/
/-! ===== BEGIN a static call of a method with an exception table ===== -/
section VXS
variable {p : Program} {l : Launch} {e : Env} {R : Room} {s : State} {m : MethodId} {args : Array Value} {below : List Frame} {meth : Method} {c : Code} {T : State} {H : Heap} {locs : List Loc} {cells slots : Nat}
abbrev vx_CSW (R : Room) (s : State) (args : Array Value) (own : String) (index : Nat) (y : MethodName) (bytes : ByteArray) (maxL : Nat) (ret : Option FieldType) (hh : List (Nat × Nat × Nat × Nat)) (ws : List Cond) (rm : Room) (mc ms n : Nat) : Prop :=
  (rm.cells = mc ∧ rm.slots = ms ∧ rm.frames + 1 ≤ R.frames ∧ 8 + (maxL + 11) + rm.locals ≤ R.locals ∧ (∀ w ∈ ws, ∀ (a' : Array Value) (U : State), s.WarmedH U.vm → w.before a' U = true) ∧ Cond.codeWith y bytes maxL ret hh ∈ ws) ∧
  (Cond.codeWith y bytes maxL ret hh).before args s = true ∧ (Cond.initialized y.cls).before args s = true ∧ (y.cls ≠ "java/lang/invoke/MethodHandle" ∧ y.cls ≠ "java/lang/invoke/VarHandle") ∧
  (∀ sig, parseMethodDescriptor y.desc = some sig → n = sig.parameters.length) ∧ (Cond.methodLink own index y).before args s = true ∧ (Cond.static y).before args s = true
theorem vx_cwSW {own : String} {index maxL mc ms : Nat} {y : MethodName} {bytes : ByteArray} {ret : Option FieldType} {hh : List (Nat × Nat × Nat × Nat)} {Ts ws ws' : List Cond} {rm : Room} (n : Nat) (ht : ∀ w ∈ Ts, w.before args s = true) (hT : GoodIn Ts (va_wsS own index y ws)) (hw : ws = Cond.codeWith y bytes maxL ret hh :: ws') (hrc : rm.cells = mc) (hrs : rm.slots = ms)
    (hd : y.cls ≠ "java/lang/invoke/MethodHandle" ∧ y.cls ≠ "java/lang/invoke/VarHandle" ∧ (parseMethodDescriptor y.desc).map (fun d => d.parameters.length) = some n) (hR : rm.frames + 1 ≤ R.frames ∧ 8 + (maxL + 11) + rm.locals ≤ R.locals) :
    vx_CSW R s args own index y bytes maxL ret hh ws rm mc ms n := by
  have ok : ∀ w ∈ va_wsS own index y ws, w.before args s = true := fun w h => ht w (hT w h).1
  have hG : GoodIn Ts ws := fun w h => hT w (by unfold va_wsS; exact List.mem_append_right _ h)
  have hc : Cond.codeWith y bytes maxL ret hh ∈ ws := by rw [hw]; exact List.mem_cons_self
  refine ⟨⟨hrc, hrs, hR.1, hR.2, pay_in ht hG, hc⟩, ht _ (hG _ hc).1, ok _ (by simp [va_wsS]), ⟨hd.1, hd.2.1⟩, fun sig h => ?_, ok _ (by simp [va_wsS]), ok _ (by simp [va_wsS])⟩
  have h2 := hd.2.2
  rw [h] at h2
  exact (Option.some.inj h2).symm
theorem vx_callSW (X : Stand p l e R s m args below meth c T locs cells slots) (hexec : p.tables.exec = Jvm.exec) {own : String} {index : Nat} {y : MethodName} {bytes : ByteArray} {maxL : Nat} {ret : Option FieldType} {hh : List (Nat × Nat × Nat × Nat)}
    (hown : s.vm.findClass own = some m.cls) (hlink : (Cond.methodLink own index y).before args s = true) (hstat : (Cond.static y).before args s = true) (hinit : (Cond.initialized y.cls).before args s = true)
    (hcode : (Cond.codeWith y bytes maxL ret hh).before args s = true) (hy : y.cls ≠ "java/lang/invoke/MethodHandle" ∧ y.cls ≠ "java/lang/invoke/VarHandle")
    {W9 : Nat} {Pre : Pt → Array Value → Prop} {Post : Pt → Array Value → Option Value → Pt → Prop} (hK : Back l R p e below s args y 3 W9 Pre Post)
    {g : JFrame} (hg : g.method = m) (hsize : g.locals.size = c.maxLocals) {argsL rest : List Value} (hlen : ∀ sig, parseMethodDescriptor y.desc = some sig → argsL.length = sig.parameters.length)
    (hstack : g.stack = argsL.reverse ++ rest) (hW : 2 * g.monitorRoom + (rest.map fun v => v.category).sum ≤ W9) (hdg : decode c.code g.pc = .ok (.invokestatic index, 3))
    (hpre : ∀ vm₁, s.WarmedH vm₁ → Pre ⟨T.setVm vm₁, locs, cells, slots⟩ argsL.toArray) :
    ∃ (v : Option Value) (vm₁ : Vm) (B : Pt), s.WarmedH vm₁ ∧ Stand p l e R s m args below meth c B.U B.locs B.cells B.slots ∧ Post ⟨T.setVm vm₁, locs, cells, slots⟩ argsL.toArray v B ∧
      ∀ target, Steps p.tables e below (B.U.setTop { g with pc := g.pc + 3, stack := v.toList ++ rest }) target → Steps p.tables e below (T.setTop g) target := by
  obtain ⟨mk, methM, cM, hnamed, hmethM, -, -, -, -, -, -, hsigM⟩ := Cond.codeWith_spec hcode
  have hstatic : methM.isStatic = true := Cond.static_spec hnamed hmethM hstat
  obtain ⟨kP, hkP, -⟩ := className_of_methodNamed hnamed
  have hinitP : kP.init = .initialized := Cond.initialized_spec (findClass_of_methodNamed hnamed) hkP hinit
  obtain ⟨vm₁, X₁, hstep₁⟩ := X.invokestatic hexec hown hlink hnamed hmethM hstatic hkP hinitP hy (g := g) hg (argsL := argsL) (rest := rest) (hlen _ hsigM) hstack hdg
  obtain ⟨v, B, X', hpost, hsteps⟩ := hK m meth c ⟨T.setVm vm₁, locs, cells, slots⟩ { g with stack := rest } (.invokestatic index) mk argsL.toArray X₁ hg hsize hdg hW (X₁.named hnamed) (hpre vm₁ X₁.warmed)
  exact ⟨v, vm₁, B, X₁.warmed, X', hpost, fun target h => hstep₁ _ fun acts => by rw [doInvoke_state]; exact hsteps.trans h⟩
theorem vx_runSW {y : MethodName} {bytes cc : ByteArray} {maxL nL mc ms n index : Nat} {ret : Option FieldType} {hh : List (Nat × Nat × Nat × Nat)} {ws : List Cond} {rm : Room} {Pc : Array Value → State → Prop} {Qc : Array Value → State → Outcome → State → Prop} {free : Addr → Prop} {Ts : List Cond} {own : String} {As rest : List Value} {g : JFrame}
    (S : CallFix p m c cc nL s args Ts own) (hM : Met l y ws rm Pc Qc mc ms free) (cw : vx_CSW R s args own index y bytes maxL ret hh ws rm mc ms n) (hp : PreS s H Pc As)
    (hg : g.method = m) (hn : As.length = n) (hsize : g.locals.size = nL) (hstack : g.stack = As.reverse ++ rest) (hW : 2 * g.monitorRoom + (rest.map fun v => v.category).sum ≤ 8) (hdg : decode cc g.pc = .ok (.invokestatic index, 3)) (hf : cells + mc ≤ R.cells ∧ slots + ms ≤ R.slots) :
    va_Run p l e R s m args below meth c H locs cells slots mc ms g rest (Qc As.toArray) (free) := by
  obtain ⟨⟨hrc, hrs, hfr, hlo, hws, hcw⟩, hcode, hini, hy, hlen, hl, hstt⟩ := cw
  have hK : Back l R p e below s args y 3 8 (PreOf R mc ms Pc) (PostOf Qc mc ms free) := va_backW (hh := hh) (bytes := bytes) (maxL := maxL) (ret := ret) hM hp.1 hrc hrs hfr hlo hws hcw (fun a' U hW => word_at hW (Or.inl (by first | rfl | simp [Cond.onTables, Cond.keeps, Cond.steady])) hini)
  obtain ⟨hx, hb, hml, ho, -⟩ := S
  intro T hT X
  obtain ⟨v, vm₁, ⟨U', l2, c2, s2⟩, hW₁, X', ⟨g', mk, t, L, e1, e2, hq, h1, hL, h2, h3⟩, st⟩ := vx_callSW X hx (hh := hh) (bytes := bytes) (maxL := maxL) (ret := ret) ho hl hstt hini hcode hy hK hg (hsize.trans hml.symm) (argsL := As) (rest := rest) (fun sig h => hn.trans (hlen sig h)) hstack hW (by rw [hb]; exact hdg)
    (fun vm₁ hW₁ => ⟨hf.1, hf.2, hp.2 (T.setVm vm₁) hT hW₁⟩)
  dsimp only [Pt.U, Pt.locs, Pt.cells, Pt.slots] at X' e1 e2 h1 h2 h3 st
  subst h1; subst h2; subst h3
  exact ⟨v, (T.setVm vm₁).calling g' mk As.toArray, t, U', L, hT, X', hL, e1, e2, hq, st⟩
/-- not caught here, past rows that name other classes: it goes on to the caller -/
theorem vx_outP {p : Program} {l : Launch} {e : Env} {R : Room} {s : State} {m : MethodId} {args : Array Value} {below : List Frame} {meth : Method} {c : Code} {H : Heap} {locs : List Loc} {cells slots : Nat} {free : Addr → Prop} {ls : Array Slot} {rest : List Value} {Qc : Array Value → State → Outcome → State → Prop} {XC : String → State → State → Prop}
    {pc : Nat} {own E : String} {ce : Cell} {q : Addr} {mc ms : Nat} (hown : s.vm.findClass own = some m.cls) (hlocks : meth.locks = false)
    (hpass : ∀ z ∈ c.exceptionTable.toList, covers z pc = false ∨ (z.catchType ≠ 0 ∧ ∃ nm : String, (Cond.classLink own z.catchType nm).before args s = true ∧ va_Nc E nm s)) (hcell : H[q]? = some ce) (hv : ce.vm = .none) (hcl : s.vm.findClass E = some ce.cls)
    (hx : ∀ t : State, t.heap = H → s.vm.Alike t.vm → XC E s t) (hf : ∀ z ∈ locs, free z.base) (hc : cells ≤ mc) (hs : slots ≤ ms) :
    vx_W p l e R s m args below meth c H locs cells slots (vx_MQ below Qc XC args s mc ms free) (F0 m pc ls rest) q := by
  intro T hT X
  have hpl : e.platform.magicAccessors = ({} : Platform).magicAccessors := by rw [X.admits.platform]
  obtain ⟨vm', hW', X', st⟩ := X.outThrough hlocks q (g := F0 m pc ls rest) rfl rfl rfl (cell := ce) (by rw [hT]; exact hcell) (by rw [hv]; rfl)
    (by obtain ⟨k9, h9, -⟩ := Vm.findClass_spec hcl; exact ⟨k9, h9⟩) (fun z hz => by
      rcases hpass z hz with h | ⟨hz0, nm, hl1, hn1⟩
      · exact Or.inl h
      · obtain ⟨c6, hc6, hcl6⟩ := Cond.classLink_spec hown hl1 e.platform hpl
        obtain ⟨a8, b8, h1, h2, h3⟩ := hn1
        cases Option.some.inj (h1.symm.trans hcl)
        cases Option.some.inj (h2.symm.trans hc6)
        exact Or.inr ⟨hz0, _, hcl6, h3⟩)
  obtain ⟨g₀, hfr⟩ := X'.frames_eq
  have hcell9 : ((T.setVm vm').setFrames (.throwing q :: below)).heap[q]? = some ce := by
    show T.heap[q]? = some ce
    rw [hT]; exact hcell
  have hend : Ended ((T.setVm vm').setFrames (.throwing q :: below)) below (.threw q) := State.frames_setFrames _ (State.cur_lt_of_frames hfr)
  refine ⟨(T.setVm vm').setFrames (.throwing q :: below), ?_, .threw q, X'.here.running, hend, Or.inr ⟨q, rfl, E, ce, locs, hx _ hT (X'.ends _).1.alike, hcell9, hv, hcl, (X'.ends _).1, (X'.ends _).2.mono hc hs, hf⟩⟩
  rw [X.pushThrowing_eq]
  exact st
/-- a thing of a world lies in the heap -/
theorem vx_lt {D : va_G} {cl : List vw_C} {ws : va_W} {H1 : Heap} (h : va_P D cl ws H1) {k : Nat} {q : Nat × va_E} (hk : ws[k]? = some q) : q.1 < H1.size := (h k q hk).lt
end VXS
/-! ===== END ===== -/
/-! ===== BEGIN methods with a table of their own: called by a name, returning or throwing ===== -/
section VXH
/-! vx_backW, vx_callVX, vx_callSX, vx_callVW, vx_runVW, vx_runVX, vx_runSX, vx_ofWH follow the same proofs as their sisters above (Free/Laws.lean, Shelf42/LK1.lean); vx_outP calls Shelf42/NT130.lean (outThrough). -/
section
variable {l : Launch} {R : Room} {p : Program} {e : Env} {below : List Frame} {s : State} {sargs : Array Value} {y : MethodName} {len W9 : Nat}
theorem vx_backW {ws : List Cond} {rm : Room} {Pc : Array Value → State → Prop} {Qc : Array Value → State → Outcome → State → Prop} {XC : String → State → State → Prop} {mc ms : Nat} {free : Addr → Prop} {bytes : ByteArray} {maxL : Nat} {ret : Option FieldType} {hh : List (Nat × Nat × Nat × Nat)}
    (hM : vx_Met l y ws rm Pc Qc XC mc ms free) (hblind : FrameBlind Pc) (hrc : rm.cells = mc) (hrs : rm.slots = ms)
    (hframes : rm.frames + 1 ≤ R.frames) (hlocals : W9 + (maxL + 11) + rm.locals ≤ R.locals)
    (hws : ∀ w ∈ ws, ∀ a' U, s.WarmedH U.vm → w.before a' U = true) (hcode : Cond.codeWith y bytes maxL ret hh ∈ ws) (hinit : ∀ a' U, s.WarmedH U.vm → (Cond.initialized y.cls).before a' U = true) :
    vx_Back l R p e below s sargs y len W9 (PreOf R mc ms Pc) (PostOf Qc mc ms free) (vx_Post XC mc ms free) := by
  intro m meth c A g ig mk a X hg hsize hdg hW hn hp
  have h1 : (headSpec ws rm).pre.before a A.U = true := atoms_intro fun w hw => hws w hw _ _ X.warmed
  have h2 : (Cond.codeWith y bytes maxL ret hh).before a A.U = true := hws _ hcode _ _ X.warmed
  have h3 : (Cond.initialized y.cls).before a A.U = true := hinit _ _ X.warmed
  have h4 : A.cells + (headSpec ws rm).room.cells ≤ R.cells := by rw [show (headSpec ws rm).room.cells = mc from hrc]; exact hp.1
  have h5 : A.slots + (headSpec ws rm).room.slots ≤ R.slots := by rw [show (headSpec ws rm).room.slots = ms from hrs]; exact hp.2.1
  have hPc : Pc a (A.U.calling g mk a) := hblind _ _ _ _ hp.2.2
  obtain ⟨U, Ls, c0, s0⟩ := A
  dsimp only [Pt.U, Pt.locs, Pt.cells, Pt.slots] at h1 h2 h3 h4 h5 X hn hPc ⊢
  obtain ⟨m9, methY, cY, hn9, hmY, hcY, -, hlY, -⟩ := Cond.codeWith_spec h2
  cases Option.some.inj (hn9.symm.trans hn)
  obtain ⟨kY, hkY, -⟩ := className_of_methodNamed hn
  have hinitY : kY.init = .initialized := Cond.initialized_spec (findClass_of_methodNamed hn) hkY h3
  have h : At U g.method c below := by rw [hg]; exact X.here
  have hlocals9 : W9 + (maxL + 11) + (headSpec ws rm).room.locals ≤ R.locals := hlocals
  have happ : (headSpec ws rm).appliesLoose y e.platform (U.calling g mk a) = true :=
    Spec.appliesLoose_calling (g := g) h hdg hn hkY hinitY
      (X.room_calling (g := g) (R' := (headSpec ws rm).room) hsize hmY hcY hframes (by rw [hlY]; omega) h4 h5) h1
  obtain ⟨mid, hmid⟩ := h.above
  have hfr : (U.setTop g).frames = (.java g :: mid) ++ below := by rw [State.frames_setTop' g h.top, hmid]; rfl
  obtain ⟨o, s₂, hsteps, -, hend, hq⟩ := Steps.callFree hM p X.admits X.cas X.clock (acts := []) hfr happ hPc trivial
  have hq' : vx_Q Qc XC mc ms free a (U.calling g mk a) o s₂ := hq
  rw [State.frames_setTop' g h.top] at hend
  obtain ⟨g₀, hg0⟩ := Option.isSome_iff_exists.mp h.top
  obtain ⟨r, hr⟩ := State.topJava?_eq_some.mp hg0
  have hr' : (({ U with heap := s₂.heap, slotsUsed := s₂.slotsUsed } : State).setVm s₂.vm).frames = .java g₀ :: r := hr
  rcases hq' with ⟨hqc, L, hfe, hL⟩ | ⟨q, rfl, E, ce, L, hx, hce, hcv, hcl, hW₂, hsm, hL⟩
  · obtain ⟨⟨v, rfl⟩, hW₂, e2, q2, q3, q4, q5, q6⟩ := id hfe
    have e3 : s₂ = ({ (U.calling g mk a).setFrames s₂.frames with heap := s₂.heap, slotsUsed := s₂.slotsUsed } : State).setVm s₂.vm := by
      have : s₂ = ({ s₂ with vm := (U.calling g mk a).vm } : State).setVm s₂.vm := rfl
      rw [e2] at this
      exact this
    obtain ⟨c₂, i₂, len₂, hc₂, hd₂, hf₂⟩ := hend
    have hW' : U.WarmedH s₂.vm := hW₂
    have hcc : c₂ = c := by
      have h1 : s₂.code? g.method = U.code? g.method := by
        rw [State.code?_eq, State.code?_eq, hW'.alike.method?]
      exact Option.some.inj (hc₂.symm.trans (h1.trans h.code))
    subst hcc
    have hlen : len₂ = len := by rw [hdg] at hd₂; cases hd₂; rfl
    subst hlen
    have hs₂ : s₂ = (({ U with heap := s₂.heap, slotsUsed := s₂.slotsUsed } : State).setVm s₂.vm).setTop { g with pc := g.pc + len₂, stack := v.toList ++ g.stack } := by
      refine e3.trans ?_
      rw [hf₂, State.calling_eq h.top, State.setFrames_setFrames, State.setTop_of_frames _ hr', hr]
      rfl
    have hsame : U.sameButNew ({ U with heap := s₂.heap, slotsUsed := s₂.slotsUsed } : State) L mc ms := by
      refine ⟨?_, q2, q3, q4, q5, q6⟩
      obtain ⟨t, ht, -⟩ := State.frames_cons hr
      show ({ U with heap := s₂.heap, slotsUsed := s₂.slotsUsed } : State) = { U.setFrames U.frames with heap := s₂.heap, slotsUsed := s₂.slotsUsed }
      rw [State.setFrames_self ht]
    subst hg
    refine Or.inl ⟨v, ⟨(({ U with heap := s₂.heap, slotsUsed := s₂.slotsUsed } : State).setVm s₂.vm), Ls ++ L, c0 + mc, s0 + ms⟩,
      ⟨X.admits, X.cas, X.clock, X.frames, X.room, X.hears, X.method, X.code, (X.here.setHeapUsed s₂.heap s₂.slotsUsed).setVm hW'.alike, X.tail, State.WarmedH.trans X.warmed hW', X.limits, X.bytes, X.same.trans (hsame.setVm s.vm)⟩,
      ⟨g, mk, s₂, L, rfl, rfl, hqc, rfl, hL, rfl, rfl⟩, ?_⟩
    show Steps p.tables e below _ ((({ U with heap := s₂.heap, slotsUsed := s₂.slotsUsed } : State).setVm s₂.vm).setTop { g with pc := g.pc + len₂, stack := v.toList ++ g.stack })
    rw [← hs₂]
    exact hsteps
  · obtain ⟨e2, q2, q3, q4, q5, q6⟩ := id hsm
    have e3 : s₂ = ({ (U.calling g mk a).setFrames s₂.frames with heap := s₂.heap, slotsUsed := s₂.slotsUsed } : State).setVm s₂.vm := by
      have : s₂ = ({ s₂ with vm := (U.calling g mk a).vm } : State).setVm s₂.vm := rfl
      rw [e2] at this
      exact this
    have hf₂ : s₂.frames = .throwing q :: .java g :: U.frames.tail := hend
    have hW' : U.WarmedH s₂.vm := hW₂
    have hs₂ : s₂ = ((({ U with heap := s₂.heap, slotsUsed := s₂.slotsUsed } : State).setVm s₂.vm).setTop g).pushFrame (.throwing q) := by
      refine e3.trans ?_
      rw [hf₂, State.calling_eq h.top, State.setFrames_setFrames, State.pushFrame, State.frames_setTop _ hr', State.setTop_of_frames _ hr', State.setFrames_setFrames, hr]
      rfl
    have hsame : U.sameButNew ({ U with heap := s₂.heap, slotsUsed := s₂.slotsUsed } : State) L mc ms := by
      refine ⟨?_, q2, q3, q4, q5, q6⟩
      obtain ⟨t, ht, -⟩ := State.frames_cons hr
      show ({ U with heap := s₂.heap, slotsUsed := s₂.slotsUsed } : State) = { U.setFrames U.frames with heap := s₂.heap, slotsUsed := s₂.slotsUsed }
      rw [State.setFrames_self ht]
    subst hg
    refine Or.inr ⟨q, ⟨(({ U with heap := s₂.heap, slotsUsed := s₂.slotsUsed } : State).setVm s₂.vm), Ls ++ L, c0 + mc, s0 + ms⟩,
      ⟨X.admits, X.cas, X.clock, X.frames, X.room, X.hears, X.method, X.code, (X.here.setHeapUsed s₂.heap s₂.slotsUsed).setVm hW'.alike, X.tail, State.WarmedH.trans X.warmed hW', X.limits, X.bytes, X.same.trans (hsame.setVm s.vm)⟩,
      ⟨g, mk, s₂, L, E, ce, rfl, rfl, hx, hce, hcv, hcl, rfl, hL, rfl, rfl⟩, ?_⟩
    show Steps p.tables e below _ (((({ U with heap := s₂.heap, slotsUsed := s₂.slotsUsed } : State).setVm s₂.vm).setTop g).pushFrame (.throwing q))
    rw [← hs₂]
    exact hsteps
end
variable {p : Program} {l : Launch} {e : Env} {R : Room} {s : State} {m : MethodId} {args : Array Value} {below : List Frame} {meth : Method} {c : Code} {T : State} {H : Heap} {locs : List Loc} {cells slots : Nat}
theorem vx_callVX (X : Stand p l e R s m args below meth c T locs cells slots) (hexec : p.tables.exec = Jvm.exec) {own C : String} {index : Nat} {y : MethodName} {bytes : ByteArray} {maxL : Nat} {ret : Option FieldType} {hh : List (Nat × Nat × Nat × Nat)}
    (hown : s.vm.findClass own = some m.cls) (hlink : (Cond.methodLink own index y).before args s = true) (hinst : (Cond.instanceMethod y).before args s = true) (hsel : (Cond.selects C y y).before args s = true)
    (hcode : (Cond.codeWith y bytes maxL ret hh).before args s = true) (hy : y.cls ≠ "java/lang/invoke/MethodHandle" ∧ y.cls ≠ "java/lang/invoke/VarHandle")
    {W9 : Nat} {Pre : Pt → Array Value → Prop} {Post : Pt → Array Value → Option Value → Pt → Prop} {PostX : Pt → Array Value → Addr → Pt → Prop} (hK : vx_Back l R p e below s args y 3 W9 Pre Post PostX)
    {b : Addr} {cellB : Cell} (hcell : T.heap[b]? = some cellB) (hobj : cellB.vm.isStatics = false) (hcls : s.vm.findClass C = some cellB.cls)
    {g : JFrame} (hg : g.method = m) (hsize : g.locals.size = c.maxLocals) {argsL rest : List Value} (hlen : ∀ sig, parseMethodDescriptor y.desc = some sig → argsL.length = sig.parameters.length)
    (hstack : g.stack = argsL.reverse ++ .ref b :: rest) (hW : 2 * g.monitorRoom + (rest.map fun v => v.category).sum ≤ W9) (hdg : decode c.code g.pc = .ok (.invokevirtual index, 3))
    (hpre : ∀ vm₁, s.WarmedH vm₁ → Pre ⟨T.setVm vm₁, locs, cells, slots⟩ (Value.ref b :: argsL).toArray) :
    (∃ (v : Option Value) (vm₁ : Vm) (B : Pt), s.WarmedH vm₁ ∧ Stand p l e R s m args below meth c B.U B.locs B.cells B.slots ∧ Post ⟨T.setVm vm₁, locs, cells, slots⟩ (Value.ref b :: argsL).toArray v B ∧
      ∀ target, Steps p.tables e below (B.U.setTop { g with pc := g.pc + 3, stack := v.toList ++ rest }) target → Steps p.tables e below (T.setTop g) target) ∨
    (∃ (q : Addr) (vm₁ : Vm) (B : Pt), s.WarmedH vm₁ ∧ Stand p l e R s m args below meth c B.U B.locs B.cells B.slots ∧ PostX ⟨T.setVm vm₁, locs, cells, slots⟩ (Value.ref b :: argsL).toArray q B ∧
      Steps p.tables e below (T.setTop g) ((B.U.setTop { g with stack := rest }).pushFrame (.throwing q))) := by
  obtain ⟨mk, methM, hnamed, hmethM, hstM, habM⟩ := Cond.instanceMethod_spec hinst
  obtain ⟨m8, methM', cM, hn8, hmethM', -, -, -, -, -, -, hsigM⟩ := Cond.codeWith_spec hcode
  cases Option.some.inj (hn8.symm.trans hnamed)
  cases hmethM.symm.trans hmethM'
  obtain ⟨c2, r2, m2, q1, q2, q3, q4, kP, hkP, hkPi⟩ := Cond.selects_spec hsel
  cases hcls.symm.trans q1
  cases (State.methodFound?_of_named hnamed hy).symm.trans q2
  cases hnamed.symm.trans q3
  have hselP : selectMethod e.platform s.vm cellB.cls mk = .method mk := by rw [Launch.admits_selectMethod X.admits]; exact q4
  obtain ⟨vm₁, X₁, hstep₁⟩ := X.invokevirtual hexec hown hlink hnamed hmethM hstM hkP hkPi hy (a := b) (cell := cellB) hcell
    (fun z h => by rw [h] at hobj; cases hobj) hselP hmethM habM hkP hkPi (g := g) hg (argsL := argsL) (rest := rest) (hlen _ hsigM) hstack hdg
  rcases hK m meth c ⟨T.setVm vm₁, locs, cells, slots⟩ { g with stack := rest } (.invokevirtual index) mk (Value.ref b :: argsL).toArray X₁ hg hsize hdg hW (X₁.named hnamed) (hpre vm₁ X₁.warmed) with ⟨v, B, X', hpost, hsteps⟩ | ⟨q, B, X', hpost, hsteps⟩
  · exact Or.inl ⟨v, vm₁, B, X₁.warmed, X', hpost, fun target h => hstep₁ _ fun acts => by rw [doInvoke_state]; exact hsteps.trans h⟩
  · exact Or.inr ⟨q, vm₁, B, X₁.warmed, X', hpost, hstep₁ _ fun acts => by rw [doInvoke_state]; exact hsteps⟩
theorem vx_callSX (X : Stand p l e R s m args below meth c T locs cells slots) (hexec : p.tables.exec = Jvm.exec) {own : String} {index : Nat} {y : MethodName} {bytes : ByteArray} {maxL : Nat} {ret : Option FieldType} {hh : List (Nat × Nat × Nat × Nat)}
    (hown : s.vm.findClass own = some m.cls) (hlink : (Cond.methodLink own index y).before args s = true) (hstat : (Cond.static y).before args s = true) (hinit : (Cond.initialized y.cls).before args s = true)
    (hcode : (Cond.codeWith y bytes maxL ret hh).before args s = true) (hy : y.cls ≠ "java/lang/invoke/MethodHandle" ∧ y.cls ≠ "java/lang/invoke/VarHandle")
    {W9 : Nat} {Pre : Pt → Array Value → Prop} {Post : Pt → Array Value → Option Value → Pt → Prop} {PostX : Pt → Array Value → Addr → Pt → Prop} (hK : vx_Back l R p e below s args y 3 W9 Pre Post PostX)
    {g : JFrame} (hg : g.method = m) (hsize : g.locals.size = c.maxLocals) {argsL rest : List Value} (hlen : ∀ sig, parseMethodDescriptor y.desc = some sig → argsL.length = sig.parameters.length)
    (hstack : g.stack = argsL.reverse ++ rest) (hW : 2 * g.monitorRoom + (rest.map fun v => v.category).sum ≤ W9) (hdg : decode c.code g.pc = .ok (.invokestatic index, 3))
    (hpre : ∀ vm₁, s.WarmedH vm₁ → Pre ⟨T.setVm vm₁, locs, cells, slots⟩ argsL.toArray) :
    (∃ (v : Option Value) (vm₁ : Vm) (B : Pt), s.WarmedH vm₁ ∧ Stand p l e R s m args below meth c B.U B.locs B.cells B.slots ∧ Post ⟨T.setVm vm₁, locs, cells, slots⟩ argsL.toArray v B ∧
      ∀ target, Steps p.tables e below (B.U.setTop { g with pc := g.pc + 3, stack := v.toList ++ rest }) target → Steps p.tables e below (T.setTop g) target) ∨
    (∃ (q : Addr) (vm₁ : Vm) (B : Pt), s.WarmedH vm₁ ∧ Stand p l e R s m args below meth c B.U B.locs B.cells B.slots ∧ PostX ⟨T.setVm vm₁, locs, cells, slots⟩ argsL.toArray q B ∧
      Steps p.tables e below (T.setTop g) ((B.U.setTop { g with stack := rest }).pushFrame (.throwing q))) := by
  obtain ⟨mk, methM, cM, hnamed, hmethM, -, -, -, -, -, -, hsigM⟩ := Cond.codeWith_spec hcode
  have hstatic : methM.isStatic = true := Cond.static_spec hnamed hmethM hstat
  obtain ⟨kP, hkP, -⟩ := className_of_methodNamed hnamed
  have hinitP : kP.init = .initialized := Cond.initialized_spec (findClass_of_methodNamed hnamed) hkP hinit
  obtain ⟨vm₁, X₁, hstep₁⟩ := X.invokestatic hexec hown hlink hnamed hmethM hstatic hkP hinitP hy (g := g) hg (argsL := argsL) (rest := rest) (hlen _ hsigM) hstack hdg
  rcases hK m meth c ⟨T.setVm vm₁, locs, cells, slots⟩ { g with stack := rest } (.invokestatic index) mk argsL.toArray X₁ hg hsize hdg hW (X₁.named hnamed) (hpre vm₁ X₁.warmed) with ⟨v, B, X', hpost, hsteps⟩ | ⟨q, B, X', hpost, hsteps⟩
  · exact Or.inl ⟨v, vm₁, B, X₁.warmed, X', hpost, fun target h => hstep₁ _ fun acts => by rw [doInvoke_state]; exact hsteps.trans h⟩
  · exact Or.inr ⟨q, vm₁, B, X₁.warmed, X', hpost, hstep₁ _ fun acts => by rw [doInvoke_state]; exact hsteps⟩
theorem vx_callVW (X : Stand p l e R s m args below meth c T locs cells slots) (hexec : p.tables.exec = Jvm.exec) {own C : String} {index : Nat} {y : MethodName} {bytes : ByteArray} {maxL : Nat} {ret : Option FieldType} {hh : List (Nat × Nat × Nat × Nat)}
    (hown : s.vm.findClass own = some m.cls) (hlink : (Cond.methodLink own index y).before args s = true) (hinst : (Cond.instanceMethod y).before args s = true) (hsel : (Cond.selects C y y).before args s = true)
    (hcode : (Cond.codeWith y bytes maxL ret hh).before args s = true) (hy : y.cls ≠ "java/lang/invoke/MethodHandle" ∧ y.cls ≠ "java/lang/invoke/VarHandle")
    {W9 : Nat} {Pre : Pt → Array Value → Prop} {Post : Pt → Array Value → Option Value → Pt → Prop} (hK : Back l R p e below s args y 3 W9 Pre Post)
    {b : Addr} {cellB : Cell} (hcell : T.heap[b]? = some cellB) (hobj : cellB.vm.isStatics = false) (hcls : s.vm.findClass C = some cellB.cls)
    {g : JFrame} (hg : g.method = m) (hsize : g.locals.size = c.maxLocals) {argsL rest : List Value} (hlen : ∀ sig, parseMethodDescriptor y.desc = some sig → argsL.length = sig.parameters.length)
    (hstack : g.stack = argsL.reverse ++ .ref b :: rest) (hW : 2 * g.monitorRoom + (rest.map fun v => v.category).sum ≤ W9) (hdg : decode c.code g.pc = .ok (.invokevirtual index, 3))
    (hpre : ∀ vm₁, s.WarmedH vm₁ → Pre ⟨T.setVm vm₁, locs, cells, slots⟩ (Value.ref b :: argsL).toArray) :
    ∃ (v : Option Value) (vm₁ : Vm) (B : Pt), s.WarmedH vm₁ ∧ Stand p l e R s m args below meth c B.U B.locs B.cells B.slots ∧ Post ⟨T.setVm vm₁, locs, cells, slots⟩ (Value.ref b :: argsL).toArray v B ∧
      ∀ target, Steps p.tables e below (B.U.setTop { g with pc := g.pc + 3, stack := v.toList ++ rest }) target → Steps p.tables e below (T.setTop g) target := by
  obtain ⟨mk, methM, hnamed, hmethM, hstM, habM⟩ := Cond.instanceMethod_spec hinst
  obtain ⟨m8, methM', cM, hn8, hmethM', -, -, -, -, -, -, hsigM⟩ := Cond.codeWith_spec hcode
  cases Option.some.inj (hn8.symm.trans hnamed)
  cases hmethM.symm.trans hmethM'
  obtain ⟨c2, r2, m2, q1, q2, q3, q4, kP, hkP, hkPi⟩ := Cond.selects_spec hsel
  cases hcls.symm.trans q1
  cases (State.methodFound?_of_named hnamed hy).symm.trans q2
  cases hnamed.symm.trans q3
  have hselP : selectMethod e.platform s.vm cellB.cls mk = .method mk := by rw [Launch.admits_selectMethod X.admits]; exact q4
  obtain ⟨vm₁, X₁, hstep₁⟩ := X.invokevirtual hexec hown hlink hnamed hmethM hstM hkP hkPi hy (a := b) (cell := cellB) hcell
    (fun z h => by rw [h] at hobj; cases hobj) hselP hmethM habM hkP hkPi (g := g) hg (argsL := argsL) (rest := rest) (hlen _ hsigM) hstack hdg
  obtain ⟨v, B, X', hpost, hsteps⟩ := hK m meth c ⟨T.setVm vm₁, locs, cells, slots⟩ { g with stack := rest } (.invokevirtual index) mk (Value.ref b :: argsL).toArray X₁ hg hsize hdg hW (X₁.named hnamed) (hpre vm₁ X₁.warmed)
  exact ⟨v, vm₁, B, X₁.warmed, X', hpost, fun target h => hstep₁ _ fun acts => by rw [doInvoke_state]; exact hsteps.trans h⟩
abbrev vx_CVW (R : Room) (s : State) (args : Array Value) (own C : String) (index : Nat) (y : MethodName) (bytes : ByteArray) (maxL : Nat) (ret : Option FieldType) (hh : List (Nat × Nat × Nat × Nat)) (ws : List Cond) (rm : Room) (mc ms n : Nat) : Prop :=
  (rm.cells = mc ∧ rm.slots = ms ∧ rm.frames + 1 ≤ R.frames ∧ 8 + (maxL + 11) + rm.locals ≤ R.locals ∧ (∀ w ∈ ws, ∀ (a' : Array Value) (U : State), s.WarmedH U.vm → w.before a' U = true) ∧ Cond.codeWith y bytes maxL ret hh ∈ ws) ∧
  (Cond.codeWith y bytes maxL ret hh).before args s = true ∧ (Cond.initialized y.cls).before args s = true ∧ (y.cls ≠ "java/lang/invoke/MethodHandle" ∧ y.cls ≠ "java/lang/invoke/VarHandle") ∧
  (∀ sig, parseMethodDescriptor y.desc = some sig → n = sig.parameters.length) ∧ (Cond.methodLink own index y).before args s = true ∧ (Cond.instanceMethod y).before args s = true ∧ (Cond.selects C y y).before args s = true
theorem vx_cwVW {own C : String} {index maxL mc ms : Nat} {y : MethodName} {bytes : ByteArray} {ret : Option FieldType} {hh : List (Nat × Nat × Nat × Nat)} {Ts ws ws' : List Cond} {rm : Room} (n : Nat) (ht : ∀ w ∈ Ts, w.before args s = true) (hT : GoodIn Ts (wsV own index C y ws)) (hw : ws = Cond.codeWith y bytes maxL ret hh :: ws') (hrc : rm.cells = mc) (hrs : rm.slots = ms)
    (hd : y.cls = C ∧ y.cls ≠ "java/lang/invoke/MethodHandle" ∧ y.cls ≠ "java/lang/invoke/VarHandle" ∧ (parseMethodDescriptor y.desc).map (fun d => d.parameters.length) = some n) (hR : rm.frames + 1 ≤ R.frames ∧ 8 + (maxL + 11) + rm.locals ≤ R.locals) :
    vx_CVW R s args own C index y bytes maxL ret hh ws rm mc ms n := by
  obtain ⟨hC, hd⟩ := hd
  subst hC
  have ok : ∀ w ∈ wsV own index y.cls y ws, w.before args s = true := fun w h => ht w (hT w h).1
  have hG : GoodIn Ts ws := fun w h => hT w (by unfold wsV; exact List.mem_append_right _ h)
  have hc : Cond.codeWith y bytes maxL ret hh ∈ ws := by rw [hw]; exact List.mem_cons_self
  refine ⟨⟨hrc, hrs, hR.1, hR.2, pay_in ht hG, hc⟩, ht _ (hG _ hc).1, ok _ (by simp [wsV]), ⟨hd.1, hd.2.1⟩, fun sig h => ?_, ok _ (by simp [wsV]), ok _ (by simp [wsV]), ok _ (by simp [wsV])⟩
  have h2 := hd.2.2
  rw [h] at h2
  exact (Option.some.inj h2).symm
theorem vx_runVW {y : MethodName} {bytes cc : ByteArray} {maxL nL mc ms n index : Nat} {ret : Option FieldType} {hh : List (Nat × Nat × Nat × Nat)} {ws : List Cond} {rm : Room} {Pc : Array Value → State → Prop} {Qc : Array Value → State → Outcome → State → Prop} {free : Addr → Prop} {Ts : List Cond} {own C : String} {b : Addr} {As rest : List Value} {g : JFrame}
    (S : CallFix p m c cc nL s args Ts own) (hM : Met l y ws rm Pc Qc mc ms free) (cw : vx_CVW R s args own C index y bytes maxL ret hh ws rm mc ms n) (hp : PreV s H C b Pc As)
    (hg : g.method = m) (hn : As.length = n) (hsize : g.locals.size = nL) (hstack : g.stack = As.reverse ++ .ref b :: rest) (hW : 2 * g.monitorRoom + (rest.map fun v => v.category).sum ≤ 8) (hdg : decode cc g.pc = .ok (.invokevirtual index, 3)) (hf : cells + mc ≤ R.cells ∧ slots + ms ≤ R.slots) :
    va_Run p l e R s m args below meth c H locs cells slots mc ms g rest (Qc (Value.ref b :: As).toArray) free := by
  obtain ⟨⟨hrc, hrs, hfr, hlo, hws, hcw⟩, hcode, hini, hy, hlen, hl, hin, hse⟩ := cw
  have hK : Back l R p e below s args y 3 8 (PreOf R mc ms Pc) (PostOf Qc mc ms free) := va_backW (hh := hh) (bytes := bytes) (maxL := maxL) (ret := ret) hM hp.1 hrc hrs hfr hlo hws hcw (fun a' U hW => word_at hW (Or.inl (by first | rfl | simp [Cond.onTables, Cond.keeps, Cond.steady])) hini)
  obtain ⟨hx, hb, hml, ho, -⟩ := S
  obtain ⟨-, ⟨cellB, hcB, hoB, hclB⟩, hPc⟩ := hp
  intro T hT X
  obtain ⟨v, vm₁, ⟨U', l2, c2, s2⟩, hW₁, X', ⟨g', mk, t, L, e1, e2, hq, h1, hL, h2, h3⟩, st⟩ := vx_callVW X hx (C := C) (hh := hh) (bytes := bytes) (maxL := maxL) (ret := ret) ho hl hin hse hcode hy hK (by rw [hT]; exact hcB) hoB hclB hg (hsize.trans hml.symm) (argsL := As) (rest := rest) (fun sig h => hn.trans (hlen sig h)) hstack hW (by rw [hb]; exact hdg)
    (fun vm₁ hW₁ => ⟨hf.1, hf.2, hPc (T.setVm vm₁) hT hW₁⟩)
  dsimp only [Pt.U, Pt.locs, Pt.cells, Pt.slots] at X' e1 e2 h1 h2 h3 st
  subst h1; subst h2; subst h3
  exact ⟨v, (T.setVm vm₁).calling g' mk (Value.ref b :: As).toArray, t, U', L, hT, X', hL, e1, e2, hq, st⟩
section
variable {y : MethodName} {bytes cc : ByteArray} {maxL nL mc ms n index : Nat} {ret : Option FieldType} {ws : List Cond} {rm : Room} {Pc : Array Value → State → Prop} {Qc : Array Value → State → Outcome → State → Prop} {XC : String → State → State → Prop} {free : Addr → Prop} {Ts : List Cond} {own C : String} {b : Addr} {As rest : List Value} {g : JFrame}
theorem vx_runVX {hh : List (Nat × Nat × Nat × Nat)} (S : CallFix p m c cc nL s args Ts own) (hM : vx_Met l y ws rm Pc Qc XC mc ms free) (cw : vx_CVW R s args own C index y bytes maxL ret hh ws rm mc ms n) (hp : PreV s H C b Pc As)
    (hg : g.method = m) (hn : As.length = n) (hsize : g.locals.size = nL) (hstack : g.stack = As.reverse ++ .ref b :: rest) (hW : 2 * g.monitorRoom + (rest.map fun v => v.category).sum ≤ 8) (hdg : decode cc g.pc = .ok (.invokevirtual index, 3)) (hf : cells + mc ≤ R.cells ∧ slots + ms ≤ R.slots) :
    vx_Run p l e R s m args below meth c H locs cells slots mc ms g rest (Qc (Value.ref b :: As).toArray) XC free := by
  obtain ⟨⟨hrc, hrs, hfr, hlo, hws, hcw⟩, hcode, hini, hy, hlen, hl, hin, hse⟩ := cw
  have hK : vx_Back l R p e below s args y 3 8 (PreOf R mc ms Pc) (PostOf Qc mc ms free) (vx_Post XC mc ms free) := vx_backW (hh := hh) (bytes := bytes) (maxL := maxL) (ret := ret) hM hp.1 hrc hrs hfr hlo hws hcw (fun a' U hW => word_at hW (Or.inl (by first | rfl | simp [Cond.onTables, Cond.keeps, Cond.steady])) hini)
  obtain ⟨hx, hb, hml, ho, -⟩ := S
  obtain ⟨-, ⟨cellB, hcB, hoB, hclB⟩, hPc⟩ := hp
  intro T hT X
  rcases vx_callVX X hx (C := C) (hh := hh) (bytes := bytes) (maxL := maxL) (ret := ret) ho hl hin hse hcode hy hK (by rw [hT]; exact hcB) hoB hclB hg (hsize.trans hml.symm) (argsL := As) (rest := rest) (fun sig h => hn.trans (hlen sig h)) hstack hW (by rw [hb]; exact hdg)
    (fun vm₁ hW₁ => ⟨hf.1, hf.2, hPc (T.setVm vm₁) hT hW₁⟩) with ⟨v, vm₁, ⟨U', l2, c2, s2⟩, hW₁, X', ⟨g', mk, t, L, e1, e2, hq, h1, hL, h2, h3⟩, st⟩ | ⟨q, vm₁, ⟨U', l2, c2, s2⟩, hW₁, X', ⟨g', mk, t, L, E, ce, e1, e2, hq, hce, hcv, hcl, h1, hL, h2, h3⟩, st⟩
  · dsimp only [Pt.U, Pt.locs, Pt.cells, Pt.slots] at X' e1 e2 h1 h2 h3 st
    subst h1; subst h2; subst h3
    exact Or.inl ⟨v, (T.setVm vm₁).calling g' mk (Value.ref b :: As).toArray, t, U', L, hT, X', hL, e1, e2, hq, st⟩
  · dsimp only [Pt.U, Pt.locs, Pt.cells, Pt.slots] at X' e1 e2 h1 h2 h3 st hcl
    subst h1; subst h2; subst h3
    exact Or.inr ⟨q, (T.setVm vm₁).calling g' mk (Value.ref b :: As).toArray, t, U', L, E, ce, hT, X', hL, e1, e2, hq, hce, hcv, vx_cls hW₁ hcl, st⟩
theorem vx_runSX {hh : List (Nat × Nat × Nat × Nat)} (S : CallFix p m c cc nL s args Ts own) (hM : vx_Met l y ws rm Pc Qc XC mc ms free) (cw : vx_CSW R s args own index y bytes maxL ret hh ws rm mc ms n) (hp : PreS s H Pc As)
    (hg : g.method = m) (hn : As.length = n) (hsize : g.locals.size = nL) (hstack : g.stack = As.reverse ++ rest) (hW : 2 * g.monitorRoom + (rest.map fun v => v.category).sum ≤ 8) (hdg : decode cc g.pc = .ok (.invokestatic index, 3)) (hf : cells + mc ≤ R.cells ∧ slots + ms ≤ R.slots) :
    vx_Run p l e R s m args below meth c H locs cells slots mc ms g rest (Qc As.toArray) XC free := by
  obtain ⟨⟨hrc, hrs, hfr, hlo, hws, hcw⟩, hcode, hini, hy, hlen, hl, hstt⟩ := cw
  have hK : vx_Back l R p e below s args y 3 8 (PreOf R mc ms Pc) (PostOf Qc mc ms free) (vx_Post XC mc ms free) := vx_backW (hh := hh) (bytes := bytes) (maxL := maxL) (ret := ret) hM hp.1 hrc hrs hfr hlo hws hcw (fun a' U hW => word_at hW (Or.inl (by first | rfl | simp [Cond.onTables, Cond.keeps, Cond.steady])) hini)
  obtain ⟨hx, hb, hml, ho, -⟩ := S
  intro T hT X
  rcases vx_callSX X hx (hh := hh) (bytes := bytes) (maxL := maxL) (ret := ret) ho hl hstt hini hcode hy hK hg (hsize.trans hml.symm) (argsL := As) (rest := rest) (fun sig h => hn.trans (hlen sig h)) hstack hW (by rw [hb]; exact hdg)
    (fun vm₁ hW₁ => ⟨hf.1, hf.2, hp.2 (T.setVm vm₁) hT hW₁⟩) with ⟨v, vm₁, ⟨U', l2, c2, s2⟩, hW₁, X', ⟨g', mk, t, L, e1, e2, hq, h1, hL, h2, h3⟩, st⟩ | ⟨q, vm₁, ⟨U', l2, c2, s2⟩, hW₁, X', ⟨g', mk, t, L, E, ce, e1, e2, hq, hce, hcv, hcl, h1, hL, h2, h3⟩, st⟩
  · dsimp only [Pt.U, Pt.locs, Pt.cells, Pt.slots] at X' e1 e2 h1 h2 h3 st
    subst h1; subst h2; subst h3
    exact Or.inl ⟨v, (T.setVm vm₁).calling g' mk As.toArray, t, U', L, hT, X', hL, e1, e2, hq, st⟩
  · dsimp only [Pt.U, Pt.locs, Pt.cells, Pt.slots] at X' e1 e2 h1 h2 h3 st hcl
    subst h1; subst h2; subst h3
    exact Or.inr ⟨q, (T.setVm vm₁).calling g' mk As.toArray, t, U', L, E, ce, hT, X', hL, e1, e2, hq, hce, hcv, vx_cls hW₁ hcl, st⟩
end
end VXH
theorem vx_ofWH {l : Launch} {y : MethodName} {ws ws' : List Cond} {rm : Room} {Pc : Array Value → State → Prop} {Qc : Array Value → State → Outcome → State → Prop} {XC : String → State → State → Prop} {mc ms : Nat} {free : Addr → Prop} {cc : ByteArray} {maxL : Nat} {ret : Option FieldType} {hh : List (Nat × Nat × Nat × Nat)}
    (hy : plainName y.cls = true) (hw : ws = Cond.codeWith y cc maxL ret hh :: ws')
    (body : ∀ p e s m args below meth c s₁, BodyLoose p l y (headSpec ws rm) cc maxL ret e s m args below meth c s₁ → c.maxLocals = maxL → Pc args s →
      W p l e (headSpec ws rm).room s m args below meth c s.heap [] 0 0 (vx_MQ below Qc XC args s mc ms free) (entryFrame m args maxL)) : vx_Met l y ws rm Pc Qc XC mc ms free := by
  refine MetFree.of_bodyS (code := cc) (maxLocals := maxL) (ret := ret) hy ?_ ?_
  · intro args s m h hn
    obtain ⟨m9, meth, c, hn9, h1, h2, h3, h4, -, h5, h6, -⟩ := Cond.codeWith_spec (atoms_spec (ws := ws) h _ (by rw [hw]; exact List.mem_cons_self))
    cases hn.symm.trans hn9
    exact ⟨meth, c, h1, h2, h3, h4, h5, h6⟩
  · intro p e s m args below meth c s₁ B hml hP _
    have hh0 : s₁.heap = s.heap := by rw [B.state]; rfl
    obtain ⟨t, a1, o, b1, b2, b3⟩ := body p e s m args below meth c s₁ B hml hP s₁ hh0 (Stand.of_body B)
    exact ⟨t, o, a1, b1, b2, b3⟩
/-! ===== END ===== -/
end
section
/-! ===== BEGIN printed: names, fields, word lists, decode rows ===== -/
def RX0 : String := "ToneRows"
def TX0 : u_T := fun k => match k with
  | 0 => ("ToneRows", "row0", "J", false)
  | 1 => ("ToneRows", "row1", "J", false)
  | 2 => ("ToneRows", "phrase", "J", false)
  | _ => ("ToneRows", "phraseLength", "I", false)
def tyX0 : Nat → FieldType := fun k => match k with
  | 0 => .long
  | 1 => .long
  | 2 => .long
  | _ => .int
abbrev wsX00 : List Cond := u_ws RX0 TX0 4
theorem nmX0 : ∀ a, a < 4 → ∀ b, b < 4 → a ≠ b → (TX0 a).2.1 ≠ (TX0 b).2.1 := by decide +kernel
theorem tyX0_ok : ∀ k, k < 4 → parseFieldDescriptor (TX0 k).2.2.1 = some (tyX0 k) := by decide +kernel
abbrev cX0_init : ByteArray := prog_1_method_1_code
def yX0_init : MethodName := ⟨RX0, "<init>", "()V"⟩
abbrev cX0_put : ByteArray := prog_1_method_2_code
def yX0_put : MethodName := ⟨RX0, "put", "(III)I"⟩
abbrev cX0_take : ByteArray := prog_1_method_3_code
def yX0_take : MethodName := ⟨RX0, "take", "(IIII)I"⟩
abbrev cX0_multiply : ByteArray := prog_1_method_4_code
def yX0_multiply : MethodName := ⟨RX0, "multiply", "(II)I"⟩
abbrev cX0_rotate : ByteArray := prog_1_method_5_code
def yX0_rotate : MethodName := ⟨RX0, "rotate", "(II)I"⟩
abbrev cX0_tone : ByteArray := prog_1_method_6_code
def yX0_tone : MethodName := ⟨RX0, "tone", "(II)I"⟩
abbrev cX0_interval : ByteArray := prog_1_method_7_code
def yX0_interval : MethodName := ⟨RX0, "interval", "(II)I"⟩
abbrev cX0_hasAllIntervals : ByteArray := prog_1_method_8_code
def yX0_hasAllIntervals : MethodName := ⟨RX0, "hasAllIntervals", "(I)Z"⟩
abbrev cX0_toneOf : ByteArray := prog_1_method_9_code
def yX0_toneOf : MethodName := ⟨RX0, "toneOf", "(IIII)I"⟩
abbrev cX0_matrix : ByteArray := prog_1_method_10_code
def yX0_matrix : MethodName := ⟨RX0, "matrix", "(III)I"⟩
abbrev cX0_differentForms : ByteArray := prog_1_method_11_code
def yX0_differentForms : MethodName := ⟨RX0, "differentForms", "(I)I"⟩
abbrev cX0_formOfOther : ByteArray := prog_1_method_12_code
def yX0_formOfOther : MethodName := ⟨RX0, "formOfOther", "(I)I"⟩
abbrev cX0_segment : ByteArray := prog_1_method_13_code
def yX0_segment : MethodName := ⟨RX0, "segment", "(III)I"⟩
abbrev cX0_classOf : ByteArray := prog_1_method_14_code
def yX0_classOf : MethodName := ⟨RX0, "classOf", "(I)I"⟩
abbrev cX0_pairs : ByteArray := prog_1_method_15_code
def yX0_pairs : MethodName := ⟨RX0, "pairs", "(II)I"⟩
abbrev cX0_combining : ByteArray := prog_1_method_16_code
def yX0_combining : MethodName := ⟨RX0, "combining", "(I)J"⟩
abbrev cX0_isDerived : ByteArray := prog_1_method_17_code
def yX0_isDerived : MethodName := ⟨RX0, "isDerived", "(II)Z"⟩
abbrev cX0_keptSets : ByteArray := prog_1_method_18_code
def yX0_keptSets : MethodName := ⟨RX0, "keptSets", "(IIII)I"⟩
abbrev cX0_longestKept : ByteArray := prog_1_method_19_code
def yX0_longestKept : MethodName := ⟨RX0, "longestKept", "(III)I"⟩
abbrev cX0_mostKept : ByteArray := prog_1_method_20_code
def yX0_mostKept : MethodName := ⟨RX0, "mostKept", "(II)I"⟩
abbrev cX0_cuts : ByteArray := prog_1_method_21_code
def yX0_cuts : MethodName := ⟨RX0, "cuts", "(II)I"⟩
abbrev cX0_write : ByteArray := prog_1_method_22_code
def yX0_write : MethodName := ⟨RX0, "write", "(I)I"⟩
abbrev cX0_erase : ByteArray := prog_1_method_23_code
def yX0_erase : MethodName := ⟨RX0, "erase", "()I"⟩
abbrev cX0_formsWithPhrase : ByteArray := prog_1_method_24_code
def yX0_formsWithPhrase : MethodName := ⟨RX0, "formsWithPhrase", "(I)J"⟩
abbrev cX0_placeOfPhrase : ByteArray := prog_1_method_25_code
def yX0_placeOfPhrase : MethodName := ⟨RX0, "placeOfPhrase", "(II)I"⟩
abbrev cX0_complete : ByteArray := prog_1_method_26_code
def yX0_complete : MethodName := ⟨RX0, "complete", "(I)I"⟩
abbrev cX0_requireRow : ByteArray := prog_1_method_27_code
def yX0_requireRow : MethodName := ⟨RX0, "requireRow", "(I)V"⟩
abbrev cX0_requirePlace : ByteArray := prog_1_method_28_code
def yX0_requirePlace : MethodName := ⟨RX0, "requirePlace", "(II)V"⟩
abbrev cX0_requireRange : ByteArray := prog_1_method_29_code
def yX0_requireRange : MethodName := ⟨RX0, "requireRange", "(III)V"⟩
abbrev cX0_requireForm : ByteArray := prog_1_method_30_code
def yX0_requireForm : MethodName := ⟨RX0, "requireForm", "(II)V"⟩
abbrev cX0_requireFactor : ByteArray := prog_1_method_31_code
def yX0_requireFactor : MethodName := ⟨RX0, "requireFactor", "(I)V"⟩
abbrev cX0_requireSize : ByteArray := prog_1_method_32_code
def yX0_requireSize : MethodName := ⟨RX0, "requireSize", "(I)V"⟩
abbrev cX0_rowAt : ByteArray := prog_1_method_33_code
def yX0_rowAt : MethodName := ⟨RX0, "rowAt", "(I)J"⟩
abbrev cX0_setRow : ByteArray := prog_1_method_34_code
def yX0_setRow : MethodName := ⟨RX0, "setRow", "(IJ)V"⟩
abbrev cX0_replaceRow : ByteArray := prog_1_method_35_code
def yX0_replaceRow : MethodName := ⟨RX0, "replaceRow", "(IJ)I"⟩
abbrev cX0_phraseHas : ByteArray := prog_1_method_36_code
def yX0_phraseHas : MethodName := ⟨RX0, "phraseHas", "(I)Z"⟩
abbrev cX0_phraseBegin : ByteArray := prog_1_method_37_code
def yX0_phraseBegin : MethodName := ⟨RX0, "phraseBegin", "(J)I"⟩
abbrev cX0_entryAt : ByteArray := prog_1_method_38_code
def yX0_entryAt : MethodName := ⟨RX0, "entryAt", "(JI)I"⟩
abbrev cX0_withEntry : ByteArray := prog_1_method_39_code
def yX0_withEntry : MethodName := ⟨RX0, "withEntry", "(JII)J"⟩
abbrev cX0_wrap : ByteArray := prog_1_method_40_code
def yX0_wrap : MethodName := ⟨RX0, "wrap", "(I)I"⟩
abbrev cX0_intervalAt : ByteArray := prog_1_method_41_code
def yX0_intervalAt : MethodName := ⟨RX0, "intervalAt", "(JI)I"⟩
abbrev cX0_placeIn : ByteArray := prog_1_method_42_code
def yX0_placeIn : MethodName := ⟨RX0, "placeIn", "(JI)I"⟩
abbrev cX0_codeOf : ByteArray := prog_1_method_43_code
def yX0_codeOf : MethodName := ⟨RX0, "codeOf", "(II)I"⟩
abbrev cX0_formWith : ByteArray := prog_1_method_44_code
def yX0_formWith : MethodName := ⟨RX0, "formWith", "(JI)J"⟩
abbrev cX0_setOf : ByteArray := prog_1_method_45_code
def yX0_setOf : MethodName := ⟨RX0, "setOf", "(JII)I"⟩
abbrev cX0_transposed : ByteArray := prog_1_method_46_code
def yX0_transposed : MethodName := ⟨RX0, "transposed", "(II)I"⟩
abbrev cX0_inverted : ByteArray := prog_1_method_47_code
def yX0_inverted : MethodName := ⟨RX0, "inverted", "(I)I"⟩
abbrev cX0_leastLike : ByteArray := prog_1_method_48_code
def yX0_leastLike : MethodName := ⟨RX0, "leastLike", "(I)I"⟩
abbrev cX0_placesOf : ByteArray := prog_1_method_49_code
def yX0_placesOf : MethodName := ⟨RX0, "placesOf", "(JJ)J"⟩
abbrev cX0_countKept : ByteArray := prog_1_method_50_code
def yX0_countKept : MethodName := ⟨RX0, "countKept", "(JJI)I"⟩
abbrev cX0_areNeighbours : ByteArray := prog_1_method_51_code
def yX0_areNeighbours : MethodName := ⟨RX0, "areNeighbours", "(JII)Z"⟩
def RX1 : String := "ToneRowsModel"
def TX1 : u_T := fun k => match k with
  | 0 => ("ToneRowsModel", "thrown", "I", false)
  | 1 => ("ToneRowsModel", "tones", "[I", true)
  | 2 => ("ToneRowsModel", "kept", "[I", true)
  | 3 => ("ToneRowsModel", "phrase", "[I", true)
  | _ => ("ToneRowsModel", "written", "I", false)
def tyX1 : Nat → FieldType := fun k => match k with
  | 0 => .int
  | 1 => .array .int
  | 2 => .array .int
  | 3 => .array .int
  | _ => .int
abbrev wsX10 : List Cond := u_ws RX1 TX1 5
theorem nmX1 : ∀ a, a < 5 → ∀ b, b < 5 → a ≠ b → (TX1 a).2.1 ≠ (TX1 b).2.1 := by decide +kernel
theorem tyX1_ok : ∀ k, k < 5 → parseFieldDescriptor (TX1 k).2.2.1 = some (tyX1 k) := by decide +kernel
abbrev cX1_init : ByteArray := prog_3_method_1_code
def yX1_init : MethodName := ⟨RX1, "<init>", "()V"⟩
abbrev cX1_thrown : ByteArray := prog_3_method_2_code
def yX1_thrown : MethodName := ⟨RX1, "thrown", "()I"⟩
abbrev cX1_goesWell : ByteArray := prog_3_method_3_code
def yX1_goesWell : MethodName := ⟨RX1, "goesWell", "(I)Z"⟩
abbrev cX1_isRow : ByteArray := prog_3_method_4_code
def yX1_isRow : MethodName := ⟨RX1, "isRow", "(I)Z"⟩
abbrev cX1_in : ByteArray := prog_3_method_5_code
def yX1_in : MethodName := ⟨RX1, "in", "(III)Z"⟩
abbrev cX1_isTone : ByteArray := prog_3_method_6_code
def yX1_isTone : MethodName := ⟨RX1, "isTone", "(I)Z"⟩
abbrev cX1_isForm : ByteArray := prog_3_method_7_code
def yX1_isForm : MethodName := ⟨RX1, "isForm", "(II)Z"⟩
abbrev cX1_modulo : ByteArray := prog_3_method_8_code
def yX1_modulo : MethodName := ⟨RX1, "modulo", "(I)I"⟩
abbrev cX1_at : ByteArray := prog_3_method_9_code
def yX1_at : MethodName := ⟨RX1, "at", "(II)I"⟩
abbrev cX1_formAt : ByteArray := prog_3_method_10_code
def yX1_formAt : MethodName := ⟨RX1, "formAt", "(III)I"⟩
abbrev cX1_codeOf : ByteArray := prog_3_method_11_code
def yX1_codeOf : MethodName := ⟨RX1, "codeOf", "(II)I"⟩
abbrev cX1_put : ByteArray := prog_3_method_12_code
def yX1_put : MethodName := ⟨RX1, "put", "(III)I"⟩
abbrev cX1_lay : ByteArray := prog_3_method_13_code
def yX1_lay : MethodName := ⟨RX1, "lay", "(I)I"⟩
abbrev cX1_take : ByteArray := prog_3_method_14_code
def yX1_take : MethodName := ⟨RX1, "take", "(IIII)I"⟩
abbrev cX1_multiply : ByteArray := prog_3_method_15_code
def yX1_multiply : MethodName := ⟨RX1, "multiply", "(II)I"⟩
abbrev cX1_rotate : ByteArray := prog_3_method_16_code
def yX1_rotate : MethodName := ⟨RX1, "rotate", "(II)I"⟩
abbrev cX1_tone : ByteArray := prog_3_method_17_code
def yX1_tone : MethodName := ⟨RX1, "tone", "(II)I"⟩
abbrev cX1_step : ByteArray := prog_3_method_18_code
def yX1_step : MethodName := ⟨RX1, "step", "(II)I"⟩
abbrev cX1_interval : ByteArray := prog_3_method_19_code
def yX1_interval : MethodName := ⟨RX1, "interval", "(II)I"⟩
abbrev cX1_hasAllIntervals : ByteArray := prog_3_method_20_code
def yX1_hasAllIntervals : MethodName := ⟨RX1, "hasAllIntervals", "(I)Z"⟩
abbrev cX1_toneOf : ByteArray := prog_3_method_21_code
def yX1_toneOf : MethodName := ⟨RX1, "toneOf", "(IIII)I"⟩
abbrev cX1_matrix : ByteArray := prog_3_method_22_code
def yX1_matrix : MethodName := ⟨RX1, "matrix", "(III)I"⟩
abbrev cX1_areSame : ByteArray := prog_3_method_23_code
def yX1_areSame : MethodName := ⟨RX1, "areSame", "(III)Z"⟩
abbrev cX1_differentForms : ByteArray := prog_3_method_24_code
def yX1_differentForms : MethodName := ⟨RX1, "differentForms", "(I)I"⟩
abbrev cX1_formOfOther : ByteArray := prog_3_method_25_code
def yX1_formOfOther : MethodName := ⟨RX1, "formOfOther", "(I)I"⟩
abbrev cX1_setOf : ByteArray := prog_3_method_26_code
def yX1_setOf : MethodName := ⟨RX1, "setOf", "(IIII)I"⟩
abbrev cX1_itself : ByteArray := prog_3_method_27_code
def yX1_itself : MethodName := ⟨RX1, "itself", "(I)I"⟩
abbrev cX1_segment : ByteArray := prog_3_method_28_code
def yX1_segment : MethodName := ⟨RX1, "segment", "(III)I"⟩
abbrev cX1_moved : ByteArray := prog_3_method_29_code
def yX1_moved : MethodName := ⟨RX1, "moved", "(IIZ)I"⟩
abbrev cX1_least : ByteArray := prog_3_method_30_code
def yX1_least : MethodName := ⟨RX1, "least", "(I)I"⟩
abbrev cX1_classOf : ByteArray := prog_3_method_31_code
def yX1_classOf : MethodName := ⟨RX1, "classOf", "(I)I"⟩
abbrev cX1_pairs : ByteArray := prog_3_method_32_code
def yX1_pairs : MethodName := ⟨RX1, "pairs", "(II)I"⟩
abbrev cX1_combining : ByteArray := prog_3_method_33_code
def yX1_combining : MethodName := ⟨RX1, "combining", "(I)J"⟩
abbrev cX1_isDerived : ByteArray := prog_3_method_34_code
def yX1_isDerived : MethodName := ⟨RX1, "isDerived", "(II)Z"⟩
abbrev cX1_setsKept : ByteArray := prog_3_method_35_code
def yX1_setsKept : MethodName := ⟨RX1, "setsKept", "(III)I"⟩
abbrev cX1_keptSets : ByteArray := prog_3_method_36_code
def yX1_keptSets : MethodName := ⟨RX1, "keptSets", "(IIII)I"⟩
abbrev cX1_same : ByteArray := prog_3_method_37_code
def yX1_same : MethodName := ⟨RX1, "same", "(IIII)I"⟩
abbrev cX1_longestKept : ByteArray := prog_3_method_38_code
def yX1_longestKept : MethodName := ⟨RX1, "longestKept", "(III)I"⟩
abbrev cX1_mostKept : ByteArray := prog_3_method_39_code
def yX1_mostKept : MethodName := ⟨RX1, "mostKept", "(II)I"⟩
abbrev cX1_isCode : ByteArray := prog_3_method_40_code
def yX1_isCode : MethodName := ⟨RX1, "isCode", "(I)Z"⟩
abbrev cX1_cuts : ByteArray := prog_3_method_41_code
def yX1_cuts : MethodName := ⟨RX1, "cuts", "(II)I"⟩
abbrev cX1_isWritten : ByteArray := prog_3_method_42_code
def yX1_isWritten : MethodName := ⟨RX1, "isWritten", "(I)Z"⟩
abbrev cX1_write : ByteArray := prog_3_method_43_code
def yX1_write : MethodName := ⟨RX1, "write", "(I)I"⟩
abbrev cX1_erase : ByteArray := prog_3_method_44_code
def yX1_erase : MethodName := ⟨RX1, "erase", "()I"⟩
abbrev cX1_placeIn : ByteArray := prog_3_method_45_code
def yX1_placeIn : MethodName := ⟨RX1, "placeIn", "(II)I"⟩
abbrev cX1_formsWithPhrase : ByteArray := prog_3_method_46_code
def yX1_formsWithPhrase : MethodName := ⟨RX1, "formsWithPhrase", "(I)J"⟩
abbrev cX1_placeOfPhrase : ByteArray := prog_3_method_47_code
def yX1_placeOfPhrase : MethodName := ⟨RX1, "placeOfPhrase", "(II)I"⟩
abbrev cX1_complete : ByteArray := prog_3_method_48_code
def yX1_complete : MethodName := ⟨RX1, "complete", "(I)I"⟩
def RJ6 : String := "java/lang/Integer"
def TJ6 : u_T := fun k => match k with
  | _ => ("", "", "", false)
def tyJ6 : Nat → FieldType := fun k => match k with
  | _ => .int
abbrev wsJ60 : List Cond := u_ws RJ6 TJ6 0
theorem nmJ6 : ∀ a, a < 0 → ∀ b, b < 0 → a ≠ b → (TJ6 a).2.1 ≠ (TJ6 b).2.1 := by decide +kernel
theorem tyJ6_ok : ∀ k, k < 0 → parseFieldDescriptor (TJ6 k).2.2.1 = some (tyJ6 k) := by decide +kernel
abbrev cJ6_bitCount_0f7a4 : ByteArray := prog_8_method_49_code
def yJ6_bitCount_0f7a4 : MethodName := ⟨RJ6, "bitCount", "(I)I"⟩
def RJ9 : String := "java/lang/Math"
def TJ9 : u_T := fun k => match k with
  | _ => ("", "", "", false)
def tyJ9 : Nat → FieldType := fun k => match k with
  | _ => .int
abbrev wsJ90 : List Cond := u_ws RJ9 TJ9 0
theorem nmJ9 : ∀ a, a < 0 → ∀ b, b < 0 → a ≠ b → (TJ9 a).2.1 ≠ (TJ9 b).2.1 := by decide +kernel
theorem tyJ9_ok : ∀ k, k < 0 → parseFieldDescriptor (TJ9 k).2.2.1 = some (tyJ9 k) := by decide +kernel
abbrev cJ9_floorMod_7cf53 : ByteArray := prog_9_method_50_code
def yJ9_floorMod_7cf53 : MethodName := ⟨RJ9, "floorMod", "(II)I"⟩
abbrev cJ9_max_7cf53 : ByteArray := prog_9_method_65_code
def yJ9_max_7cf53 : MethodName := ⟨RJ9, "max", "(II)I"⟩
abbrev cJ9_min_7cf53 : ByteArray := prog_9_method_69_code
def yJ9_min_7cf53 : MethodName := ⟨RJ9, "min", "(II)I"⟩
def RJ0 : String := "java/lang/String"
def TJ0 : u_T := fun k => match k with
  | _ => ("", "", "", false)
def tyJ0 : Nat → FieldType := fun k => match k with
  | _ => .int
abbrev wsJ00 : List Cond := u_ws RJ0 TJ0 0
theorem nmJ0 : ∀ a, a < 0 → ∀ b, b < 0 → a ≠ b → (TJ0 a).2.1 ≠ (TJ0 b).2.1 := by decide +kernel
theorem tyJ0_ok : ∀ k, k < 0 → parseFieldDescriptor (TJ0 k).2.2.1 = some (tyJ0 k) := by decide +kernel
def RL : String := "ToneRowsLaw"
abbrev cL_put : ByteArray := method_3_code
def yL_put : MethodName := ⟨RL, "put", "(LToneRows;III[J)I"⟩
abbrev cL_take : ByteArray := method_4_code
def yL_take : MethodName := ⟨RL, "take", "(LToneRows;IIII[J)I"⟩
abbrev cL_multiply : ByteArray := method_5_code
def yL_multiply : MethodName := ⟨RL, "multiply", "(LToneRows;II[J)I"⟩
abbrev cL_rotate : ByteArray := method_6_code
def yL_rotate : MethodName := ⟨RL, "rotate", "(LToneRows;II[J)I"⟩
abbrev cL_tone : ByteArray := method_7_code
def yL_tone : MethodName := ⟨RL, "tone", "(LToneRows;II[J)I"⟩
abbrev cL_interval : ByteArray := method_8_code
def yL_interval : MethodName := ⟨RL, "interval", "(LToneRows;II[J)I"⟩
abbrev cL_hasAllIntervals : ByteArray := method_9_code
def yL_hasAllIntervals : MethodName := ⟨RL, "hasAllIntervals", "(LToneRows;I[J)I"⟩
abbrev cL_toneOf : ByteArray := method_10_code
def yL_toneOf : MethodName := ⟨RL, "toneOf", "(LToneRows;IIII[J)I"⟩
abbrev cL_matrix : ByteArray := method_11_code
def yL_matrix : MethodName := ⟨RL, "matrix", "(LToneRows;III[J)I"⟩
abbrev cL_differentForms : ByteArray := method_12_code
def yL_differentForms : MethodName := ⟨RL, "differentForms", "(LToneRows;I[J)I"⟩
abbrev cL_formOfOther : ByteArray := method_13_code
def yL_formOfOther : MethodName := ⟨RL, "formOfOther", "(LToneRows;I[J)I"⟩
abbrev cL_segment : ByteArray := method_14_code
def yL_segment : MethodName := ⟨RL, "segment", "(LToneRows;III[J)I"⟩
abbrev cL_classOf : ByteArray := method_15_code
def yL_classOf : MethodName := ⟨RL, "classOf", "(LToneRows;I[J)I"⟩
abbrev cL_pairs : ByteArray := method_16_code
def yL_pairs : MethodName := ⟨RL, "pairs", "(LToneRows;II[J)I"⟩
abbrev cL_combining : ByteArray := method_17_code
def yL_combining : MethodName := ⟨RL, "combining", "(LToneRows;I[J)I"⟩
abbrev cL_isDerived : ByteArray := method_18_code
def yL_isDerived : MethodName := ⟨RL, "isDerived", "(LToneRows;II[J)I"⟩
abbrev cL_keptSets : ByteArray := method_19_code
def yL_keptSets : MethodName := ⟨RL, "keptSets", "(LToneRows;IIII[J)I"⟩
abbrev cL_longestKept : ByteArray := method_20_code
def yL_longestKept : MethodName := ⟨RL, "longestKept", "(LToneRows;III[J)I"⟩
abbrev cL_mostKept : ByteArray := method_21_code
def yL_mostKept : MethodName := ⟨RL, "mostKept", "(LToneRows;II[J)I"⟩
abbrev cL_cuts : ByteArray := method_22_code
def yL_cuts : MethodName := ⟨RL, "cuts", "(LToneRows;II[J)I"⟩
abbrev cL_write : ByteArray := method_23_code
def yL_write : MethodName := ⟨RL, "write", "(LToneRows;I[J)I"⟩
abbrev cL_formsWithPhrase : ByteArray := method_24_code
def yL_formsWithPhrase : MethodName := ⟨RL, "formsWithPhrase", "(LToneRows;I[J)I"⟩
abbrev cL_placeOfPhrase : ByteArray := method_25_code
def yL_placeOfPhrase : MethodName := ⟨RL, "placeOfPhrase", "(LToneRows;II[J)I"⟩
abbrev cL_complete : ByteArray := method_26_code
def yL_complete : MethodName := ⟨RL, "complete", "(LToneRows;I[J)I"⟩
abbrev cL_law : ByteArray := code
def yL_law : MethodName := ⟨RL, "law", "([I)Z"⟩
def wsX0_withEntry : List Cond := .code yX0_withEntry cX0_withEntry 5 (some .long) :: ([.constantLong RX0 143 (15), .constantLong RX0 145 (-1)])
def wsX0_init : List Cond := .code yX0_init cX0_init 4 none :: ([.methodLink RX0 3 objectInit, .instanceMethod objectInit, .code objectInit ⟨#[0xb1]⟩ 1 none, .fieldLink RX0 13 "ToneRows" "row0" "J", .fieldLink RX0 17 "ToneRows" "row1" "J", .methodLink RX0 9 yX0_withEntry, .static yX0_withEntry, .initialized RX0, .code yX0_withEntry cX0_withEntry 5 (some .long), .constantLong RX0 143 (15), .constantLong RX0 145 (-1)] ++ wsX00)
def wsX0_requireRow : List Cond := .code yX0_requireRow cX0_requireRow 1 none :: ([.classLink RX0 127 "java/lang/IndexOutOfBoundsException", .initialized "java/lang/IndexOutOfBoundsException"] ++ (vx_atS RX0 131 "java/lang/IndexOutOfBoundsException" ["java/lang/RuntimeException", "java/lang/Exception"]).filter goodWord)
def wsX0_requirePlace : List Cond := .code yX0_requirePlace cX0_requirePlace 2 none :: ([.classLink RX0 127 "java/lang/IndexOutOfBoundsException", .initialized "java/lang/IndexOutOfBoundsException"] ++ (vx_atS RX0 131 "java/lang/IndexOutOfBoundsException" ["java/lang/RuntimeException", "java/lang/Exception"]).filter goodWord)
def wsX0_requireRange : List Cond := .code yX0_requireRange cX0_requireRange 3 none :: ([.classLink RX0 134 "java/lang/IllegalArgumentException", .initialized "java/lang/IllegalArgumentException"] ++ (vx_atS RX0 138 "java/lang/IllegalArgumentException" ["java/lang/RuntimeException", "java/lang/Exception"]).filter goodWord)
def wsX0_rowAt : List Cond := .code yX0_rowAt cX0_rowAt 2 (some .long) :: ([.fieldLink RX0 13 "ToneRows" "row0" "J", .fieldLink RX0 17 "ToneRows" "row1" "J"] ++ wsX00)
def wsX0_entryAt : List Cond := .code yX0_entryAt cX0_entryAt 3 (some .int) :: ([.constantLong RX0 143 (15)])
def wsX0_placeIn : List Cond := .code yX0_placeIn cX0_placeIn 4 (some .int) :: ([.methodLink RX0 36 yX0_entryAt, .static yX0_entryAt, .initialized RX0, .code yX0_entryAt cX0_entryAt 3 (some .int), .constantLong RX0 143 (15)])
def wsX0_setRow : List Cond := .code yX0_setRow cX0_setRow 4 none :: ([.fieldLink RX0 13 "ToneRows" "row0" "J", .fieldLink RX0 17 "ToneRows" "row1" "J"] ++ wsX00)
def wsX0_put_r1 : List Cond := [Cond.methodLink RX0 20 yX0_requireRow, Cond.static yX0_requireRow, Cond.initialized RX0, Cond.code yX0_requireRow cX0_requireRow 1 none, Cond.classLink RX0 127 "java/lang/IndexOutOfBoundsException", Cond.initialized "java/lang/IndexOutOfBoundsException", Cond.methodLink RX0 24 yX0_requirePlace, Cond.static yX0_requirePlace, Cond.code yX0_requirePlace cX0_requirePlace 2 none, Cond.methodLink RX0 28 yX0_requireRange, Cond.static yX0_requireRange, Cond.code yX0_requireRange cX0_requireRange 3 none, Cond.classLink RX0 134 "java/lang/IllegalArgumentException", Cond.initialized "java/lang/IllegalArgumentException", Cond.methodLink RX0 32 yX0_rowAt, Cond.instanceMethod yX0_rowAt, Cond.selects RX0 yX0_rowAt yX0_rowAt, Cond.code yX0_rowAt cX0_rowAt 2 (some .long), Cond.fieldLink RX0 13 "ToneRows" "row0" "J", Cond.fieldLink RX0 17 "ToneRows" "row1" "J", Cond.methodLink RX0 36 yX0_entryAt, Cond.static yX0_entryAt, Cond.code yX0_entryAt cX0_entryAt 3 (some .int), Cond.constantLong RX0 143 (15)]
def wsX0_put_r2 : List Cond := [Cond.methodLink RX0 40 yX0_placeIn, Cond.static yX0_placeIn, Cond.code yX0_placeIn cX0_placeIn 4 (some .int), Cond.methodLink RX0 9 yX0_withEntry, Cond.static yX0_withEntry, Cond.code yX0_withEntry cX0_withEntry 5 (some .long), Cond.constantLong RX0 145 (-1), Cond.methodLink RX0 43 yX0_setRow, Cond.instanceMethod yX0_setRow, Cond.selects RX0 yX0_setRow yX0_setRow, Cond.code yX0_setRow cX0_setRow 4 none]
def wsX0_put : List Cond := .code yX0_put cX0_put 9 (some .int) :: ((wsX0_put_r1 ++ wsX0_put_r2) ++ wsX00 ++ (vx_atS RX0 131 "java/lang/IndexOutOfBoundsException" ["java/lang/RuntimeException", "java/lang/Exception"]).filter goodWord ++ (vx_atS RX0 138 "java/lang/IllegalArgumentException" ["java/lang/RuntimeException", "java/lang/Exception"]).filter goodWord)
def wsX0_requireForm : List Cond := .code yX0_requireForm cX0_requireForm 2 none :: ([.methodLink RX0 28 yX0_requireRange, .static yX0_requireRange, .initialized RX0, .code yX0_requireRange cX0_requireRange 3 none, .classLink RX0 134 "java/lang/IllegalArgumentException", .initialized "java/lang/IllegalArgumentException"] ++ (vx_atS RX0 138 "java/lang/IllegalArgumentException" ["java/lang/RuntimeException", "java/lang/Exception"]).filter goodWord)
def wsX0_codeOf : List Cond := .code yX0_codeOf cX0_codeOf 2 (some .int) :: ([])
def wsJ9_floorMod_7cf53 : List Cond := .code yJ9_floorMod_7cf53 cJ9_floorMod_7cf53 3 (some .int) :: ([])
def wsX0_wrap : List Cond := .code yX0_wrap cX0_wrap 1 (some .int) :: ([.methodLink RX0 147 yJ9_floorMod_7cf53, .static yJ9_floorMod_7cf53, .initialized RJ9, .code yJ9_floorMod_7cf53 cJ9_floorMod_7cf53 3 (some .int)])
def wsX0_formWith : List Cond := .code yX0_formWith cX0_formWith 13 (some .long) :: ([.methodLink RX0 36 yX0_entryAt, .static yX0_entryAt, .initialized RX0, .code yX0_entryAt cX0_entryAt 3 (some .int), .constantLong RX0 143 (15), .methodLink RX0 65 yX0_wrap, .static yX0_wrap, .code yX0_wrap cX0_wrap 1 (some .int), .methodLink RX0 147 yJ9_floorMod_7cf53, .static yJ9_floorMod_7cf53, .initialized RJ9, .code yJ9_floorMod_7cf53 cJ9_floorMod_7cf53 3 (some .int), .methodLink RX0 9 yX0_withEntry, .static yX0_withEntry, .code yX0_withEntry cX0_withEntry 5 (some .long), .constantLong RX0 145 (-1)])
def wsX0_replaceRow : List Cond := .code yX0_replaceRow cX0_replaceRow 4 (some .int) :: ([.methodLink RX0 43 yX0_setRow, .instanceMethod yX0_setRow, .selects RX0 yX0_setRow yX0_setRow, .initialized RX0, .code yX0_setRow cX0_setRow 4 none, .fieldLink RX0 13 "ToneRows" "row0" "J", .fieldLink RX0 17 "ToneRows" "row1" "J", .methodLink RX0 36 yX0_entryAt, .static yX0_entryAt, .code yX0_entryAt cX0_entryAt 3 (some .int), .constantLong RX0 143 (15)] ++ wsX00)
def wsX0_take_r1 : List Cond := [Cond.methodLink RX0 20 yX0_requireRow, Cond.static yX0_requireRow, Cond.initialized RX0, Cond.code yX0_requireRow cX0_requireRow 1 none, Cond.classLink RX0 127 "java/lang/IndexOutOfBoundsException", Cond.initialized "java/lang/IndexOutOfBoundsException", Cond.methodLink RX0 47 yX0_requireForm, Cond.static yX0_requireForm, Cond.code yX0_requireForm cX0_requireForm 2 none, Cond.methodLink RX0 28 yX0_requireRange, Cond.static yX0_requireRange, Cond.code yX0_requireRange cX0_requireRange 3 none, Cond.classLink RX0 134 "java/lang/IllegalArgumentException", Cond.initialized "java/lang/IllegalArgumentException", Cond.methodLink RX0 32 yX0_rowAt, Cond.instanceMethod yX0_rowAt, Cond.selects RX0 yX0_rowAt yX0_rowAt, Cond.code yX0_rowAt cX0_rowAt 2 (some .long), Cond.fieldLink RX0 13 "ToneRows" "row0" "J", Cond.fieldLink RX0 17 "ToneRows" "row1" "J", Cond.methodLink RX0 50 yX0_codeOf, Cond.static yX0_codeOf, Cond.code yX0_codeOf cX0_codeOf 2 (some .int), Cond.methodLink RX0 54 yX0_formWith]
def wsX0_take_r2 : List Cond := [Cond.static yX0_formWith, Cond.code yX0_formWith cX0_formWith 13 (some .long), Cond.methodLink RX0 36 yX0_entryAt, Cond.static yX0_entryAt, Cond.code yX0_entryAt cX0_entryAt 3 (some .int), Cond.constantLong RX0 143 (15), Cond.methodLink RX0 65 yX0_wrap, Cond.static yX0_wrap, Cond.code yX0_wrap cX0_wrap 1 (some .int), Cond.methodLink RX0 147 yJ9_floorMod_7cf53, Cond.static yJ9_floorMod_7cf53, Cond.initialized RJ9, Cond.code yJ9_floorMod_7cf53 cJ9_floorMod_7cf53 3 (some .int), Cond.methodLink RX0 9 yX0_withEntry, Cond.static yX0_withEntry, Cond.code yX0_withEntry cX0_withEntry 5 (some .long), Cond.constantLong RX0 145 (-1), Cond.methodLink RX0 58 yX0_replaceRow, Cond.instanceMethod yX0_replaceRow, Cond.selects RX0 yX0_replaceRow yX0_replaceRow, Cond.code yX0_replaceRow cX0_replaceRow 4 (some .int), Cond.methodLink RX0 43 yX0_setRow, Cond.instanceMethod yX0_setRow, Cond.selects RX0 yX0_setRow yX0_setRow]
def wsX0_take_r3 : List Cond := [Cond.code yX0_setRow cX0_setRow 4 none]
def wsX0_take : List Cond := .code yX0_take cX0_take 5 (some .int) :: ((wsX0_take_r1 ++ (wsX0_take_r2 ++ wsX0_take_r3)) ++ wsX00 ++ (vx_atS RX0 131 "java/lang/IndexOutOfBoundsException" ["java/lang/RuntimeException", "java/lang/Exception"]).filter goodWord ++ (vx_atS RX0 138 "java/lang/IllegalArgumentException" ["java/lang/RuntimeException", "java/lang/Exception"]).filter goodWord)
def wsX0_requireFactor : List Cond := .code yX0_requireFactor cX0_requireFactor 1 none :: ([.classLink RX0 134 "java/lang/IllegalArgumentException", .initialized "java/lang/IllegalArgumentException"] ++ (vx_atS RX0 138 "java/lang/IllegalArgumentException" ["java/lang/RuntimeException", "java/lang/Exception"]).filter goodWord)
def wsX0_multiply_r1 : List Cond := [Cond.methodLink RX0 20 yX0_requireRow, Cond.static yX0_requireRow, Cond.initialized RX0, Cond.code yX0_requireRow cX0_requireRow 1 none, Cond.classLink RX0 127 "java/lang/IndexOutOfBoundsException", Cond.initialized "java/lang/IndexOutOfBoundsException", Cond.methodLink RX0 62 yX0_requireFactor, Cond.static yX0_requireFactor, Cond.code yX0_requireFactor cX0_requireFactor 1 none, Cond.classLink RX0 134 "java/lang/IllegalArgumentException", Cond.initialized "java/lang/IllegalArgumentException", Cond.methodLink RX0 32 yX0_rowAt, Cond.instanceMethod yX0_rowAt, Cond.selects RX0 yX0_rowAt yX0_rowAt, Cond.code yX0_rowAt cX0_rowAt 2 (some .long), Cond.fieldLink RX0 13 "ToneRows" "row0" "J", Cond.fieldLink RX0 17 "ToneRows" "row1" "J", Cond.methodLink RX0 36 yX0_entryAt, Cond.static yX0_entryAt, Cond.code yX0_entryAt cX0_entryAt 3 (some .int), Cond.constantLong RX0 143 (15), Cond.methodLink RX0 65 yX0_wrap, Cond.static yX0_wrap, Cond.code yX0_wrap cX0_wrap 1 (some .int)]
def wsX0_multiply_r2 : List Cond := [Cond.methodLink RX0 147 yJ9_floorMod_7cf53, Cond.static yJ9_floorMod_7cf53, Cond.initialized RJ9, Cond.code yJ9_floorMod_7cf53 cJ9_floorMod_7cf53 3 (some .int), Cond.methodLink RX0 9 yX0_withEntry, Cond.static yX0_withEntry, Cond.code yX0_withEntry cX0_withEntry 5 (some .long), Cond.constantLong RX0 145 (-1), Cond.methodLink RX0 58 yX0_replaceRow, Cond.instanceMethod yX0_replaceRow, Cond.selects RX0 yX0_replaceRow yX0_replaceRow, Cond.code yX0_replaceRow cX0_replaceRow 4 (some .int), Cond.methodLink RX0 43 yX0_setRow, Cond.instanceMethod yX0_setRow, Cond.selects RX0 yX0_setRow yX0_setRow, Cond.code yX0_setRow cX0_setRow 4 none]
def wsX0_multiply : List Cond := .code yX0_multiply cX0_multiply 8 (some .int) :: ((wsX0_multiply_r1 ++ wsX0_multiply_r2) ++ wsX00 ++ (vx_atS RX0 131 "java/lang/IndexOutOfBoundsException" ["java/lang/RuntimeException", "java/lang/Exception"]).filter goodWord ++ (vx_atS RX0 138 "java/lang/IllegalArgumentException" ["java/lang/RuntimeException", "java/lang/Exception"]).filter goodWord)
def wsX0_rotate_r1 : List Cond := [Cond.methodLink RX0 20 yX0_requireRow, Cond.static yX0_requireRow, Cond.initialized RX0, Cond.code yX0_requireRow cX0_requireRow 1 none, Cond.classLink RX0 127 "java/lang/IndexOutOfBoundsException", Cond.initialized "java/lang/IndexOutOfBoundsException", Cond.methodLink RX0 28 yX0_requireRange, Cond.static yX0_requireRange, Cond.code yX0_requireRange cX0_requireRange 3 none, Cond.classLink RX0 134 "java/lang/IllegalArgumentException", Cond.initialized "java/lang/IllegalArgumentException", Cond.methodLink RX0 32 yX0_rowAt, Cond.instanceMethod yX0_rowAt, Cond.selects RX0 yX0_rowAt yX0_rowAt, Cond.code yX0_rowAt cX0_rowAt 2 (some .long), Cond.fieldLink RX0 13 "ToneRows" "row0" "J", Cond.fieldLink RX0 17 "ToneRows" "row1" "J", Cond.methodLink RX0 65 yX0_wrap, Cond.static yX0_wrap, Cond.code yX0_wrap cX0_wrap 1 (some .int), Cond.methodLink RX0 147 yJ9_floorMod_7cf53, Cond.static yJ9_floorMod_7cf53, Cond.initialized RJ9, Cond.code yJ9_floorMod_7cf53 cJ9_floorMod_7cf53 3 (some .int)]
def wsX0_rotate_r2 : List Cond := [Cond.methodLink RX0 36 yX0_entryAt, Cond.static yX0_entryAt, Cond.code yX0_entryAt cX0_entryAt 3 (some .int), Cond.constantLong RX0 143 (15), Cond.methodLink RX0 9 yX0_withEntry, Cond.static yX0_withEntry, Cond.code yX0_withEntry cX0_withEntry 5 (some .long), Cond.constantLong RX0 145 (-1), Cond.methodLink RX0 58 yX0_replaceRow, Cond.instanceMethod yX0_replaceRow, Cond.selects RX0 yX0_replaceRow yX0_replaceRow, Cond.code yX0_replaceRow cX0_replaceRow 4 (some .int), Cond.methodLink RX0 43 yX0_setRow, Cond.instanceMethod yX0_setRow, Cond.selects RX0 yX0_setRow yX0_setRow, Cond.code yX0_setRow cX0_setRow 4 none]
def wsX0_rotate : List Cond := .code yX0_rotate cX0_rotate 8 (some .int) :: ((wsX0_rotate_r1 ++ wsX0_rotate_r2) ++ wsX00 ++ (vx_atS RX0 131 "java/lang/IndexOutOfBoundsException" ["java/lang/RuntimeException", "java/lang/Exception"]).filter goodWord ++ (vx_atS RX0 138 "java/lang/IllegalArgumentException" ["java/lang/RuntimeException", "java/lang/Exception"]).filter goodWord)
def wsX0_tone : List Cond := .code yX0_tone cX0_tone 3 (some .int) :: ([.methodLink RX0 20 yX0_requireRow, .static yX0_requireRow, .initialized RX0, .code yX0_requireRow cX0_requireRow 1 none, .classLink RX0 127 "java/lang/IndexOutOfBoundsException", .initialized "java/lang/IndexOutOfBoundsException", .methodLink RX0 24 yX0_requirePlace, .static yX0_requirePlace, .code yX0_requirePlace cX0_requirePlace 2 none, .methodLink RX0 32 yX0_rowAt, .instanceMethod yX0_rowAt, .selects RX0 yX0_rowAt yX0_rowAt, .code yX0_rowAt cX0_rowAt 2 (some .long), .fieldLink RX0 13 "ToneRows" "row0" "J", .fieldLink RX0 17 "ToneRows" "row1" "J", .methodLink RX0 36 yX0_entryAt, .static yX0_entryAt, .code yX0_entryAt cX0_entryAt 3 (some .int), .constantLong RX0 143 (15)] ++ wsX00 ++ (vx_atS RX0 131 "java/lang/IndexOutOfBoundsException" ["java/lang/RuntimeException", "java/lang/Exception"]).filter goodWord)
def wsX0_intervalAt : List Cond := .code yX0_intervalAt cX0_intervalAt 3 (some .int) :: ([.methodLink RX0 36 yX0_entryAt, .static yX0_entryAt, .initialized RX0, .code yX0_entryAt cX0_entryAt 3 (some .int), .constantLong RX0 143 (15), .methodLink RX0 65 yX0_wrap, .static yX0_wrap, .code yX0_wrap cX0_wrap 1 (some .int), .methodLink RX0 147 yJ9_floorMod_7cf53, .static yJ9_floorMod_7cf53, .initialized RJ9, .code yJ9_floorMod_7cf53 cJ9_floorMod_7cf53 3 (some .int)])
def wsX0_interval_r1 : List Cond := [Cond.methodLink RX0 20 yX0_requireRow, Cond.static yX0_requireRow, Cond.initialized RX0, Cond.code yX0_requireRow cX0_requireRow 1 none, Cond.classLink RX0 127 "java/lang/IndexOutOfBoundsException", Cond.initialized "java/lang/IndexOutOfBoundsException", Cond.methodLink RX0 24 yX0_requirePlace, Cond.static yX0_requirePlace, Cond.code yX0_requirePlace cX0_requirePlace 2 none, Cond.methodLink RX0 32 yX0_rowAt, Cond.instanceMethod yX0_rowAt, Cond.selects RX0 yX0_rowAt yX0_rowAt, Cond.code yX0_rowAt cX0_rowAt 2 (some .long), Cond.fieldLink RX0 13 "ToneRows" "row0" "J", Cond.fieldLink RX0 17 "ToneRows" "row1" "J", Cond.methodLink RX0 69 yX0_intervalAt, Cond.static yX0_intervalAt, Cond.code yX0_intervalAt cX0_intervalAt 3 (some .int), Cond.methodLink RX0 36 yX0_entryAt, Cond.static yX0_entryAt, Cond.code yX0_entryAt cX0_entryAt 3 (some .int), Cond.constantLong RX0 143 (15), Cond.methodLink RX0 65 yX0_wrap, Cond.static yX0_wrap]
def wsX0_interval_r2 : List Cond := [Cond.code yX0_wrap cX0_wrap 1 (some .int), Cond.methodLink RX0 147 yJ9_floorMod_7cf53, Cond.static yJ9_floorMod_7cf53, Cond.initialized RJ9, Cond.code yJ9_floorMod_7cf53 cJ9_floorMod_7cf53 3 (some .int)]
def wsX0_interval : List Cond := .code yX0_interval cX0_interval 3 (some .int) :: ((wsX0_interval_r1 ++ wsX0_interval_r2) ++ wsX00 ++ (vx_atS RX0 131 "java/lang/IndexOutOfBoundsException" ["java/lang/RuntimeException", "java/lang/Exception"]).filter goodWord)
def wsJ6_bitCount_0f7a4 : List Cond := .code yJ6_bitCount_0f7a4 cJ6_bitCount_0f7a4 1 (some .int) :: ([.constant RJ6 265 (1431655765), .constant RJ6 266 (858993459), .constant RJ6 267 (252645135)])
def wsX0_hasAllIntervals_r1 : List Cond := [Cond.methodLink RX0 20 yX0_requireRow, Cond.static yX0_requireRow, Cond.initialized RX0, Cond.code yX0_requireRow cX0_requireRow 1 none, Cond.classLink RX0 127 "java/lang/IndexOutOfBoundsException", Cond.initialized "java/lang/IndexOutOfBoundsException", Cond.methodLink RX0 32 yX0_rowAt, Cond.instanceMethod yX0_rowAt, Cond.selects RX0 yX0_rowAt yX0_rowAt, Cond.code yX0_rowAt cX0_rowAt 2 (some .long), Cond.fieldLink RX0 13 "ToneRows" "row0" "J", Cond.fieldLink RX0 17 "ToneRows" "row1" "J", Cond.methodLink RX0 69 yX0_intervalAt, Cond.static yX0_intervalAt, Cond.code yX0_intervalAt cX0_intervalAt 3 (some .int), Cond.methodLink RX0 36 yX0_entryAt, Cond.static yX0_entryAt, Cond.code yX0_entryAt cX0_entryAt 3 (some .int), Cond.constantLong RX0 143 (15), Cond.methodLink RX0 65 yX0_wrap, Cond.static yX0_wrap, Cond.code yX0_wrap cX0_wrap 1 (some .int), Cond.methodLink RX0 147 yJ9_floorMod_7cf53, Cond.static yJ9_floorMod_7cf53]
def wsX0_hasAllIntervals_r2 : List Cond := [Cond.initialized RJ9, Cond.code yJ9_floorMod_7cf53 cJ9_floorMod_7cf53 3 (some .int), Cond.methodLink RX0 72 yJ6_bitCount_0f7a4, Cond.static yJ6_bitCount_0f7a4, Cond.initialized RJ6, Cond.code yJ6_bitCount_0f7a4 cJ6_bitCount_0f7a4 1 (some .int), Cond.constant RJ6 265 (1431655765), Cond.constant RJ6 266 (858993459), Cond.constant RJ6 267 (252645135)]
def wsX0_hasAllIntervals : List Cond := .code yX0_hasAllIntervals cX0_hasAllIntervals 6 (some .boolean) :: ((wsX0_hasAllIntervals_r1 ++ wsX0_hasAllIntervals_r2) ++ wsX00 ++ (vx_atS RX0 131 "java/lang/IndexOutOfBoundsException" ["java/lang/RuntimeException", "java/lang/Exception"]).filter goodWord)
def wsX0_toneOf_r1 : List Cond := [Cond.methodLink RX0 20 yX0_requireRow, Cond.static yX0_requireRow, Cond.initialized RX0, Cond.code yX0_requireRow cX0_requireRow 1 none, Cond.classLink RX0 127 "java/lang/IndexOutOfBoundsException", Cond.initialized "java/lang/IndexOutOfBoundsException", Cond.methodLink RX0 24 yX0_requirePlace, Cond.static yX0_requirePlace, Cond.code yX0_requirePlace cX0_requirePlace 2 none, Cond.methodLink RX0 47 yX0_requireForm, Cond.static yX0_requireForm, Cond.code yX0_requireForm cX0_requireForm 2 none, Cond.methodLink RX0 28 yX0_requireRange, Cond.static yX0_requireRange, Cond.code yX0_requireRange cX0_requireRange 3 none, Cond.classLink RX0 134 "java/lang/IllegalArgumentException", Cond.initialized "java/lang/IllegalArgumentException", Cond.methodLink RX0 32 yX0_rowAt, Cond.instanceMethod yX0_rowAt, Cond.selects RX0 yX0_rowAt yX0_rowAt, Cond.code yX0_rowAt cX0_rowAt 2 (some .long), Cond.fieldLink RX0 13 "ToneRows" "row0" "J", Cond.fieldLink RX0 17 "ToneRows" "row1" "J", Cond.methodLink RX0 50 yX0_codeOf]
def wsX0_toneOf_r2 : List Cond := [Cond.static yX0_codeOf, Cond.code yX0_codeOf cX0_codeOf 2 (some .int), Cond.methodLink RX0 54 yX0_formWith, Cond.static yX0_formWith, Cond.code yX0_formWith cX0_formWith 13 (some .long), Cond.methodLink RX0 36 yX0_entryAt, Cond.static yX0_entryAt, Cond.code yX0_entryAt cX0_entryAt 3 (some .int), Cond.constantLong RX0 143 (15), Cond.methodLink RX0 65 yX0_wrap, Cond.static yX0_wrap, Cond.code yX0_wrap cX0_wrap 1 (some .int), Cond.methodLink RX0 147 yJ9_floorMod_7cf53, Cond.static yJ9_floorMod_7cf53, Cond.initialized RJ9, Cond.code yJ9_floorMod_7cf53 cJ9_floorMod_7cf53 3 (some .int), Cond.methodLink RX0 9 yX0_withEntry, Cond.static yX0_withEntry, Cond.code yX0_withEntry cX0_withEntry 5 (some .long), Cond.constantLong RX0 145 (-1)]
def wsX0_toneOf : List Cond := .code yX0_toneOf cX0_toneOf 5 (some .int) :: ((wsX0_toneOf_r1 ++ wsX0_toneOf_r2) ++ wsX00 ++ (vx_atS RX0 131 "java/lang/IndexOutOfBoundsException" ["java/lang/RuntimeException", "java/lang/Exception"]).filter goodWord ++ (vx_atS RX0 138 "java/lang/IllegalArgumentException" ["java/lang/RuntimeException", "java/lang/Exception"]).filter goodWord)
def wsX0_matrix_r1 : List Cond := [Cond.methodLink RX0 20 yX0_requireRow, Cond.static yX0_requireRow, Cond.initialized RX0, Cond.code yX0_requireRow cX0_requireRow 1 none, Cond.classLink RX0 127 "java/lang/IndexOutOfBoundsException", Cond.initialized "java/lang/IndexOutOfBoundsException", Cond.methodLink RX0 24 yX0_requirePlace, Cond.static yX0_requirePlace, Cond.code yX0_requirePlace cX0_requirePlace 2 none, Cond.methodLink RX0 32 yX0_rowAt, Cond.instanceMethod yX0_rowAt, Cond.selects RX0 yX0_rowAt yX0_rowAt, Cond.code yX0_rowAt cX0_rowAt 2 (some .long), Cond.fieldLink RX0 13 "ToneRows" "row0" "J", Cond.fieldLink RX0 17 "ToneRows" "row1" "J", Cond.methodLink RX0 36 yX0_entryAt, Cond.static yX0_entryAt, Cond.code yX0_entryAt cX0_entryAt 3 (some .int), Cond.constantLong RX0 143 (15), Cond.methodLink RX0 65 yX0_wrap, Cond.static yX0_wrap, Cond.code yX0_wrap cX0_wrap 1 (some .int), Cond.methodLink RX0 147 yJ9_floorMod_7cf53, Cond.static yJ9_floorMod_7cf53]
def wsX0_matrix_r2 : List Cond := [Cond.initialized RJ9, Cond.code yJ9_floorMod_7cf53 cJ9_floorMod_7cf53 3 (some .int)]
def wsX0_matrix : List Cond := .code yX0_matrix cX0_matrix 8 (some .int) :: ((wsX0_matrix_r1 ++ wsX0_matrix_r2) ++ wsX00 ++ (vx_atS RX0 131 "java/lang/IndexOutOfBoundsException" ["java/lang/RuntimeException", "java/lang/Exception"]).filter goodWord)
def wsX0_differentForms_r1 : List Cond := [Cond.methodLink RX0 20 yX0_requireRow, Cond.static yX0_requireRow, Cond.initialized RX0, Cond.code yX0_requireRow cX0_requireRow 1 none, Cond.classLink RX0 127 "java/lang/IndexOutOfBoundsException", Cond.initialized "java/lang/IndexOutOfBoundsException", Cond.methodLink RX0 32 yX0_rowAt, Cond.instanceMethod yX0_rowAt, Cond.selects RX0 yX0_rowAt yX0_rowAt, Cond.code yX0_rowAt cX0_rowAt 2 (some .long), Cond.fieldLink RX0 13 "ToneRows" "row0" "J", Cond.fieldLink RX0 17 "ToneRows" "row1" "J", Cond.methodLink RX0 50 yX0_codeOf, Cond.static yX0_codeOf, Cond.code yX0_codeOf cX0_codeOf 2 (some .int), Cond.methodLink RX0 54 yX0_formWith, Cond.static yX0_formWith, Cond.code yX0_formWith cX0_formWith 13 (some .long), Cond.methodLink RX0 36 yX0_entryAt, Cond.static yX0_entryAt, Cond.code yX0_entryAt cX0_entryAt 3 (some .int), Cond.constantLong RX0 143 (15), Cond.methodLink RX0 65 yX0_wrap, Cond.static yX0_wrap]
def wsX0_differentForms_r2 : List Cond := [Cond.code yX0_wrap cX0_wrap 1 (some .int), Cond.methodLink RX0 147 yJ9_floorMod_7cf53, Cond.static yJ9_floorMod_7cf53, Cond.initialized RJ9, Cond.code yJ9_floorMod_7cf53 cJ9_floorMod_7cf53 3 (some .int), Cond.methodLink RX0 9 yX0_withEntry, Cond.static yX0_withEntry, Cond.code yX0_withEntry cX0_withEntry 5 (some .long), Cond.constantLong RX0 145 (-1)]
def wsX0_differentForms : List Cond := .code yX0_differentForms cX0_differentForms 7 (some .int) :: ((wsX0_differentForms_r1 ++ wsX0_differentForms_r2) ++ wsX00 ++ (vx_atS RX0 131 "java/lang/IndexOutOfBoundsException" ["java/lang/RuntimeException", "java/lang/Exception"]).filter goodWord)
def wsX0_formOfOther_r1 : List Cond := [Cond.methodLink RX0 20 yX0_requireRow, Cond.static yX0_requireRow, Cond.initialized RX0, Cond.code yX0_requireRow cX0_requireRow 1 none, Cond.classLink RX0 127 "java/lang/IndexOutOfBoundsException", Cond.initialized "java/lang/IndexOutOfBoundsException", Cond.methodLink RX0 32 yX0_rowAt, Cond.instanceMethod yX0_rowAt, Cond.selects RX0 yX0_rowAt yX0_rowAt, Cond.code yX0_rowAt cX0_rowAt 2 (some .long), Cond.fieldLink RX0 13 "ToneRows" "row0" "J", Cond.fieldLink RX0 17 "ToneRows" "row1" "J", Cond.methodLink RX0 54 yX0_formWith, Cond.static yX0_formWith, Cond.code yX0_formWith cX0_formWith 13 (some .long), Cond.methodLink RX0 36 yX0_entryAt, Cond.static yX0_entryAt, Cond.code yX0_entryAt cX0_entryAt 3 (some .int), Cond.constantLong RX0 143 (15), Cond.methodLink RX0 65 yX0_wrap, Cond.static yX0_wrap, Cond.code yX0_wrap cX0_wrap 1 (some .int), Cond.methodLink RX0 147 yJ9_floorMod_7cf53, Cond.static yJ9_floorMod_7cf53]
def wsX0_formOfOther_r2 : List Cond := [Cond.initialized RJ9, Cond.code yJ9_floorMod_7cf53 cJ9_floorMod_7cf53 3 (some .int), Cond.methodLink RX0 9 yX0_withEntry, Cond.static yX0_withEntry, Cond.code yX0_withEntry cX0_withEntry 5 (some .long), Cond.constantLong RX0 145 (-1)]
def wsX0_formOfOther : List Cond := .code yX0_formOfOther cX0_formOfOther 7 (some .int) :: ((wsX0_formOfOther_r1 ++ wsX0_formOfOther_r2) ++ wsX00 ++ (vx_atS RX0 131 "java/lang/IndexOutOfBoundsException" ["java/lang/RuntimeException", "java/lang/Exception"]).filter goodWord)
def wsX0_setOf : List Cond := .code yX0_setOf cX0_setOf 6 (some .int) :: ([.methodLink RX0 36 yX0_entryAt, .static yX0_entryAt, .initialized RX0, .code yX0_entryAt cX0_entryAt 3 (some .int), .constantLong RX0 143 (15)])
def wsX0_segment_r1 : List Cond := [Cond.methodLink RX0 20 yX0_requireRow, Cond.static yX0_requireRow, Cond.initialized RX0, Cond.code yX0_requireRow cX0_requireRow 1 none, Cond.classLink RX0 127 "java/lang/IndexOutOfBoundsException", Cond.initialized "java/lang/IndexOutOfBoundsException", Cond.methodLink RX0 24 yX0_requirePlace, Cond.static yX0_requirePlace, Cond.code yX0_requirePlace cX0_requirePlace 2 none, Cond.methodLink RX0 28 yX0_requireRange, Cond.static yX0_requireRange, Cond.code yX0_requireRange cX0_requireRange 3 none, Cond.classLink RX0 134 "java/lang/IllegalArgumentException", Cond.initialized "java/lang/IllegalArgumentException", Cond.methodLink RX0 32 yX0_rowAt, Cond.instanceMethod yX0_rowAt, Cond.selects RX0 yX0_rowAt yX0_rowAt, Cond.code yX0_rowAt cX0_rowAt 2 (some .long), Cond.fieldLink RX0 13 "ToneRows" "row0" "J", Cond.fieldLink RX0 17 "ToneRows" "row1" "J", Cond.methodLink RX0 77 yX0_setOf, Cond.static yX0_setOf, Cond.code yX0_setOf cX0_setOf 6 (some .int), Cond.methodLink RX0 36 yX0_entryAt]
def wsX0_segment_r2 : List Cond := [Cond.static yX0_entryAt, Cond.code yX0_entryAt cX0_entryAt 3 (some .int), Cond.constantLong RX0 143 (15)]
def wsX0_segment : List Cond := .code yX0_segment cX0_segment 4 (some .int) :: ((wsX0_segment_r1 ++ wsX0_segment_r2) ++ wsX00 ++ (vx_atS RX0 131 "java/lang/IndexOutOfBoundsException" ["java/lang/RuntimeException", "java/lang/Exception"]).filter goodWord ++ (vx_atS RX0 138 "java/lang/IllegalArgumentException" ["java/lang/RuntimeException", "java/lang/Exception"]).filter goodWord)
def wsX0_inverted : List Cond := .code yX0_inverted cX0_inverted 3 (some .int) :: ([.methodLink RX0 65 yX0_wrap, .static yX0_wrap, .initialized RX0, .code yX0_wrap cX0_wrap 1 (some .int), .methodLink RX0 147 yJ9_floorMod_7cf53, .static yJ9_floorMod_7cf53, .initialized RJ9, .code yJ9_floorMod_7cf53 cJ9_floorMod_7cf53 3 (some .int)])
def wsX0_transposed : List Cond := .code yX0_transposed cX0_transposed 2 (some .int) :: ([])
def wsX0_leastLike : List Cond := .code yX0_leastLike cX0_leastLike 4 (some .int) :: ([.methodLink RX0 153 Lib.Math.min.name, .static Lib.Math.min.name, .initialized "java/lang/Math", .code Lib.Math.min.name Lib.Math.min.code 2 (some .int), .methodLink RX0 150 yX0_inverted, .static yX0_inverted, .initialized RX0, .code yX0_inverted cX0_inverted 3 (some .int), .methodLink RX0 65 yX0_wrap, .static yX0_wrap, .code yX0_wrap cX0_wrap 1 (some .int), .methodLink RX0 147 yJ9_floorMod_7cf53, .static yJ9_floorMod_7cf53, .initialized RJ9, .code yJ9_floorMod_7cf53 cJ9_floorMod_7cf53 3 (some .int), .methodLink RX0 84 yX0_transposed, .static yX0_transposed, .code yX0_transposed cX0_transposed 2 (some .int)])
def wsX0_classOf_r1 : List Cond := [Cond.methodLink RX0 28 yX0_requireRange, Cond.static yX0_requireRange, Cond.initialized RX0, Cond.code yX0_requireRange cX0_requireRange 3 none, Cond.classLink RX0 134 "java/lang/IllegalArgumentException", Cond.initialized "java/lang/IllegalArgumentException", Cond.methodLink RX0 81 yX0_leastLike, Cond.static yX0_leastLike, Cond.code yX0_leastLike cX0_leastLike 4 (some .int), Cond.methodLink RX0 153 Lib.Math.min.name, Cond.static Lib.Math.min.name, Cond.initialized "java/lang/Math", Cond.code Lib.Math.min.name Lib.Math.min.code 2 (some .int), Cond.methodLink RX0 150 yX0_inverted, Cond.static yX0_inverted, Cond.code yX0_inverted cX0_inverted 3 (some .int), Cond.methodLink RX0 65 yX0_wrap, Cond.static yX0_wrap, Cond.code yX0_wrap cX0_wrap 1 (some .int), Cond.methodLink RX0 147 yJ9_floorMod_7cf53, Cond.static yJ9_floorMod_7cf53, Cond.initialized RJ9, Cond.code yJ9_floorMod_7cf53 cJ9_floorMod_7cf53 3 (some .int), Cond.methodLink RX0 84 yX0_transposed]
def wsX0_classOf_r2 : List Cond := [Cond.static yX0_transposed, Cond.code yX0_transposed cX0_transposed 2 (some .int)]
def wsX0_classOf : List Cond := .code yX0_classOf cX0_classOf 2 (some .int) :: ((wsX0_classOf_r1 ++ wsX0_classOf_r2) ++ (vx_atS RX0 138 "java/lang/IllegalArgumentException" ["java/lang/RuntimeException", "java/lang/Exception"]).filter goodWord)
def wsX0_pairs : List Cond := .code yX0_pairs cX0_pairs 4 (some .int) :: ([.methodLink RX0 28 yX0_requireRange, .static yX0_requireRange, .initialized RX0, .code yX0_requireRange cX0_requireRange 3 none, .classLink RX0 134 "java/lang/IllegalArgumentException", .initialized "java/lang/IllegalArgumentException", .methodLink RX0 84 yX0_transposed, .static yX0_transposed, .code yX0_transposed cX0_transposed 2 (some .int), .methodLink RX0 72 yJ6_bitCount_0f7a4, .static yJ6_bitCount_0f7a4, .initialized RJ6, .code yJ6_bitCount_0f7a4 cJ6_bitCount_0f7a4 1 (some .int), .constant RJ6 265 (1431655765), .constant RJ6 266 (858993459), .constant RJ6 267 (252645135)] ++ (vx_atS RX0 138 "java/lang/IllegalArgumentException" ["java/lang/RuntimeException", "java/lang/Exception"]).filter goodWord)
def wsX0_combining_r1 : List Cond := [Cond.methodLink RX0 20 yX0_requireRow, Cond.static yX0_requireRow, Cond.initialized RX0, Cond.code yX0_requireRow cX0_requireRow 1 none, Cond.classLink RX0 127 "java/lang/IndexOutOfBoundsException", Cond.initialized "java/lang/IndexOutOfBoundsException", Cond.methodLink RX0 32 yX0_rowAt, Cond.instanceMethod yX0_rowAt, Cond.selects RX0 yX0_rowAt yX0_rowAt, Cond.code yX0_rowAt cX0_rowAt 2 (some .long), Cond.fieldLink RX0 13 "ToneRows" "row0" "J", Cond.fieldLink RX0 17 "ToneRows" "row1" "J", Cond.methodLink RX0 77 yX0_setOf, Cond.static yX0_setOf, Cond.code yX0_setOf cX0_setOf 6 (some .int), Cond.methodLink RX0 36 yX0_entryAt, Cond.static yX0_entryAt, Cond.code yX0_entryAt cX0_entryAt 3 (some .int), Cond.constantLong RX0 143 (15), Cond.methodLink RX0 54 yX0_formWith, Cond.static yX0_formWith, Cond.code yX0_formWith cX0_formWith 13 (some .long), Cond.methodLink RX0 65 yX0_wrap, Cond.static yX0_wrap]
def wsX0_combining_r2 : List Cond := [Cond.code yX0_wrap cX0_wrap 1 (some .int), Cond.methodLink RX0 147 yJ9_floorMod_7cf53, Cond.static yJ9_floorMod_7cf53, Cond.initialized RJ9, Cond.code yJ9_floorMod_7cf53 cJ9_floorMod_7cf53 3 (some .int), Cond.methodLink RX0 9 yX0_withEntry, Cond.static yX0_withEntry, Cond.code yX0_withEntry cX0_withEntry 5 (some .long), Cond.constantLong RX0 145 (-1)]
def wsX0_combining : List Cond := .code yX0_combining cX0_combining 8 (some .long) :: ((wsX0_combining_r1 ++ wsX0_combining_r2) ++ wsX00 ++ (vx_atS RX0 131 "java/lang/IndexOutOfBoundsException" ["java/lang/RuntimeException", "java/lang/Exception"]).filter goodWord)
def wsX0_requireSize : List Cond := .code yX0_requireSize cX0_requireSize 1 none :: ([.classLink RX0 134 "java/lang/IllegalArgumentException", .initialized "java/lang/IllegalArgumentException"] ++ (vx_atS RX0 138 "java/lang/IllegalArgumentException" ["java/lang/RuntimeException", "java/lang/Exception"]).filter goodWord)
def wsX0_isDerived_r1 : List Cond := [Cond.methodLink RX0 20 yX0_requireRow, Cond.static yX0_requireRow, Cond.initialized RX0, Cond.code yX0_requireRow cX0_requireRow 1 none, Cond.classLink RX0 127 "java/lang/IndexOutOfBoundsException", Cond.initialized "java/lang/IndexOutOfBoundsException", Cond.methodLink RX0 87 yX0_requireSize, Cond.static yX0_requireSize, Cond.code yX0_requireSize cX0_requireSize 1 none, Cond.classLink RX0 134 "java/lang/IllegalArgumentException", Cond.initialized "java/lang/IllegalArgumentException", Cond.methodLink RX0 32 yX0_rowAt, Cond.instanceMethod yX0_rowAt, Cond.selects RX0 yX0_rowAt yX0_rowAt, Cond.code yX0_rowAt cX0_rowAt 2 (some .long), Cond.fieldLink RX0 13 "ToneRows" "row0" "J", Cond.fieldLink RX0 17 "ToneRows" "row1" "J", Cond.methodLink RX0 77 yX0_setOf, Cond.static yX0_setOf, Cond.code yX0_setOf cX0_setOf 6 (some .int), Cond.methodLink RX0 36 yX0_entryAt, Cond.static yX0_entryAt, Cond.code yX0_entryAt cX0_entryAt 3 (some .int), Cond.constantLong RX0 143 (15)]
def wsX0_isDerived_r2 : List Cond := [Cond.methodLink RX0 81 yX0_leastLike, Cond.static yX0_leastLike, Cond.code yX0_leastLike cX0_leastLike 4 (some .int), Cond.methodLink RX0 153 Lib.Math.min.name, Cond.static Lib.Math.min.name, Cond.initialized "java/lang/Math", Cond.code Lib.Math.min.name Lib.Math.min.code 2 (some .int), Cond.methodLink RX0 150 yX0_inverted, Cond.static yX0_inverted, Cond.code yX0_inverted cX0_inverted 3 (some .int), Cond.methodLink RX0 65 yX0_wrap, Cond.static yX0_wrap, Cond.code yX0_wrap cX0_wrap 1 (some .int), Cond.methodLink RX0 147 yJ9_floorMod_7cf53, Cond.static yJ9_floorMod_7cf53, Cond.initialized RJ9, Cond.code yJ9_floorMod_7cf53 cJ9_floorMod_7cf53 3 (some .int), Cond.methodLink RX0 84 yX0_transposed, Cond.static yX0_transposed, Cond.code yX0_transposed cX0_transposed 2 (some .int)]
def wsX0_isDerived : List Cond := .code yX0_isDerived cX0_isDerived 8 (some .boolean) :: ((wsX0_isDerived_r1 ++ wsX0_isDerived_r2) ++ wsX00 ++ (vx_atS RX0 131 "java/lang/IndexOutOfBoundsException" ["java/lang/RuntimeException", "java/lang/Exception"]).filter goodWord ++ (vx_atS RX0 138 "java/lang/IllegalArgumentException" ["java/lang/RuntimeException", "java/lang/Exception"]).filter goodWord)
def wsX0_placesOf : List Cond := .code yX0_placesOf cX0_placesOf 7 (some .long) :: ([.methodLink RX0 36 yX0_entryAt, .static yX0_entryAt, .initialized RX0, .code yX0_entryAt cX0_entryAt 3 (some .int), .constantLong RX0 143 (15), .methodLink RX0 40 yX0_placeIn, .static yX0_placeIn, .code yX0_placeIn cX0_placeIn 4 (some .int), .methodLink RX0 9 yX0_withEntry, .static yX0_withEntry, .code yX0_withEntry cX0_withEntry 5 (some .long), .constantLong RX0 145 (-1)])
def wsX0_areNeighbours : List Cond := .code yX0_areNeighbours cX0_areNeighbours 7 (some .boolean) :: ([.methodLink RX0 153 Lib.Math.min.name, .static Lib.Math.min.name, .initialized "java/lang/Math", .code Lib.Math.min.name Lib.Math.min.code 2 (some .int), .methodLink RX0 98 Lib.Math.max.name, .static Lib.Math.max.name, .code Lib.Math.max.name Lib.Math.max.code 2 (some .int), .methodLink RX0 36 yX0_entryAt, .static yX0_entryAt, .initialized RX0, .code yX0_entryAt cX0_entryAt 3 (some .int), .constantLong RX0 143 (15)])
def wsX0_countKept_r1 : List Cond := [Cond.methodLink RX0 94 yX0_placesOf, Cond.static yX0_placesOf, Cond.initialized RX0, Cond.code yX0_placesOf cX0_placesOf 7 (some .long), Cond.methodLink RX0 36 yX0_entryAt, Cond.static yX0_entryAt, Cond.code yX0_entryAt cX0_entryAt 3 (some .int), Cond.constantLong RX0 143 (15), Cond.methodLink RX0 40 yX0_placeIn, Cond.static yX0_placeIn, Cond.code yX0_placeIn cX0_placeIn 4 (some .int), Cond.methodLink RX0 9 yX0_withEntry, Cond.static yX0_withEntry, Cond.code yX0_withEntry cX0_withEntry 5 (some .long), Cond.constantLong RX0 145 (-1), Cond.methodLink RX0 156 yX0_areNeighbours, Cond.static yX0_areNeighbours, Cond.code yX0_areNeighbours cX0_areNeighbours 7 (some .boolean), Cond.methodLink RX0 153 Lib.Math.min.name, Cond.static Lib.Math.min.name, Cond.initialized "java/lang/Math", Cond.code Lib.Math.min.name Lib.Math.min.code 2 (some .int), Cond.methodLink RX0 98 Lib.Math.max.name, Cond.static Lib.Math.max.name]
def wsX0_countKept_r2 : List Cond := [Cond.code Lib.Math.max.name Lib.Math.max.code 2 (some .int)]
def wsX0_countKept : List Cond := .code yX0_countKept cX0_countKept 9 (some .int) :: ((wsX0_countKept_r1 ++ wsX0_countKept_r2))
def wsX0_keptSets_r1 : List Cond := [Cond.methodLink RX0 20 yX0_requireRow, Cond.static yX0_requireRow, Cond.initialized RX0, Cond.code yX0_requireRow cX0_requireRow 1 none, Cond.classLink RX0 127 "java/lang/IndexOutOfBoundsException", Cond.initialized "java/lang/IndexOutOfBoundsException", Cond.methodLink RX0 47 yX0_requireForm, Cond.static yX0_requireForm, Cond.code yX0_requireForm cX0_requireForm 2 none, Cond.methodLink RX0 28 yX0_requireRange, Cond.static yX0_requireRange, Cond.code yX0_requireRange cX0_requireRange 3 none, Cond.classLink RX0 134 "java/lang/IllegalArgumentException", Cond.initialized "java/lang/IllegalArgumentException", Cond.methodLink RX0 32 yX0_rowAt, Cond.instanceMethod yX0_rowAt, Cond.selects RX0 yX0_rowAt yX0_rowAt, Cond.code yX0_rowAt cX0_rowAt 2 (some .long), Cond.fieldLink RX0 13 "ToneRows" "row0" "J", Cond.fieldLink RX0 17 "ToneRows" "row1" "J", Cond.methodLink RX0 50 yX0_codeOf, Cond.static yX0_codeOf, Cond.code yX0_codeOf cX0_codeOf 2 (some .int), Cond.methodLink RX0 54 yX0_formWith]
def wsX0_keptSets_r2 : List Cond := [Cond.static yX0_formWith, Cond.code yX0_formWith cX0_formWith 13 (some .long), Cond.methodLink RX0 36 yX0_entryAt, Cond.static yX0_entryAt, Cond.code yX0_entryAt cX0_entryAt 3 (some .int), Cond.constantLong RX0 143 (15), Cond.methodLink RX0 65 yX0_wrap, Cond.static yX0_wrap, Cond.code yX0_wrap cX0_wrap 1 (some .int), Cond.methodLink RX0 147 yJ9_floorMod_7cf53, Cond.static yJ9_floorMod_7cf53, Cond.initialized RJ9, Cond.code yJ9_floorMod_7cf53 cJ9_floorMod_7cf53 3 (some .int), Cond.methodLink RX0 9 yX0_withEntry, Cond.static yX0_withEntry, Cond.code yX0_withEntry cX0_withEntry 5 (some .long), Cond.constantLong RX0 145 (-1), Cond.methodLink RX0 90 yX0_countKept, Cond.static yX0_countKept, Cond.code yX0_countKept cX0_countKept 9 (some .int), Cond.methodLink RX0 94 yX0_placesOf, Cond.static yX0_placesOf, Cond.code yX0_placesOf cX0_placesOf 7 (some .long), Cond.methodLink RX0 40 yX0_placeIn]
def wsX0_keptSets_r3 : List Cond := [Cond.static yX0_placeIn, Cond.code yX0_placeIn cX0_placeIn 4 (some .int), Cond.methodLink RX0 156 yX0_areNeighbours, Cond.static yX0_areNeighbours, Cond.code yX0_areNeighbours cX0_areNeighbours 7 (some .boolean), Cond.methodLink RX0 153 Lib.Math.min.name, Cond.static Lib.Math.min.name, Cond.initialized "java/lang/Math", Cond.code Lib.Math.min.name Lib.Math.min.code 2 (some .int), Cond.methodLink RX0 98 Lib.Math.max.name, Cond.static Lib.Math.max.name, Cond.code Lib.Math.max.name Lib.Math.max.code 2 (some .int)]
def wsX0_keptSets : List Cond := .code yX0_keptSets cX0_keptSets 7 (some .int) :: ((wsX0_keptSets_r1 ++ (wsX0_keptSets_r2 ++ wsX0_keptSets_r3)) ++ wsX00 ++ (vx_atS RX0 131 "java/lang/IndexOutOfBoundsException" ["java/lang/RuntimeException", "java/lang/Exception"]).filter goodWord ++ (vx_atS RX0 138 "java/lang/IllegalArgumentException" ["java/lang/RuntimeException", "java/lang/Exception"]).filter goodWord)
def wsX0_longestKept_r1 : List Cond := [Cond.methodLink RX0 98 Lib.Math.max.name, Cond.static Lib.Math.max.name, Cond.initialized "java/lang/Math", Cond.code Lib.Math.max.name Lib.Math.max.code 2 (some .int), Cond.methodLink RX0 20 yX0_requireRow, Cond.static yX0_requireRow, Cond.initialized RX0, Cond.code yX0_requireRow cX0_requireRow 1 none, Cond.classLink RX0 127 "java/lang/IndexOutOfBoundsException", Cond.initialized "java/lang/IndexOutOfBoundsException", Cond.methodLink RX0 47 yX0_requireForm, Cond.static yX0_requireForm, Cond.code yX0_requireForm cX0_requireForm 2 none, Cond.methodLink RX0 28 yX0_requireRange, Cond.static yX0_requireRange, Cond.code yX0_requireRange cX0_requireRange 3 none, Cond.classLink RX0 134 "java/lang/IllegalArgumentException", Cond.initialized "java/lang/IllegalArgumentException", Cond.methodLink RX0 32 yX0_rowAt, Cond.instanceMethod yX0_rowAt, Cond.selects RX0 yX0_rowAt yX0_rowAt, Cond.code yX0_rowAt cX0_rowAt 2 (some .long), Cond.fieldLink RX0 13 "ToneRows" "row0" "J", Cond.fieldLink RX0 17 "ToneRows" "row1" "J"]
def wsX0_longestKept_r2 : List Cond := [Cond.methodLink RX0 50 yX0_codeOf, Cond.static yX0_codeOf, Cond.code yX0_codeOf cX0_codeOf 2 (some .int), Cond.methodLink RX0 54 yX0_formWith, Cond.static yX0_formWith, Cond.code yX0_formWith cX0_formWith 13 (some .long), Cond.methodLink RX0 36 yX0_entryAt, Cond.static yX0_entryAt, Cond.code yX0_entryAt cX0_entryAt 3 (some .int), Cond.constantLong RX0 143 (15), Cond.methodLink RX0 65 yX0_wrap, Cond.static yX0_wrap, Cond.code yX0_wrap cX0_wrap 1 (some .int), Cond.methodLink RX0 147 yJ9_floorMod_7cf53, Cond.static yJ9_floorMod_7cf53, Cond.initialized RJ9, Cond.code yJ9_floorMod_7cf53 cJ9_floorMod_7cf53 3 (some .int), Cond.methodLink RX0 9 yX0_withEntry, Cond.static yX0_withEntry, Cond.code yX0_withEntry cX0_withEntry 5 (some .long), Cond.constantLong RX0 145 (-1), Cond.methodLink RX0 94 yX0_placesOf, Cond.static yX0_placesOf, Cond.code yX0_placesOf cX0_placesOf 7 (some .long)]
def wsX0_longestKept_r3 : List Cond := [Cond.methodLink RX0 40 yX0_placeIn, Cond.static yX0_placeIn, Cond.code yX0_placeIn cX0_placeIn 4 (some .int)]
def wsX0_longestKept : List Cond := .code yX0_longestKept cX0_longestKept 12 (some .int) :: ((wsX0_longestKept_r1 ++ (wsX0_longestKept_r2 ++ wsX0_longestKept_r3)) ++ wsX00 ++ (vx_atS RX0 131 "java/lang/IndexOutOfBoundsException" ["java/lang/RuntimeException", "java/lang/Exception"]).filter goodWord ++ (vx_atS RX0 138 "java/lang/IllegalArgumentException" ["java/lang/RuntimeException", "java/lang/Exception"]).filter goodWord)
def wsX0_mostKept_r1 : List Cond := [Cond.methodLink RX0 20 yX0_requireRow, Cond.static yX0_requireRow, Cond.initialized RX0, Cond.code yX0_requireRow cX0_requireRow 1 none, Cond.classLink RX0 127 "java/lang/IndexOutOfBoundsException", Cond.initialized "java/lang/IndexOutOfBoundsException", Cond.methodLink RX0 28 yX0_requireRange, Cond.static yX0_requireRange, Cond.code yX0_requireRange cX0_requireRange 3 none, Cond.classLink RX0 134 "java/lang/IllegalArgumentException", Cond.initialized "java/lang/IllegalArgumentException", Cond.methodLink RX0 32 yX0_rowAt, Cond.instanceMethod yX0_rowAt, Cond.selects RX0 yX0_rowAt yX0_rowAt, Cond.code yX0_rowAt cX0_rowAt 2 (some .long), Cond.fieldLink RX0 13 "ToneRows" "row0" "J", Cond.fieldLink RX0 17 "ToneRows" "row1" "J", Cond.methodLink RX0 36 yX0_entryAt, Cond.static yX0_entryAt, Cond.code yX0_entryAt cX0_entryAt 3 (some .int), Cond.constantLong RX0 143 (15), Cond.methodLink RX0 50 yX0_codeOf, Cond.static yX0_codeOf, Cond.code yX0_codeOf cX0_codeOf 2 (some .int)]
def wsX0_mostKept_r2 : List Cond := [Cond.methodLink RX0 54 yX0_formWith, Cond.static yX0_formWith, Cond.code yX0_formWith cX0_formWith 13 (some .long), Cond.methodLink RX0 65 yX0_wrap, Cond.static yX0_wrap, Cond.code yX0_wrap cX0_wrap 1 (some .int), Cond.methodLink RX0 147 yJ9_floorMod_7cf53, Cond.static yJ9_floorMod_7cf53, Cond.initialized RJ9, Cond.code yJ9_floorMod_7cf53 cJ9_floorMod_7cf53 3 (some .int), Cond.methodLink RX0 9 yX0_withEntry, Cond.static yX0_withEntry, Cond.code yX0_withEntry cX0_withEntry 5 (some .long), Cond.constantLong RX0 145 (-1), Cond.methodLink RX0 90 yX0_countKept, Cond.static yX0_countKept, Cond.code yX0_countKept cX0_countKept 9 (some .int), Cond.methodLink RX0 94 yX0_placesOf, Cond.static yX0_placesOf, Cond.code yX0_placesOf cX0_placesOf 7 (some .long), Cond.methodLink RX0 40 yX0_placeIn, Cond.static yX0_placeIn, Cond.code yX0_placeIn cX0_placeIn 4 (some .int), Cond.methodLink RX0 156 yX0_areNeighbours]
def wsX0_mostKept_r3 : List Cond := [Cond.static yX0_areNeighbours, Cond.code yX0_areNeighbours cX0_areNeighbours 7 (some .boolean), Cond.methodLink RX0 153 Lib.Math.min.name, Cond.static Lib.Math.min.name, Cond.initialized "java/lang/Math", Cond.code Lib.Math.min.name Lib.Math.min.code 2 (some .int), Cond.methodLink RX0 98 Lib.Math.max.name, Cond.static Lib.Math.max.name, Cond.code Lib.Math.max.name Lib.Math.max.code 2 (some .int)]
def wsX0_mostKept : List Cond := .code yX0_mostKept cX0_mostKept 10 (some .int) :: ((wsX0_mostKept_r1 ++ (wsX0_mostKept_r2 ++ wsX0_mostKept_r3)) ++ wsX00 ++ (vx_atS RX0 131 "java/lang/IndexOutOfBoundsException" ["java/lang/RuntimeException", "java/lang/Exception"]).filter goodWord ++ (vx_atS RX0 138 "java/lang/IllegalArgumentException" ["java/lang/RuntimeException", "java/lang/Exception"]).filter goodWord)
def wsX0_cuts_r1 : List Cond := [Cond.fieldLink RX0 13 "ToneRows" "row0" "J", Cond.fieldLink RX0 17 "ToneRows" "row1" "J", Cond.methodLink RX0 28 yX0_requireRange, Cond.static yX0_requireRange, Cond.initialized RX0, Cond.code yX0_requireRange cX0_requireRange 3 none, Cond.classLink RX0 134 "java/lang/IllegalArgumentException", Cond.initialized "java/lang/IllegalArgumentException", Cond.methodLink RX0 54 yX0_formWith, Cond.static yX0_formWith, Cond.code yX0_formWith cX0_formWith 13 (some .long), Cond.methodLink RX0 36 yX0_entryAt, Cond.static yX0_entryAt, Cond.code yX0_entryAt cX0_entryAt 3 (some .int), Cond.constantLong RX0 143 (15), Cond.methodLink RX0 65 yX0_wrap, Cond.static yX0_wrap, Cond.code yX0_wrap cX0_wrap 1 (some .int), Cond.methodLink RX0 147 yJ9_floorMod_7cf53, Cond.static yJ9_floorMod_7cf53, Cond.initialized RJ9, Cond.code yJ9_floorMod_7cf53 cJ9_floorMod_7cf53 3 (some .int), Cond.methodLink RX0 9 yX0_withEntry, Cond.static yX0_withEntry]
def wsX0_cuts_r2 : List Cond := [Cond.code yX0_withEntry cX0_withEntry 5 (some .long), Cond.constantLong RX0 145 (-1), Cond.methodLink RX0 77 yX0_setOf, Cond.static yX0_setOf, Cond.code yX0_setOf cX0_setOf 6 (some .int)]
def wsX0_cuts : List Cond := .code yX0_cuts cX0_cuts 9 (some .int) :: ((wsX0_cuts_r1 ++ wsX0_cuts_r2) ++ wsX00 ++ (vx_atS RX0 138 "java/lang/IllegalArgumentException" ["java/lang/RuntimeException", "java/lang/Exception"]).filter goodWord)
def wsX0_phraseHas : List Cond := .code yX0_phraseHas cX0_phraseHas 2 (some .boolean) :: ([.fieldLink RX0 114 "ToneRows" "phrase" "J", .fieldLink RX0 117 "ToneRows" "phraseLength" "I", .methodLink RX0 77 yX0_setOf, .static yX0_setOf, .initialized RX0, .code yX0_setOf cX0_setOf 6 (some .int), .methodLink RX0 36 yX0_entryAt, .static yX0_entryAt, .code yX0_entryAt cX0_entryAt 3 (some .int), .constantLong RX0 143 (15)] ++ wsX00)
def wsX0_write_r1 : List Cond := [Cond.classLink RX0 107 "java/lang/IllegalStateException", Cond.initialized "java/lang/IllegalStateException", Cond.fieldLink RX0 114 "ToneRows" "phrase" "J", Cond.fieldLink RX0 117 "ToneRows" "phraseLength" "I", Cond.methodLink RX0 28 yX0_requireRange, Cond.static yX0_requireRange, Cond.initialized RX0, Cond.code yX0_requireRange cX0_requireRange 3 none, Cond.classLink RX0 134 "java/lang/IllegalArgumentException", Cond.initialized "java/lang/IllegalArgumentException", Cond.methodLink RX0 103 yX0_phraseHas, Cond.instanceMethod yX0_phraseHas, Cond.selects RX0 yX0_phraseHas yX0_phraseHas, Cond.code yX0_phraseHas cX0_phraseHas 2 (some .boolean), Cond.methodLink RX0 77 yX0_setOf, Cond.static yX0_setOf, Cond.code yX0_setOf cX0_setOf 6 (some .int), Cond.methodLink RX0 36 yX0_entryAt, Cond.static yX0_entryAt, Cond.code yX0_entryAt cX0_entryAt 3 (some .int), Cond.constantLong RX0 143 (15), Cond.methodLink RX0 9 yX0_withEntry, Cond.static yX0_withEntry, Cond.code yX0_withEntry cX0_withEntry 5 (some .long)]
def wsX0_write_r2 : List Cond := [Cond.constantLong RX0 145 (-1)]
def wsX0_write : List Cond := .code yX0_write cX0_write 2 (some .int) :: ((wsX0_write_r1 ++ wsX0_write_r2) ++ wsX00 ++ (vx_atS RX0 111 "java/lang/IllegalStateException" ["java/lang/RuntimeException", "java/lang/Exception"]).filter goodWord ++ (vx_atS RX0 138 "java/lang/IllegalArgumentException" ["java/lang/RuntimeException", "java/lang/Exception"]).filter goodWord)
def wsX0_erase : List Cond := .code yX0_erase cX0_erase 2 (some .int) :: ([.fieldLink RX0 117 "ToneRows" "phraseLength" "I", .fieldLink RX0 114 "ToneRows" "phrase" "J"] ++ wsX00)
def wsX0_phraseBegin : List Cond := .code yX0_phraseBegin cX0_phraseBegin 5 (some .int) :: ([.fieldLink RX0 114 "ToneRows" "phrase" "J", .fieldLink RX0 117 "ToneRows" "phraseLength" "I", .methodLink RX0 36 yX0_entryAt, .static yX0_entryAt, .initialized RX0, .code yX0_entryAt cX0_entryAt 3 (some .int), .constantLong RX0 143 (15), .methodLink RX0 40 yX0_placeIn, .static yX0_placeIn, .code yX0_placeIn cX0_placeIn 4 (some .int)] ++ wsX00)
def wsX0_formsWithPhrase_r1 : List Cond := [Cond.fieldLink RX0 117 "ToneRows" "phraseLength" "I", Cond.constantLong RX0 121 (281474976710655), Cond.methodLink RX0 20 yX0_requireRow, Cond.static yX0_requireRow, Cond.initialized RX0, Cond.code yX0_requireRow cX0_requireRow 1 none, Cond.classLink RX0 127 "java/lang/IndexOutOfBoundsException", Cond.initialized "java/lang/IndexOutOfBoundsException", Cond.methodLink RX0 32 yX0_rowAt, Cond.instanceMethod yX0_rowAt, Cond.selects RX0 yX0_rowAt yX0_rowAt, Cond.code yX0_rowAt cX0_rowAt 2 (some .long), Cond.fieldLink RX0 13 "ToneRows" "row0" "J", Cond.fieldLink RX0 17 "ToneRows" "row1" "J", Cond.methodLink RX0 54 yX0_formWith, Cond.static yX0_formWith, Cond.code yX0_formWith cX0_formWith 13 (some .long), Cond.methodLink RX0 36 yX0_entryAt, Cond.static yX0_entryAt, Cond.code yX0_entryAt cX0_entryAt 3 (some .int), Cond.constantLong RX0 143 (15), Cond.methodLink RX0 65 yX0_wrap, Cond.static yX0_wrap, Cond.code yX0_wrap cX0_wrap 1 (some .int)]
def wsX0_formsWithPhrase_r2 : List Cond := [Cond.methodLink RX0 147 yJ9_floorMod_7cf53, Cond.static yJ9_floorMod_7cf53, Cond.initialized RJ9, Cond.code yJ9_floorMod_7cf53 cJ9_floorMod_7cf53 3 (some .int), Cond.methodLink RX0 9 yX0_withEntry, Cond.static yX0_withEntry, Cond.code yX0_withEntry cX0_withEntry 5 (some .long), Cond.constantLong RX0 145 (-1), Cond.methodLink RX0 123 yX0_phraseBegin, Cond.instanceMethod yX0_phraseBegin, Cond.selects RX0 yX0_phraseBegin yX0_phraseBegin, Cond.code yX0_phraseBegin cX0_phraseBegin 5 (some .int), Cond.fieldLink RX0 114 "ToneRows" "phrase" "J", Cond.methodLink RX0 40 yX0_placeIn, Cond.static yX0_placeIn, Cond.code yX0_placeIn cX0_placeIn 4 (some .int)]
def wsX0_formsWithPhrase : List Cond := .code yX0_formsWithPhrase cX0_formsWithPhrase 7 (some .long) :: ((wsX0_formsWithPhrase_r1 ++ wsX0_formsWithPhrase_r2) ++ wsX00 ++ (vx_atS RX0 131 "java/lang/IndexOutOfBoundsException" ["java/lang/RuntimeException", "java/lang/Exception"]).filter goodWord)
def wsX0_placeOfPhrase_r1 : List Cond := [Cond.fieldLink RX0 117 "ToneRows" "phraseLength" "I", Cond.methodLink RX0 20 yX0_requireRow, Cond.static yX0_requireRow, Cond.initialized RX0, Cond.code yX0_requireRow cX0_requireRow 1 none, Cond.classLink RX0 127 "java/lang/IndexOutOfBoundsException", Cond.initialized "java/lang/IndexOutOfBoundsException", Cond.methodLink RX0 28 yX0_requireRange, Cond.static yX0_requireRange, Cond.code yX0_requireRange cX0_requireRange 3 none, Cond.classLink RX0 134 "java/lang/IllegalArgumentException", Cond.initialized "java/lang/IllegalArgumentException", Cond.methodLink RX0 32 yX0_rowAt, Cond.instanceMethod yX0_rowAt, Cond.selects RX0 yX0_rowAt yX0_rowAt, Cond.code yX0_rowAt cX0_rowAt 2 (some .long), Cond.fieldLink RX0 13 "ToneRows" "row0" "J", Cond.fieldLink RX0 17 "ToneRows" "row1" "J", Cond.methodLink RX0 54 yX0_formWith, Cond.static yX0_formWith, Cond.code yX0_formWith cX0_formWith 13 (some .long), Cond.methodLink RX0 36 yX0_entryAt, Cond.static yX0_entryAt, Cond.code yX0_entryAt cX0_entryAt 3 (some .int)]
def wsX0_placeOfPhrase_r2 : List Cond := [Cond.constantLong RX0 143 (15), Cond.methodLink RX0 65 yX0_wrap, Cond.static yX0_wrap, Cond.code yX0_wrap cX0_wrap 1 (some .int), Cond.methodLink RX0 147 yJ9_floorMod_7cf53, Cond.static yJ9_floorMod_7cf53, Cond.initialized RJ9, Cond.code yJ9_floorMod_7cf53 cJ9_floorMod_7cf53 3 (some .int), Cond.methodLink RX0 9 yX0_withEntry, Cond.static yX0_withEntry, Cond.code yX0_withEntry cX0_withEntry 5 (some .long), Cond.constantLong RX0 145 (-1), Cond.methodLink RX0 123 yX0_phraseBegin, Cond.instanceMethod yX0_phraseBegin, Cond.selects RX0 yX0_phraseBegin yX0_phraseBegin, Cond.code yX0_phraseBegin cX0_phraseBegin 5 (some .int), Cond.fieldLink RX0 114 "ToneRows" "phrase" "J", Cond.methodLink RX0 40 yX0_placeIn, Cond.static yX0_placeIn, Cond.code yX0_placeIn cX0_placeIn 4 (some .int)]
def wsX0_placeOfPhrase : List Cond := .code yX0_placeOfPhrase cX0_placeOfPhrase 3 (some .int) :: ((wsX0_placeOfPhrase_r1 ++ wsX0_placeOfPhrase_r2) ++ wsX00 ++ (vx_atS RX0 131 "java/lang/IndexOutOfBoundsException" ["java/lang/RuntimeException", "java/lang/Exception"]).filter goodWord ++ (vx_atS RX0 138 "java/lang/IllegalArgumentException" ["java/lang/RuntimeException", "java/lang/Exception"]).filter goodWord)
def wsX0_complete_r1 : List Cond := [Cond.fieldLink RX0 114 "ToneRows" "phrase" "J", Cond.fieldLink RX0 117 "ToneRows" "phraseLength" "I", Cond.methodLink RX0 20 yX0_requireRow, Cond.static yX0_requireRow, Cond.initialized RX0, Cond.code yX0_requireRow cX0_requireRow 1 none, Cond.classLink RX0 127 "java/lang/IndexOutOfBoundsException", Cond.initialized "java/lang/IndexOutOfBoundsException", Cond.methodLink RX0 32 yX0_rowAt, Cond.instanceMethod yX0_rowAt, Cond.selects RX0 yX0_rowAt yX0_rowAt, Cond.code yX0_rowAt cX0_rowAt 2 (some .long), Cond.fieldLink RX0 13 "ToneRows" "row0" "J", Cond.fieldLink RX0 17 "ToneRows" "row1" "J", Cond.methodLink RX0 36 yX0_entryAt, Cond.static yX0_entryAt, Cond.code yX0_entryAt cX0_entryAt 3 (some .int), Cond.constantLong RX0 143 (15), Cond.methodLink RX0 103 yX0_phraseHas, Cond.instanceMethod yX0_phraseHas, Cond.selects RX0 yX0_phraseHas yX0_phraseHas, Cond.code yX0_phraseHas cX0_phraseHas 2 (some .boolean), Cond.methodLink RX0 77 yX0_setOf, Cond.static yX0_setOf]
def wsX0_complete_r2 : List Cond := [Cond.code yX0_setOf cX0_setOf 6 (some .int), Cond.methodLink RX0 9 yX0_withEntry, Cond.static yX0_withEntry, Cond.code yX0_withEntry cX0_withEntry 5 (some .long), Cond.constantLong RX0 145 (-1), Cond.methodLink RX0 58 yX0_replaceRow, Cond.instanceMethod yX0_replaceRow, Cond.selects RX0 yX0_replaceRow yX0_replaceRow, Cond.code yX0_replaceRow cX0_replaceRow 4 (some .int), Cond.methodLink RX0 43 yX0_setRow, Cond.instanceMethod yX0_setRow, Cond.selects RX0 yX0_setRow yX0_setRow, Cond.code yX0_setRow cX0_setRow 4 none]
def wsX0_complete : List Cond := .code yX0_complete cX0_complete 9 (some .int) :: ((wsX0_complete_r1 ++ wsX0_complete_r2) ++ wsX00 ++ (vx_atS RX0 131 "java/lang/IndexOutOfBoundsException" ["java/lang/RuntimeException", "java/lang/Exception"]).filter goodWord)
def wsX1_init : List Cond := .code yX1_init cX1_init 2 none :: ([.methodLink RX1 1 objectInit, .instanceMethod objectInit, .code objectInit ⟨#[0xb1]⟩ 1 none, .arrayClass .int, .fieldLink RX1 7 "ToneRowsModel" "tones" "[I", .fieldLink RX1 13 "ToneRowsModel" "kept" "[I", .fieldLink RX1 16 "ToneRowsModel" "phrase" "[I"] ++ wsX10)
def wsX1_thrown : List Cond := .code yX1_thrown cX1_thrown 1 (some .int) :: ([.fieldLink RX1 19 "ToneRowsModel" "thrown" "I"] ++ wsX10)
def wsX1_goesWell : List Cond := .code yX1_goesWell cX1_goesWell 2 (some .boolean) :: ([.fieldLink RX1 19 "ToneRowsModel" "thrown" "I"] ++ wsX10)
def wsX1_isRow : List Cond := .code yX1_isRow cX1_isRow 1 (some .boolean) :: ([])
def wsX1_in : List Cond := .code yX1_in cX1_in 3 (some .boolean) :: ([])
def wsX1_isTone : List Cond := .code yX1_isTone cX1_isTone 1 (some .boolean) :: ([.methodLink RX1 23 yX1_in, .static yX1_in, .initialized RX1, .code yX1_in cX1_in 3 (some .boolean)])
def wsX1_isForm : List Cond := .code yX1_isForm cX1_isForm 2 (some .boolean) :: ([.methodLink RX1 23 yX1_in, .static yX1_in, .initialized RX1, .code yX1_in cX1_in 3 (some .boolean), .methodLink RX1 27 yX1_isTone, .static yX1_isTone, .code yX1_isTone cX1_isTone 1 (some .boolean)])
def wsX1_modulo : List Cond := .code yX1_modulo cX1_modulo 1 (some .int) :: ([])
def wsX1_at : List Cond := .code yX1_at cX1_at 3 (some .int) :: ([.fieldLink RX1 7 "ToneRowsModel" "tones" "[I"] ++ wsX10)
def wsX1_formAt : List Cond := .code yX1_formAt cX1_formAt 7 (some .int) :: ([.methodLink RX1 31 yX1_at, .instanceMethod yX1_at, .selects RX1 yX1_at yX1_at, .initialized RX1, .code yX1_at cX1_at 3 (some .int), .fieldLink RX1 7 "ToneRowsModel" "tones" "[I", .methodLink RX1 35 yX1_modulo, .static yX1_modulo, .code yX1_modulo cX1_modulo 1 (some .int)] ++ wsX10)
def wsX1_codeOf : List Cond := .code yX1_codeOf cX1_codeOf 2 (some .int) :: ([])
def wsX1_put : List Cond := .code yX1_put cX1_put 6 (some .int) :: ([.fieldLink RX1 7 "ToneRowsModel" "tones" "[I", .methodLink RX1 39 yX1_isRow, .static yX1_isRow, .initialized RX1, .code yX1_isRow cX1_isRow 1 (some .boolean), .methodLink RX1 27 yX1_isTone, .static yX1_isTone, .code yX1_isTone cX1_isTone 1 (some .boolean), .methodLink RX1 23 yX1_in, .static yX1_in, .code yX1_in cX1_in 3 (some .boolean), .methodLink RX1 42 yX1_goesWell, .instanceMethod yX1_goesWell, .selects RX1 yX1_goesWell yX1_goesWell, .code yX1_goesWell cX1_goesWell 2 (some .boolean), .fieldLink RX1 19 "ToneRowsModel" "thrown" "I", .methodLink RX1 31 yX1_at, .instanceMethod yX1_at, .selects RX1 yX1_at yX1_at, .code yX1_at cX1_at 3 (some .int)] ++ wsX10)
def wsX1_lay : List Cond := .code yX1_lay cX1_lay 3 (some .int) :: ([.fieldLink RX1 7 "ToneRowsModel" "tones" "[I", .fieldLink RX1 13 "ToneRowsModel" "kept" "[I", .methodLink RX1 31 yX1_at, .instanceMethod yX1_at, .selects RX1 yX1_at yX1_at, .initialized RX1, .code yX1_at cX1_at 3 (some .int)] ++ wsX10)
def wsX1_take_r1 : List Cond := [Cond.fieldLink RX1 13 "ToneRowsModel" "kept" "[I", Cond.methodLink RX1 39 yX1_isRow, Cond.static yX1_isRow, Cond.initialized RX1, Cond.code yX1_isRow cX1_isRow 1 (some .boolean), Cond.methodLink RX1 45 yX1_isForm, Cond.static yX1_isForm, Cond.code yX1_isForm cX1_isForm 2 (some .boolean), Cond.methodLink RX1 23 yX1_in, Cond.static yX1_in, Cond.code yX1_in cX1_in 3 (some .boolean), Cond.methodLink RX1 27 yX1_isTone, Cond.static yX1_isTone, Cond.code yX1_isTone cX1_isTone 1 (some .boolean), Cond.methodLink RX1 42 yX1_goesWell, Cond.instanceMethod yX1_goesWell, Cond.selects RX1 yX1_goesWell yX1_goesWell, Cond.code yX1_goesWell cX1_goesWell 2 (some .boolean), Cond.fieldLink RX1 19 "ToneRowsModel" "thrown" "I", Cond.methodLink RX1 49 yX1_codeOf, Cond.static yX1_codeOf, Cond.code yX1_codeOf cX1_codeOf 2 (some .int), Cond.methodLink RX1 52 yX1_formAt, Cond.instanceMethod yX1_formAt]
def wsX1_take_r2 : List Cond := [Cond.selects RX1 yX1_formAt yX1_formAt, Cond.code yX1_formAt cX1_formAt 7 (some .int), Cond.methodLink RX1 31 yX1_at, Cond.instanceMethod yX1_at, Cond.selects RX1 yX1_at yX1_at, Cond.code yX1_at cX1_at 3 (some .int), Cond.fieldLink RX1 7 "ToneRowsModel" "tones" "[I", Cond.methodLink RX1 35 yX1_modulo, Cond.static yX1_modulo, Cond.code yX1_modulo cX1_modulo 1 (some .int), Cond.methodLink RX1 56 yX1_lay, Cond.instanceMethod yX1_lay, Cond.selects RX1 yX1_lay yX1_lay, Cond.code yX1_lay cX1_lay 3 (some .int)]
def wsX1_take : List Cond := .code yX1_take cX1_take 6 (some .int) :: ((wsX1_take_r1 ++ wsX1_take_r2) ++ wsX10)
def wsX1_multiply : List Cond := .code yX1_multiply cX1_multiply 5 (some .int) :: ([.fieldLink RX1 13 "ToneRowsModel" "kept" "[I", .methodLink RX1 39 yX1_isRow, .static yX1_isRow, .initialized RX1, .code yX1_isRow cX1_isRow 1 (some .boolean), .methodLink RX1 42 yX1_goesWell, .instanceMethod yX1_goesWell, .selects RX1 yX1_goesWell yX1_goesWell, .code yX1_goesWell cX1_goesWell 2 (some .boolean), .fieldLink RX1 19 "ToneRowsModel" "thrown" "I", .methodLink RX1 31 yX1_at, .instanceMethod yX1_at, .selects RX1 yX1_at yX1_at, .code yX1_at cX1_at 3 (some .int), .fieldLink RX1 7 "ToneRowsModel" "tones" "[I", .methodLink RX1 56 yX1_lay, .instanceMethod yX1_lay, .selects RX1 yX1_lay yX1_lay, .code yX1_lay cX1_lay 3 (some .int)] ++ wsX10)
def wsX1_rotate_r1 : List Cond := [Cond.fieldLink RX1 13 "ToneRowsModel" "kept" "[I", Cond.methodLink RX1 39 yX1_isRow, Cond.static yX1_isRow, Cond.initialized RX1, Cond.code yX1_isRow cX1_isRow 1 (some .boolean), Cond.methodLink RX1 27 yX1_isTone, Cond.static yX1_isTone, Cond.code yX1_isTone cX1_isTone 1 (some .boolean), Cond.methodLink RX1 23 yX1_in, Cond.static yX1_in, Cond.code yX1_in cX1_in 3 (some .boolean), Cond.methodLink RX1 42 yX1_goesWell, Cond.instanceMethod yX1_goesWell, Cond.selects RX1 yX1_goesWell yX1_goesWell, Cond.code yX1_goesWell cX1_goesWell 2 (some .boolean), Cond.fieldLink RX1 19 "ToneRowsModel" "thrown" "I", Cond.methodLink RX1 31 yX1_at, Cond.instanceMethod yX1_at, Cond.selects RX1 yX1_at yX1_at, Cond.code yX1_at cX1_at 3 (some .int), Cond.fieldLink RX1 7 "ToneRowsModel" "tones" "[I", Cond.methodLink RX1 56 yX1_lay, Cond.instanceMethod yX1_lay, Cond.selects RX1 yX1_lay yX1_lay]
def wsX1_rotate_r2 : List Cond := [Cond.code yX1_lay cX1_lay 3 (some .int)]
def wsX1_rotate : List Cond := .code yX1_rotate cX1_rotate 4 (some .int) :: ((wsX1_rotate_r1 ++ wsX1_rotate_r2) ++ wsX10)
def wsX1_tone : List Cond := .code yX1_tone cX1_tone 3 (some .int) :: ([.methodLink RX1 39 yX1_isRow, .static yX1_isRow, .initialized RX1, .code yX1_isRow cX1_isRow 1 (some .boolean), .methodLink RX1 27 yX1_isTone, .static yX1_isTone, .code yX1_isTone cX1_isTone 1 (some .boolean), .methodLink RX1 23 yX1_in, .static yX1_in, .code yX1_in cX1_in 3 (some .boolean), .methodLink RX1 42 yX1_goesWell, .instanceMethod yX1_goesWell, .selects RX1 yX1_goesWell yX1_goesWell, .code yX1_goesWell cX1_goesWell 2 (some .boolean), .fieldLink RX1 19 "ToneRowsModel" "thrown" "I", .methodLink RX1 31 yX1_at, .instanceMethod yX1_at, .selects RX1 yX1_at yX1_at, .code yX1_at cX1_at 3 (some .int), .fieldLink RX1 7 "ToneRowsModel" "tones" "[I"] ++ wsX10)
def wsX1_step : List Cond := .code yX1_step cX1_step 3 (some .int) :: ([.methodLink RX1 31 yX1_at, .instanceMethod yX1_at, .selects RX1 yX1_at yX1_at, .initialized RX1, .code yX1_at cX1_at 3 (some .int), .fieldLink RX1 7 "ToneRowsModel" "tones" "[I", .methodLink RX1 35 yX1_modulo, .static yX1_modulo, .code yX1_modulo cX1_modulo 1 (some .int)] ++ wsX10)
def wsX1_interval : List Cond := .code yX1_interval cX1_interval 3 (some .int) :: ([.methodLink RX1 39 yX1_isRow, .static yX1_isRow, .initialized RX1, .code yX1_isRow cX1_isRow 1 (some .boolean), .methodLink RX1 23 yX1_in, .static yX1_in, .code yX1_in cX1_in 3 (some .boolean), .methodLink RX1 42 yX1_goesWell, .instanceMethod yX1_goesWell, .selects RX1 yX1_goesWell yX1_goesWell, .code yX1_goesWell cX1_goesWell 2 (some .boolean), .fieldLink RX1 19 "ToneRowsModel" "thrown" "I", .methodLink RX1 59 yX1_step, .instanceMethod yX1_step, .selects RX1 yX1_step yX1_step, .code yX1_step cX1_step 3 (some .int), .methodLink RX1 31 yX1_at, .instanceMethod yX1_at, .selects RX1 yX1_at yX1_at, .code yX1_at cX1_at 3 (some .int), .fieldLink RX1 7 "ToneRowsModel" "tones" "[I", .methodLink RX1 35 yX1_modulo, .static yX1_modulo, .code yX1_modulo cX1_modulo 1 (some .int)] ++ wsX10)
def wsX1_hasAllIntervals : List Cond := .code yX1_hasAllIntervals cX1_hasAllIntervals 4 (some .boolean) :: ([.methodLink RX1 39 yX1_isRow, .static yX1_isRow, .initialized RX1, .code yX1_isRow cX1_isRow 1 (some .boolean), .methodLink RX1 42 yX1_goesWell, .instanceMethod yX1_goesWell, .selects RX1 yX1_goesWell yX1_goesWell, .code yX1_goesWell cX1_goesWell 2 (some .boolean), .fieldLink RX1 19 "ToneRowsModel" "thrown" "I", .methodLink RX1 59 yX1_step, .instanceMethod yX1_step, .selects RX1 yX1_step yX1_step, .code yX1_step cX1_step 3 (some .int), .methodLink RX1 31 yX1_at, .instanceMethod yX1_at, .selects RX1 yX1_at yX1_at, .code yX1_at cX1_at 3 (some .int), .fieldLink RX1 7 "ToneRowsModel" "tones" "[I", .methodLink RX1 35 yX1_modulo, .static yX1_modulo, .code yX1_modulo cX1_modulo 1 (some .int)] ++ wsX10)
def wsX1_toneOf_r1 : List Cond := [Cond.methodLink RX1 39 yX1_isRow, Cond.static yX1_isRow, Cond.initialized RX1, Cond.code yX1_isRow cX1_isRow 1 (some .boolean), Cond.methodLink RX1 27 yX1_isTone, Cond.static yX1_isTone, Cond.code yX1_isTone cX1_isTone 1 (some .boolean), Cond.methodLink RX1 23 yX1_in, Cond.static yX1_in, Cond.code yX1_in cX1_in 3 (some .boolean), Cond.methodLink RX1 45 yX1_isForm, Cond.static yX1_isForm, Cond.code yX1_isForm cX1_isForm 2 (some .boolean), Cond.methodLink RX1 42 yX1_goesWell, Cond.instanceMethod yX1_goesWell, Cond.selects RX1 yX1_goesWell yX1_goesWell, Cond.code yX1_goesWell cX1_goesWell 2 (some .boolean), Cond.fieldLink RX1 19 "ToneRowsModel" "thrown" "I", Cond.methodLink RX1 49 yX1_codeOf, Cond.static yX1_codeOf, Cond.code yX1_codeOf cX1_codeOf 2 (some .int), Cond.methodLink RX1 52 yX1_formAt, Cond.instanceMethod yX1_formAt, Cond.selects RX1 yX1_formAt yX1_formAt]
def wsX1_toneOf_r2 : List Cond := [Cond.code yX1_formAt cX1_formAt 7 (some .int), Cond.methodLink RX1 31 yX1_at, Cond.instanceMethod yX1_at, Cond.selects RX1 yX1_at yX1_at, Cond.code yX1_at cX1_at 3 (some .int), Cond.fieldLink RX1 7 "ToneRowsModel" "tones" "[I", Cond.methodLink RX1 35 yX1_modulo, Cond.static yX1_modulo, Cond.code yX1_modulo cX1_modulo 1 (some .int)]
def wsX1_toneOf : List Cond := .code yX1_toneOf cX1_toneOf 5 (some .int) :: ((wsX1_toneOf_r1 ++ wsX1_toneOf_r2) ++ wsX10)
def wsX1_matrix_r1 : List Cond := [Cond.methodLink RX1 39 yX1_isRow, Cond.static yX1_isRow, Cond.initialized RX1, Cond.code yX1_isRow cX1_isRow 1 (some .boolean), Cond.methodLink RX1 27 yX1_isTone, Cond.static yX1_isTone, Cond.code yX1_isTone cX1_isTone 1 (some .boolean), Cond.methodLink RX1 23 yX1_in, Cond.static yX1_in, Cond.code yX1_in cX1_in 3 (some .boolean), Cond.methodLink RX1 42 yX1_goesWell, Cond.instanceMethod yX1_goesWell, Cond.selects RX1 yX1_goesWell yX1_goesWell, Cond.code yX1_goesWell cX1_goesWell 2 (some .boolean), Cond.fieldLink RX1 19 "ToneRowsModel" "thrown" "I", Cond.methodLink RX1 31 yX1_at, Cond.instanceMethod yX1_at, Cond.selects RX1 yX1_at yX1_at, Cond.code yX1_at cX1_at 3 (some .int), Cond.fieldLink RX1 7 "ToneRowsModel" "tones" "[I", Cond.methodLink RX1 49 yX1_codeOf, Cond.static yX1_codeOf, Cond.code yX1_codeOf cX1_codeOf 2 (some .int), Cond.methodLink RX1 52 yX1_formAt]
def wsX1_matrix_r2 : List Cond := [Cond.instanceMethod yX1_formAt, Cond.selects RX1 yX1_formAt yX1_formAt, Cond.code yX1_formAt cX1_formAt 7 (some .int), Cond.methodLink RX1 35 yX1_modulo, Cond.static yX1_modulo, Cond.code yX1_modulo cX1_modulo 1 (some .int)]
def wsX1_matrix : List Cond := .code yX1_matrix cX1_matrix 5 (some .int) :: ((wsX1_matrix_r1 ++ wsX1_matrix_r2) ++ wsX10)
def wsX1_areSame : List Cond := .code yX1_areSame cX1_areSame 6 (some .boolean) :: ([.methodLink RX1 52 yX1_formAt, .instanceMethod yX1_formAt, .selects RX1 yX1_formAt yX1_formAt, .initialized RX1, .code yX1_formAt cX1_formAt 7 (some .int), .methodLink RX1 31 yX1_at, .instanceMethod yX1_at, .selects RX1 yX1_at yX1_at, .code yX1_at cX1_at 3 (some .int), .fieldLink RX1 7 "ToneRowsModel" "tones" "[I", .methodLink RX1 35 yX1_modulo, .static yX1_modulo, .code yX1_modulo cX1_modulo 1 (some .int)] ++ wsX10)
def wsX1_differentForms_r1 : List Cond := [Cond.methodLink RX1 39 yX1_isRow, Cond.static yX1_isRow, Cond.initialized RX1, Cond.code yX1_isRow cX1_isRow 1 (some .boolean), Cond.methodLink RX1 42 yX1_goesWell, Cond.instanceMethod yX1_goesWell, Cond.selects RX1 yX1_goesWell yX1_goesWell, Cond.code yX1_goesWell cX1_goesWell 2 (some .boolean), Cond.fieldLink RX1 19 "ToneRowsModel" "thrown" "I", Cond.methodLink RX1 62 yX1_areSame, Cond.instanceMethod yX1_areSame, Cond.selects RX1 yX1_areSame yX1_areSame, Cond.code yX1_areSame cX1_areSame 6 (some .boolean), Cond.methodLink RX1 52 yX1_formAt, Cond.instanceMethod yX1_formAt, Cond.selects RX1 yX1_formAt yX1_formAt, Cond.code yX1_formAt cX1_formAt 7 (some .int), Cond.methodLink RX1 31 yX1_at, Cond.instanceMethod yX1_at, Cond.selects RX1 yX1_at yX1_at, Cond.code yX1_at cX1_at 3 (some .int), Cond.fieldLink RX1 7 "ToneRowsModel" "tones" "[I", Cond.methodLink RX1 35 yX1_modulo, Cond.static yX1_modulo]
def wsX1_differentForms_r2 : List Cond := [Cond.code yX1_modulo cX1_modulo 1 (some .int)]
def wsX1_differentForms : List Cond := .code yX1_differentForms cX1_differentForms 6 (some .int) :: ((wsX1_differentForms_r1 ++ wsX1_differentForms_r2) ++ wsX10)
def wsX1_formOfOther : List Cond := .code yX1_formOfOther cX1_formOfOther 5 (some .int) :: ([.methodLink RX1 39 yX1_isRow, .static yX1_isRow, .initialized RX1, .code yX1_isRow cX1_isRow 1 (some .boolean), .methodLink RX1 42 yX1_goesWell, .instanceMethod yX1_goesWell, .selects RX1 yX1_goesWell yX1_goesWell, .code yX1_goesWell cX1_goesWell 2 (some .boolean), .fieldLink RX1 19 "ToneRowsModel" "thrown" "I", .methodLink RX1 52 yX1_formAt, .instanceMethod yX1_formAt, .selects RX1 yX1_formAt yX1_formAt, .code yX1_formAt cX1_formAt 7 (some .int), .methodLink RX1 31 yX1_at, .instanceMethod yX1_at, .selects RX1 yX1_at yX1_at, .code yX1_at cX1_at 3 (some .int), .fieldLink RX1 7 "ToneRowsModel" "tones" "[I", .methodLink RX1 35 yX1_modulo, .static yX1_modulo, .code yX1_modulo cX1_modulo 1 (some .int)] ++ wsX10)
def wsX1_setOf : List Cond := .code yX1_setOf cX1_setOf 7 (some .int) :: ([.methodLink RX1 52 yX1_formAt, .instanceMethod yX1_formAt, .selects RX1 yX1_formAt yX1_formAt, .initialized RX1, .code yX1_formAt cX1_formAt 7 (some .int), .methodLink RX1 31 yX1_at, .instanceMethod yX1_at, .selects RX1 yX1_at yX1_at, .code yX1_at cX1_at 3 (some .int), .fieldLink RX1 7 "ToneRowsModel" "tones" "[I", .methodLink RX1 35 yX1_modulo, .static yX1_modulo, .code yX1_modulo cX1_modulo 1 (some .int)] ++ wsX10)
def wsX1_itself : List Cond := .code yX1_itself cX1_itself 2 (some .int) :: ([.methodLink RX1 31 yX1_at, .instanceMethod yX1_at, .selects RX1 yX1_at yX1_at, .initialized RX1, .code yX1_at cX1_at 3 (some .int), .fieldLink RX1 7 "ToneRowsModel" "tones" "[I", .methodLink RX1 49 yX1_codeOf, .static yX1_codeOf, .code yX1_codeOf cX1_codeOf 2 (some .int)] ++ wsX10)
def wsX1_segment_r1 : List Cond := [Cond.methodLink RX1 23 yX1_in, Cond.static yX1_in, Cond.initialized RX1, Cond.code yX1_in cX1_in 3 (some .boolean), Cond.methodLink RX1 39 yX1_isRow, Cond.static yX1_isRow, Cond.code yX1_isRow cX1_isRow 1 (some .boolean), Cond.methodLink RX1 27 yX1_isTone, Cond.static yX1_isTone, Cond.code yX1_isTone cX1_isTone 1 (some .boolean), Cond.methodLink RX1 42 yX1_goesWell, Cond.instanceMethod yX1_goesWell, Cond.selects RX1 yX1_goesWell yX1_goesWell, Cond.code yX1_goesWell cX1_goesWell 2 (some .boolean), Cond.fieldLink RX1 19 "ToneRowsModel" "thrown" "I", Cond.methodLink RX1 65 yX1_itself, Cond.instanceMethod yX1_itself, Cond.selects RX1 yX1_itself yX1_itself, Cond.code yX1_itself cX1_itself 2 (some .int), Cond.methodLink RX1 31 yX1_at, Cond.instanceMethod yX1_at, Cond.selects RX1 yX1_at yX1_at, Cond.code yX1_at cX1_at 3 (some .int), Cond.fieldLink RX1 7 "ToneRowsModel" "tones" "[I"]
def wsX1_segment_r2 : List Cond := [Cond.methodLink RX1 49 yX1_codeOf, Cond.static yX1_codeOf, Cond.code yX1_codeOf cX1_codeOf 2 (some .int), Cond.methodLink RX1 68 yX1_setOf, Cond.instanceMethod yX1_setOf, Cond.selects RX1 yX1_setOf yX1_setOf, Cond.code yX1_setOf cX1_setOf 7 (some .int), Cond.methodLink RX1 52 yX1_formAt, Cond.instanceMethod yX1_formAt, Cond.selects RX1 yX1_formAt yX1_formAt, Cond.code yX1_formAt cX1_formAt 7 (some .int), Cond.methodLink RX1 35 yX1_modulo, Cond.static yX1_modulo, Cond.code yX1_modulo cX1_modulo 1 (some .int)]
def wsX1_segment : List Cond := .code yX1_segment cX1_segment 5 (some .int) :: ((wsX1_segment_r1 ++ wsX1_segment_r2) ++ wsX10)
def wsX1_moved : List Cond := .code yX1_moved cX1_moved 5 (some .int) :: ([.methodLink RX1 35 yX1_modulo, .static yX1_modulo, .initialized RX1, .code yX1_modulo cX1_modulo 1 (some .int)])
def wsX1_least : List Cond := .code yX1_least cX1_least 3 (some .int) :: ([.methodLink RX1 72 yX1_moved, .static yX1_moved, .initialized RX1, .code yX1_moved cX1_moved 5 (some .int), .methodLink RX1 35 yX1_modulo, .static yX1_modulo, .code yX1_modulo cX1_modulo 1 (some .int)])
def wsX1_classOf : List Cond := .code yX1_classOf cX1_classOf 2 (some .int) :: ([.methodLink RX1 23 yX1_in, .static yX1_in, .initialized RX1, .code yX1_in cX1_in 3 (some .boolean), .methodLink RX1 42 yX1_goesWell, .instanceMethod yX1_goesWell, .selects RX1 yX1_goesWell yX1_goesWell, .code yX1_goesWell cX1_goesWell 2 (some .boolean), .fieldLink RX1 19 "ToneRowsModel" "thrown" "I", .methodLink RX1 76 yX1_least, .static yX1_least, .code yX1_least cX1_least 3 (some .int), .methodLink RX1 72 yX1_moved, .static yX1_moved, .code yX1_moved cX1_moved 5 (some .int), .methodLink RX1 35 yX1_modulo, .static yX1_modulo, .code yX1_modulo cX1_modulo 1 (some .int)] ++ wsX10)
def wsX1_pairs : List Cond := .code yX1_pairs cX1_pairs 7 (some .int) :: ([.methodLink RX1 23 yX1_in, .static yX1_in, .initialized RX1, .code yX1_in cX1_in 3 (some .boolean), .methodLink RX1 42 yX1_goesWell, .instanceMethod yX1_goesWell, .selects RX1 yX1_goesWell yX1_goesWell, .code yX1_goesWell cX1_goesWell 2 (some .boolean), .fieldLink RX1 19 "ToneRowsModel" "thrown" "I"] ++ wsX10)
def wsX1_combining_r1 : List Cond := [Cond.methodLink RX1 39 yX1_isRow, Cond.static yX1_isRow, Cond.initialized RX1, Cond.code yX1_isRow cX1_isRow 1 (some .boolean), Cond.methodLink RX1 42 yX1_goesWell, Cond.instanceMethod yX1_goesWell, Cond.selects RX1 yX1_goesWell yX1_goesWell, Cond.code yX1_goesWell cX1_goesWell 2 (some .boolean), Cond.fieldLink RX1 19 "ToneRowsModel" "thrown" "I", Cond.methodLink RX1 65 yX1_itself, Cond.instanceMethod yX1_itself, Cond.selects RX1 yX1_itself yX1_itself, Cond.code yX1_itself cX1_itself 2 (some .int), Cond.methodLink RX1 31 yX1_at, Cond.instanceMethod yX1_at, Cond.selects RX1 yX1_at yX1_at, Cond.code yX1_at cX1_at 3 (some .int), Cond.fieldLink RX1 7 "ToneRowsModel" "tones" "[I", Cond.methodLink RX1 49 yX1_codeOf, Cond.static yX1_codeOf, Cond.code yX1_codeOf cX1_codeOf 2 (some .int), Cond.methodLink RX1 68 yX1_setOf, Cond.instanceMethod yX1_setOf, Cond.selects RX1 yX1_setOf yX1_setOf]
def wsX1_combining_r2 : List Cond := [Cond.code yX1_setOf cX1_setOf 7 (some .int), Cond.methodLink RX1 52 yX1_formAt, Cond.instanceMethod yX1_formAt, Cond.selects RX1 yX1_formAt yX1_formAt, Cond.code yX1_formAt cX1_formAt 7 (some .int), Cond.methodLink RX1 35 yX1_modulo, Cond.static yX1_modulo, Cond.code yX1_modulo cX1_modulo 1 (some .int)]
def wsX1_combining : List Cond := .code yX1_combining cX1_combining 6 (some .long) :: ((wsX1_combining_r1 ++ wsX1_combining_r2) ++ wsX10)
def wsX1_isDerived_r1 : List Cond := [Cond.methodLink RX1 23 yX1_in, Cond.static yX1_in, Cond.initialized RX1, Cond.code yX1_in cX1_in 3 (some .boolean), Cond.methodLink RX1 39 yX1_isRow, Cond.static yX1_isRow, Cond.code yX1_isRow cX1_isRow 1 (some .boolean), Cond.methodLink RX1 42 yX1_goesWell, Cond.instanceMethod yX1_goesWell, Cond.selects RX1 yX1_goesWell yX1_goesWell, Cond.code yX1_goesWell cX1_goesWell 2 (some .boolean), Cond.fieldLink RX1 19 "ToneRowsModel" "thrown" "I", Cond.methodLink RX1 65 yX1_itself, Cond.instanceMethod yX1_itself, Cond.selects RX1 yX1_itself yX1_itself, Cond.code yX1_itself cX1_itself 2 (some .int), Cond.methodLink RX1 31 yX1_at, Cond.instanceMethod yX1_at, Cond.selects RX1 yX1_at yX1_at, Cond.code yX1_at cX1_at 3 (some .int), Cond.fieldLink RX1 7 "ToneRowsModel" "tones" "[I", Cond.methodLink RX1 49 yX1_codeOf, Cond.static yX1_codeOf, Cond.code yX1_codeOf cX1_codeOf 2 (some .int)]
def wsX1_isDerived_r2 : List Cond := [Cond.methodLink RX1 68 yX1_setOf, Cond.instanceMethod yX1_setOf, Cond.selects RX1 yX1_setOf yX1_setOf, Cond.code yX1_setOf cX1_setOf 7 (some .int), Cond.methodLink RX1 52 yX1_formAt, Cond.instanceMethod yX1_formAt, Cond.selects RX1 yX1_formAt yX1_formAt, Cond.code yX1_formAt cX1_formAt 7 (some .int), Cond.methodLink RX1 35 yX1_modulo, Cond.static yX1_modulo, Cond.code yX1_modulo cX1_modulo 1 (some .int), Cond.methodLink RX1 76 yX1_least, Cond.static yX1_least, Cond.code yX1_least cX1_least 3 (some .int), Cond.methodLink RX1 72 yX1_moved, Cond.static yX1_moved, Cond.code yX1_moved cX1_moved 5 (some .int)]
def wsX1_isDerived : List Cond := .code yX1_isDerived cX1_isDerived 6 (some .boolean) :: ((wsX1_isDerived_r1 ++ wsX1_isDerived_r2) ++ wsX10)
def wsX1_setsKept : List Cond := .code yX1_setsKept cX1_setsKept 8 (some .int) :: ([.methodLink RX1 68 yX1_setOf, .instanceMethod yX1_setOf, .selects RX1 yX1_setOf yX1_setOf, .initialized RX1, .code yX1_setOf cX1_setOf 7 (some .int), .methodLink RX1 52 yX1_formAt, .instanceMethod yX1_formAt, .selects RX1 yX1_formAt yX1_formAt, .code yX1_formAt cX1_formAt 7 (some .int), .methodLink RX1 31 yX1_at, .instanceMethod yX1_at, .selects RX1 yX1_at yX1_at, .code yX1_at cX1_at 3 (some .int), .fieldLink RX1 7 "ToneRowsModel" "tones" "[I", .methodLink RX1 35 yX1_modulo, .static yX1_modulo, .code yX1_modulo cX1_modulo 1 (some .int), .methodLink RX1 65 yX1_itself, .instanceMethod yX1_itself, .selects RX1 yX1_itself yX1_itself, .code yX1_itself cX1_itself 2 (some .int), .methodLink RX1 49 yX1_codeOf, .static yX1_codeOf, .code yX1_codeOf cX1_codeOf 2 (some .int)] ++ wsX10)
def wsX1_keptSets_r1 : List Cond := [Cond.methodLink RX1 45 yX1_isForm, Cond.static yX1_isForm, Cond.initialized RX1, Cond.code yX1_isForm cX1_isForm 2 (some .boolean), Cond.methodLink RX1 23 yX1_in, Cond.static yX1_in, Cond.code yX1_in cX1_in 3 (some .boolean), Cond.methodLink RX1 27 yX1_isTone, Cond.static yX1_isTone, Cond.code yX1_isTone cX1_isTone 1 (some .boolean), Cond.methodLink RX1 39 yX1_isRow, Cond.static yX1_isRow, Cond.code yX1_isRow cX1_isRow 1 (some .boolean), Cond.methodLink RX1 42 yX1_goesWell, Cond.instanceMethod yX1_goesWell, Cond.selects RX1 yX1_goesWell yX1_goesWell, Cond.code yX1_goesWell cX1_goesWell 2 (some .boolean), Cond.fieldLink RX1 19 "ToneRowsModel" "thrown" "I", Cond.methodLink RX1 49 yX1_codeOf, Cond.static yX1_codeOf, Cond.code yX1_codeOf cX1_codeOf 2 (some .int), Cond.methodLink RX1 79 yX1_setsKept, Cond.instanceMethod yX1_setsKept, Cond.selects RX1 yX1_setsKept yX1_setsKept]
def wsX1_keptSets_r2 : List Cond := [Cond.code yX1_setsKept cX1_setsKept 8 (some .int), Cond.methodLink RX1 68 yX1_setOf, Cond.instanceMethod yX1_setOf, Cond.selects RX1 yX1_setOf yX1_setOf, Cond.code yX1_setOf cX1_setOf 7 (some .int), Cond.methodLink RX1 52 yX1_formAt, Cond.instanceMethod yX1_formAt, Cond.selects RX1 yX1_formAt yX1_formAt, Cond.code yX1_formAt cX1_formAt 7 (some .int), Cond.methodLink RX1 31 yX1_at, Cond.instanceMethod yX1_at, Cond.selects RX1 yX1_at yX1_at, Cond.code yX1_at cX1_at 3 (some .int), Cond.fieldLink RX1 7 "ToneRowsModel" "tones" "[I", Cond.methodLink RX1 35 yX1_modulo, Cond.static yX1_modulo, Cond.code yX1_modulo cX1_modulo 1 (some .int), Cond.methodLink RX1 65 yX1_itself, Cond.instanceMethod yX1_itself, Cond.selects RX1 yX1_itself yX1_itself, Cond.code yX1_itself cX1_itself 2 (some .int)]
def wsX1_keptSets : List Cond := .code yX1_keptSets cX1_keptSets 6 (some .int) :: ((wsX1_keptSets_r1 ++ wsX1_keptSets_r2) ++ wsX10)
def wsX1_same : List Cond := .code yX1_same cX1_same 6 (some .int) :: ([.methodLink RX1 31 yX1_at, .instanceMethod yX1_at, .selects RX1 yX1_at yX1_at, .initialized RX1, .code yX1_at cX1_at 3 (some .int), .fieldLink RX1 7 "ToneRowsModel" "tones" "[I", .methodLink RX1 52 yX1_formAt, .instanceMethod yX1_formAt, .selects RX1 yX1_formAt yX1_formAt, .code yX1_formAt cX1_formAt 7 (some .int), .methodLink RX1 35 yX1_modulo, .static yX1_modulo, .code yX1_modulo cX1_modulo 1 (some .int)] ++ wsX10)
def wsX1_longestKept_r1 : List Cond := [Cond.methodLink RX1 39 yX1_isRow, Cond.static yX1_isRow, Cond.initialized RX1, Cond.code yX1_isRow cX1_isRow 1 (some .boolean), Cond.methodLink RX1 45 yX1_isForm, Cond.static yX1_isForm, Cond.code yX1_isForm cX1_isForm 2 (some .boolean), Cond.methodLink RX1 23 yX1_in, Cond.static yX1_in, Cond.code yX1_in cX1_in 3 (some .boolean), Cond.methodLink RX1 27 yX1_isTone, Cond.static yX1_isTone, Cond.code yX1_isTone cX1_isTone 1 (some .boolean), Cond.methodLink RX1 42 yX1_goesWell, Cond.instanceMethod yX1_goesWell, Cond.selects RX1 yX1_goesWell yX1_goesWell, Cond.code yX1_goesWell cX1_goesWell 2 (some .boolean), Cond.fieldLink RX1 19 "ToneRowsModel" "thrown" "I", Cond.methodLink RX1 49 yX1_codeOf, Cond.static yX1_codeOf, Cond.code yX1_codeOf cX1_codeOf 2 (some .int), Cond.methodLink RX1 82 yX1_same, Cond.instanceMethod yX1_same, Cond.selects RX1 yX1_same yX1_same]
def wsX1_longestKept_r2 : List Cond := [Cond.code yX1_same cX1_same 6 (some .int), Cond.methodLink RX1 31 yX1_at, Cond.instanceMethod yX1_at, Cond.selects RX1 yX1_at yX1_at, Cond.code yX1_at cX1_at 3 (some .int), Cond.fieldLink RX1 7 "ToneRowsModel" "tones" "[I", Cond.methodLink RX1 52 yX1_formAt, Cond.instanceMethod yX1_formAt, Cond.selects RX1 yX1_formAt yX1_formAt, Cond.code yX1_formAt cX1_formAt 7 (some .int), Cond.methodLink RX1 35 yX1_modulo, Cond.static yX1_modulo, Cond.code yX1_modulo cX1_modulo 1 (some .int)]
def wsX1_longestKept : List Cond := .code yX1_longestKept cX1_longestKept 8 (some .int) :: ((wsX1_longestKept_r1 ++ wsX1_longestKept_r2) ++ wsX10)
def wsX1_mostKept_r1 : List Cond := [Cond.methodLink RX1 39 yX1_isRow, Cond.static yX1_isRow, Cond.initialized RX1, Cond.code yX1_isRow cX1_isRow 1 (some .boolean), Cond.methodLink RX1 23 yX1_in, Cond.static yX1_in, Cond.code yX1_in cX1_in 3 (some .boolean), Cond.methodLink RX1 42 yX1_goesWell, Cond.instanceMethod yX1_goesWell, Cond.selects RX1 yX1_goesWell yX1_goesWell, Cond.code yX1_goesWell cX1_goesWell 2 (some .boolean), Cond.fieldLink RX1 19 "ToneRowsModel" "thrown" "I", Cond.methodLink RX1 65 yX1_itself, Cond.instanceMethod yX1_itself, Cond.selects RX1 yX1_itself yX1_itself, Cond.code yX1_itself cX1_itself 2 (some .int), Cond.methodLink RX1 31 yX1_at, Cond.instanceMethod yX1_at, Cond.selects RX1 yX1_at yX1_at, Cond.code yX1_at cX1_at 3 (some .int), Cond.fieldLink RX1 7 "ToneRowsModel" "tones" "[I", Cond.methodLink RX1 49 yX1_codeOf, Cond.static yX1_codeOf, Cond.code yX1_codeOf cX1_codeOf 2 (some .int)]
def wsX1_mostKept_r2 : List Cond := [Cond.methodLink RX1 79 yX1_setsKept, Cond.instanceMethod yX1_setsKept, Cond.selects RX1 yX1_setsKept yX1_setsKept, Cond.code yX1_setsKept cX1_setsKept 8 (some .int), Cond.methodLink RX1 68 yX1_setOf, Cond.instanceMethod yX1_setOf, Cond.selects RX1 yX1_setOf yX1_setOf, Cond.code yX1_setOf cX1_setOf 7 (some .int), Cond.methodLink RX1 52 yX1_formAt, Cond.instanceMethod yX1_formAt, Cond.selects RX1 yX1_formAt yX1_formAt, Cond.code yX1_formAt cX1_formAt 7 (some .int), Cond.methodLink RX1 35 yX1_modulo, Cond.static yX1_modulo, Cond.code yX1_modulo cX1_modulo 1 (some .int)]
def wsX1_mostKept : List Cond := .code yX1_mostKept cX1_mostKept 7 (some .int) :: ((wsX1_mostKept_r1 ++ wsX1_mostKept_r2) ++ wsX10)
def wsX1_isCode : List Cond := .code yX1_isCode cX1_isCode 1 (some .boolean) :: ([.methodLink RX1 23 yX1_in, .static yX1_in, .initialized RX1, .code yX1_in cX1_in 3 (some .boolean)])
def wsX1_cuts_r1 : List Cond := [Cond.methodLink RX1 85 yX1_isCode, Cond.static yX1_isCode, Cond.initialized RX1, Cond.code yX1_isCode cX1_isCode 1 (some .boolean), Cond.methodLink RX1 23 yX1_in, Cond.static yX1_in, Cond.code yX1_in cX1_in 3 (some .boolean), Cond.methodLink RX1 42 yX1_goesWell, Cond.instanceMethod yX1_goesWell, Cond.selects RX1 yX1_goesWell yX1_goesWell, Cond.code yX1_goesWell cX1_goesWell 2 (some .boolean), Cond.fieldLink RX1 19 "ToneRowsModel" "thrown" "I", Cond.methodLink RX1 68 yX1_setOf, Cond.instanceMethod yX1_setOf, Cond.selects RX1 yX1_setOf yX1_setOf, Cond.code yX1_setOf cX1_setOf 7 (some .int), Cond.methodLink RX1 52 yX1_formAt, Cond.instanceMethod yX1_formAt, Cond.selects RX1 yX1_formAt yX1_formAt, Cond.code yX1_formAt cX1_formAt 7 (some .int), Cond.methodLink RX1 31 yX1_at, Cond.instanceMethod yX1_at, Cond.selects RX1 yX1_at yX1_at, Cond.code yX1_at cX1_at 3 (some .int)]
def wsX1_cuts_r2 : List Cond := [Cond.fieldLink RX1 7 "ToneRowsModel" "tones" "[I", Cond.methodLink RX1 35 yX1_modulo, Cond.static yX1_modulo, Cond.code yX1_modulo cX1_modulo 1 (some .int)]
def wsX1_cuts : List Cond := .code yX1_cuts cX1_cuts 6 (some .int) :: ((wsX1_cuts_r1 ++ wsX1_cuts_r2) ++ wsX10)
def wsX1_isWritten : List Cond := .code yX1_isWritten cX1_isWritten 4 (some .boolean) :: ([.fieldLink RX1 88 "ToneRowsModel" "written" "I", .fieldLink RX1 16 "ToneRowsModel" "phrase" "[I"] ++ wsX10)
def wsX1_write : List Cond := .code yX1_write cX1_write 2 (some .int) :: ([.fieldLink RX1 16 "ToneRowsModel" "phrase" "[I", .fieldLink RX1 88 "ToneRowsModel" "written" "I", .methodLink RX1 27 yX1_isTone, .static yX1_isTone, .initialized RX1, .code yX1_isTone cX1_isTone 1 (some .boolean), .methodLink RX1 23 yX1_in, .static yX1_in, .code yX1_in cX1_in 3 (some .boolean), .methodLink RX1 91 yX1_isWritten, .instanceMethod yX1_isWritten, .selects RX1 yX1_isWritten yX1_isWritten, .code yX1_isWritten cX1_isWritten 4 (some .boolean), .methodLink RX1 42 yX1_goesWell, .instanceMethod yX1_goesWell, .selects RX1 yX1_goesWell yX1_goesWell, .code yX1_goesWell cX1_goesWell 2 (some .boolean), .fieldLink RX1 19 "ToneRowsModel" "thrown" "I"] ++ wsX10)
def wsX1_erase : List Cond := .code yX1_erase cX1_erase 2 (some .int) :: ([.fieldLink RX1 19 "ToneRowsModel" "thrown" "I", .fieldLink RX1 88 "ToneRowsModel" "written" "I"] ++ wsX10)
def wsX1_placeIn : List Cond := .code yX1_placeIn cX1_placeIn 6 (some .int) :: ([.fieldLink RX1 88 "ToneRowsModel" "written" "I", .fieldLink RX1 16 "ToneRowsModel" "phrase" "[I", .methodLink RX1 52 yX1_formAt, .instanceMethod yX1_formAt, .selects RX1 yX1_formAt yX1_formAt, .initialized RX1, .code yX1_formAt cX1_formAt 7 (some .int), .methodLink RX1 31 yX1_at, .instanceMethod yX1_at, .selects RX1 yX1_at yX1_at, .code yX1_at cX1_at 3 (some .int), .fieldLink RX1 7 "ToneRowsModel" "tones" "[I", .methodLink RX1 35 yX1_modulo, .static yX1_modulo, .code yX1_modulo cX1_modulo 1 (some .int)] ++ wsX10)
def wsX1_formsWithPhrase_r1 : List Cond := [Cond.methodLink RX1 39 yX1_isRow, Cond.static yX1_isRow, Cond.initialized RX1, Cond.code yX1_isRow cX1_isRow 1 (some .boolean), Cond.methodLink RX1 42 yX1_goesWell, Cond.instanceMethod yX1_goesWell, Cond.selects RX1 yX1_goesWell yX1_goesWell, Cond.code yX1_goesWell cX1_goesWell 2 (some .boolean), Cond.fieldLink RX1 19 "ToneRowsModel" "thrown" "I", Cond.methodLink RX1 94 yX1_placeIn, Cond.instanceMethod yX1_placeIn, Cond.selects RX1 yX1_placeIn yX1_placeIn, Cond.code yX1_placeIn cX1_placeIn 6 (some .int), Cond.fieldLink RX1 88 "ToneRowsModel" "written" "I", Cond.fieldLink RX1 16 "ToneRowsModel" "phrase" "[I", Cond.methodLink RX1 52 yX1_formAt, Cond.instanceMethod yX1_formAt, Cond.selects RX1 yX1_formAt yX1_formAt, Cond.code yX1_formAt cX1_formAt 7 (some .int), Cond.methodLink RX1 31 yX1_at, Cond.instanceMethod yX1_at, Cond.selects RX1 yX1_at yX1_at, Cond.code yX1_at cX1_at 3 (some .int), Cond.fieldLink RX1 7 "ToneRowsModel" "tones" "[I"]
def wsX1_formsWithPhrase_r2 : List Cond := [Cond.methodLink RX1 35 yX1_modulo, Cond.static yX1_modulo, Cond.code yX1_modulo cX1_modulo 1 (some .int)]
def wsX1_formsWithPhrase : List Cond := .code yX1_formsWithPhrase cX1_formsWithPhrase 5 (some .long) :: ((wsX1_formsWithPhrase_r1 ++ wsX1_formsWithPhrase_r2) ++ wsX10)
def wsX1_placeOfPhrase_r1 : List Cond := [Cond.fieldLink RX1 88 "ToneRowsModel" "written" "I", Cond.methodLink RX1 39 yX1_isRow, Cond.static yX1_isRow, Cond.initialized RX1, Cond.code yX1_isRow cX1_isRow 1 (some .boolean), Cond.methodLink RX1 85 yX1_isCode, Cond.static yX1_isCode, Cond.code yX1_isCode cX1_isCode 1 (some .boolean), Cond.methodLink RX1 23 yX1_in, Cond.static yX1_in, Cond.code yX1_in cX1_in 3 (some .boolean), Cond.methodLink RX1 42 yX1_goesWell, Cond.instanceMethod yX1_goesWell, Cond.selects RX1 yX1_goesWell yX1_goesWell, Cond.code yX1_goesWell cX1_goesWell 2 (some .boolean), Cond.fieldLink RX1 19 "ToneRowsModel" "thrown" "I", Cond.methodLink RX1 94 yX1_placeIn, Cond.instanceMethod yX1_placeIn, Cond.selects RX1 yX1_placeIn yX1_placeIn, Cond.code yX1_placeIn cX1_placeIn 6 (some .int), Cond.fieldLink RX1 16 "ToneRowsModel" "phrase" "[I", Cond.methodLink RX1 52 yX1_formAt, Cond.instanceMethod yX1_formAt, Cond.selects RX1 yX1_formAt yX1_formAt]
def wsX1_placeOfPhrase_r2 : List Cond := [Cond.code yX1_formAt cX1_formAt 7 (some .int), Cond.methodLink RX1 31 yX1_at, Cond.instanceMethod yX1_at, Cond.selects RX1 yX1_at yX1_at, Cond.code yX1_at cX1_at 3 (some .int), Cond.fieldLink RX1 7 "ToneRowsModel" "tones" "[I", Cond.methodLink RX1 35 yX1_modulo, Cond.static yX1_modulo, Cond.code yX1_modulo cX1_modulo 1 (some .int)]
def wsX1_placeOfPhrase : List Cond := .code yX1_placeOfPhrase cX1_placeOfPhrase 3 (some .int) :: ((wsX1_placeOfPhrase_r1 ++ wsX1_placeOfPhrase_r2) ++ wsX10)
def wsX1_complete_r1 : List Cond := [Cond.fieldLink RX1 88 "ToneRowsModel" "written" "I", Cond.fieldLink RX1 13 "ToneRowsModel" "kept" "[I", Cond.fieldLink RX1 16 "ToneRowsModel" "phrase" "[I", Cond.methodLink RX1 39 yX1_isRow, Cond.static yX1_isRow, Cond.initialized RX1, Cond.code yX1_isRow cX1_isRow 1 (some .boolean), Cond.methodLink RX1 42 yX1_goesWell, Cond.instanceMethod yX1_goesWell, Cond.selects RX1 yX1_goesWell yX1_goesWell, Cond.code yX1_goesWell cX1_goesWell 2 (some .boolean), Cond.fieldLink RX1 19 "ToneRowsModel" "thrown" "I", Cond.methodLink RX1 31 yX1_at, Cond.instanceMethod yX1_at, Cond.selects RX1 yX1_at yX1_at, Cond.code yX1_at cX1_at 3 (some .int), Cond.fieldLink RX1 7 "ToneRowsModel" "tones" "[I", Cond.methodLink RX1 91 yX1_isWritten, Cond.instanceMethod yX1_isWritten, Cond.selects RX1 yX1_isWritten yX1_isWritten, Cond.code yX1_isWritten cX1_isWritten 4 (some .boolean), Cond.methodLink RX1 56 yX1_lay, Cond.instanceMethod yX1_lay, Cond.selects RX1 yX1_lay yX1_lay]
def wsX1_complete_r2 : List Cond := [Cond.code yX1_lay cX1_lay 3 (some .int)]
def wsX1_complete : List Cond := .code yX1_complete cX1_complete 4 (some .int) :: ((wsX1_complete_r1 ++ wsX1_complete_r2) ++ wsX10)
def wsJ9_max_7cf53 : List Cond := .code yJ9_max_7cf53 cJ9_max_7cf53 2 (some .int) :: ([])
def wsJ9_min_7cf53 : List Cond := .code yJ9_min_7cf53 cJ9_min_7cf53 2 (some .int) :: ([])
def wsL_put_r1 : List Cond := [Cond.classLink RL 13 "java/lang/IndexOutOfBoundsException", Cond.classLink RL 15 "java/lang/IllegalArgumentException", Cond.methodLink RL 7 yX0_put, Cond.instanceMethod yX0_put, Cond.selects RX0 yX0_put yX0_put, Cond.initialized RX0, Cond.code yX0_put cX0_put 9 (some .int), Cond.methodLink RX0 20 yX0_requireRow, Cond.static yX0_requireRow, Cond.code yX0_requireRow cX0_requireRow 1 none, Cond.classLink RX0 127 "java/lang/IndexOutOfBoundsException", Cond.initialized "java/lang/IndexOutOfBoundsException", Cond.methodLink RX0 24 yX0_requirePlace, Cond.static yX0_requirePlace, Cond.code yX0_requirePlace cX0_requirePlace 2 none, Cond.methodLink RX0 28 yX0_requireRange, Cond.static yX0_requireRange, Cond.code yX0_requireRange cX0_requireRange 3 none, Cond.classLink RX0 134 "java/lang/IllegalArgumentException", Cond.initialized "java/lang/IllegalArgumentException", Cond.methodLink RX0 32 yX0_rowAt, Cond.instanceMethod yX0_rowAt, Cond.selects RX0 yX0_rowAt yX0_rowAt, Cond.code yX0_rowAt cX0_rowAt 2 (some .long)]
def wsL_put_r2 : List Cond := [Cond.fieldLink RX0 13 "ToneRows" "row0" "J", Cond.fieldLink RX0 17 "ToneRows" "row1" "J", Cond.methodLink RX0 36 yX0_entryAt, Cond.static yX0_entryAt, Cond.code yX0_entryAt cX0_entryAt 3 (some .int), Cond.constantLong RX0 143 (15), Cond.methodLink RX0 40 yX0_placeIn, Cond.static yX0_placeIn, Cond.code yX0_placeIn cX0_placeIn 4 (some .int), Cond.methodLink RX0 9 yX0_withEntry, Cond.static yX0_withEntry, Cond.code yX0_withEntry cX0_withEntry 5 (some .long), Cond.constantLong RX0 145 (-1), Cond.methodLink RX0 43 yX0_setRow, Cond.instanceMethod yX0_setRow, Cond.selects RX0 yX0_setRow yX0_setRow, Cond.code yX0_setRow cX0_setRow 4 none]
def wsL_put : List Cond := .codeWith yL_put cL_put 6 (some .int) [(0, 12, 15, 13), (0, 12, 19, 15)] :: ((wsL_put_r1 ++ wsL_put_r2) ++ wsX00 ++ (vx_atS RX0 131 "java/lang/IndexOutOfBoundsException" ["java/lang/RuntimeException", "java/lang/Exception"]).filter goodWord ++ (vx_atS RX0 138 "java/lang/IllegalArgumentException" ["java/lang/RuntimeException", "java/lang/Exception"]).filter goodWord)
def wsL_take_r1 : List Cond := [Cond.classLink RL 13 "java/lang/IndexOutOfBoundsException", Cond.classLink RL 15 "java/lang/IllegalArgumentException", Cond.methodLink RL 17 yX0_take, Cond.instanceMethod yX0_take, Cond.selects RX0 yX0_take yX0_take, Cond.initialized RX0, Cond.code yX0_take cX0_take 5 (some .int), Cond.methodLink RX0 20 yX0_requireRow, Cond.static yX0_requireRow, Cond.code yX0_requireRow cX0_requireRow 1 none, Cond.classLink RX0 127 "java/lang/IndexOutOfBoundsException", Cond.initialized "java/lang/IndexOutOfBoundsException", Cond.methodLink RX0 47 yX0_requireForm, Cond.static yX0_requireForm, Cond.code yX0_requireForm cX0_requireForm 2 none, Cond.methodLink RX0 28 yX0_requireRange, Cond.static yX0_requireRange, Cond.code yX0_requireRange cX0_requireRange 3 none, Cond.classLink RX0 134 "java/lang/IllegalArgumentException", Cond.initialized "java/lang/IllegalArgumentException", Cond.methodLink RX0 32 yX0_rowAt, Cond.instanceMethod yX0_rowAt, Cond.selects RX0 yX0_rowAt yX0_rowAt, Cond.code yX0_rowAt cX0_rowAt 2 (some .long)]
def wsL_take_r2 : List Cond := [Cond.fieldLink RX0 13 "ToneRows" "row0" "J", Cond.fieldLink RX0 17 "ToneRows" "row1" "J", Cond.methodLink RX0 50 yX0_codeOf, Cond.static yX0_codeOf, Cond.code yX0_codeOf cX0_codeOf 2 (some .int), Cond.methodLink RX0 54 yX0_formWith, Cond.static yX0_formWith, Cond.code yX0_formWith cX0_formWith 13 (some .long), Cond.methodLink RX0 36 yX0_entryAt, Cond.static yX0_entryAt, Cond.code yX0_entryAt cX0_entryAt 3 (some .int), Cond.constantLong RX0 143 (15), Cond.methodLink RX0 65 yX0_wrap, Cond.static yX0_wrap, Cond.code yX0_wrap cX0_wrap 1 (some .int), Cond.methodLink RX0 147 yJ9_floorMod_7cf53, Cond.static yJ9_floorMod_7cf53, Cond.initialized RJ9, Cond.code yJ9_floorMod_7cf53 cJ9_floorMod_7cf53 3 (some .int), Cond.methodLink RX0 9 yX0_withEntry, Cond.static yX0_withEntry, Cond.code yX0_withEntry cX0_withEntry 5 (some .long), Cond.constantLong RX0 145 (-1), Cond.methodLink RX0 58 yX0_replaceRow]
def wsL_take_r3 : List Cond := [Cond.instanceMethod yX0_replaceRow, Cond.selects RX0 yX0_replaceRow yX0_replaceRow, Cond.code yX0_replaceRow cX0_replaceRow 4 (some .int), Cond.methodLink RX0 43 yX0_setRow, Cond.instanceMethod yX0_setRow, Cond.selects RX0 yX0_setRow yX0_setRow, Cond.code yX0_setRow cX0_setRow 4 none]
def wsL_take : List Cond := .codeWith yL_take cL_take 7 (some .int) [(0, 14, 17, 13), (0, 14, 21, 15)] :: ((wsL_take_r1 ++ (wsL_take_r2 ++ wsL_take_r3)) ++ wsX00 ++ (vx_atS RX0 131 "java/lang/IndexOutOfBoundsException" ["java/lang/RuntimeException", "java/lang/Exception"]).filter goodWord ++ (vx_atS RX0 138 "java/lang/IllegalArgumentException" ["java/lang/RuntimeException", "java/lang/Exception"]).filter goodWord)
def wsL_multiply_r1 : List Cond := [Cond.classLink RL 13 "java/lang/IndexOutOfBoundsException", Cond.classLink RL 15 "java/lang/IllegalArgumentException", Cond.methodLink RL 21 yX0_multiply, Cond.instanceMethod yX0_multiply, Cond.selects RX0 yX0_multiply yX0_multiply, Cond.initialized RX0, Cond.code yX0_multiply cX0_multiply 8 (some .int), Cond.methodLink RX0 20 yX0_requireRow, Cond.static yX0_requireRow, Cond.code yX0_requireRow cX0_requireRow 1 none, Cond.classLink RX0 127 "java/lang/IndexOutOfBoundsException", Cond.initialized "java/lang/IndexOutOfBoundsException", Cond.methodLink RX0 62 yX0_requireFactor, Cond.static yX0_requireFactor, Cond.code yX0_requireFactor cX0_requireFactor 1 none, Cond.classLink RX0 134 "java/lang/IllegalArgumentException", Cond.initialized "java/lang/IllegalArgumentException", Cond.methodLink RX0 32 yX0_rowAt, Cond.instanceMethod yX0_rowAt, Cond.selects RX0 yX0_rowAt yX0_rowAt, Cond.code yX0_rowAt cX0_rowAt 2 (some .long), Cond.fieldLink RX0 13 "ToneRows" "row0" "J", Cond.fieldLink RX0 17 "ToneRows" "row1" "J", Cond.methodLink RX0 36 yX0_entryAt]
def wsL_multiply_r2 : List Cond := [Cond.static yX0_entryAt, Cond.code yX0_entryAt cX0_entryAt 3 (some .int), Cond.constantLong RX0 143 (15), Cond.methodLink RX0 65 yX0_wrap, Cond.static yX0_wrap, Cond.code yX0_wrap cX0_wrap 1 (some .int), Cond.methodLink RX0 147 yJ9_floorMod_7cf53, Cond.static yJ9_floorMod_7cf53, Cond.initialized RJ9, Cond.code yJ9_floorMod_7cf53 cJ9_floorMod_7cf53 3 (some .int), Cond.methodLink RX0 9 yX0_withEntry, Cond.static yX0_withEntry, Cond.code yX0_withEntry cX0_withEntry 5 (some .long), Cond.constantLong RX0 145 (-1), Cond.methodLink RX0 58 yX0_replaceRow, Cond.instanceMethod yX0_replaceRow, Cond.selects RX0 yX0_replaceRow yX0_replaceRow, Cond.code yX0_replaceRow cX0_replaceRow 4 (some .int), Cond.methodLink RX0 43 yX0_setRow, Cond.instanceMethod yX0_setRow, Cond.selects RX0 yX0_setRow yX0_setRow, Cond.code yX0_setRow cX0_setRow 4 none]
def wsL_multiply : List Cond := .codeWith yL_multiply cL_multiply 5 (some .int) [(0, 10, 13, 13), (0, 10, 17, 15)] :: ((wsL_multiply_r1 ++ wsL_multiply_r2) ++ wsX00 ++ (vx_atS RX0 131 "java/lang/IndexOutOfBoundsException" ["java/lang/RuntimeException", "java/lang/Exception"]).filter goodWord ++ (vx_atS RX0 138 "java/lang/IllegalArgumentException" ["java/lang/RuntimeException", "java/lang/Exception"]).filter goodWord)
def wsL_rotate_r1 : List Cond := [Cond.classLink RL 13 "java/lang/IndexOutOfBoundsException", Cond.classLink RL 15 "java/lang/IllegalArgumentException", Cond.methodLink RL 25 yX0_rotate, Cond.instanceMethod yX0_rotate, Cond.selects RX0 yX0_rotate yX0_rotate, Cond.initialized RX0, Cond.code yX0_rotate cX0_rotate 8 (some .int), Cond.methodLink RX0 20 yX0_requireRow, Cond.static yX0_requireRow, Cond.code yX0_requireRow cX0_requireRow 1 none, Cond.classLink RX0 127 "java/lang/IndexOutOfBoundsException", Cond.initialized "java/lang/IndexOutOfBoundsException", Cond.methodLink RX0 28 yX0_requireRange, Cond.static yX0_requireRange, Cond.code yX0_requireRange cX0_requireRange 3 none, Cond.classLink RX0 134 "java/lang/IllegalArgumentException", Cond.initialized "java/lang/IllegalArgumentException", Cond.methodLink RX0 32 yX0_rowAt, Cond.instanceMethod yX0_rowAt, Cond.selects RX0 yX0_rowAt yX0_rowAt, Cond.code yX0_rowAt cX0_rowAt 2 (some .long), Cond.fieldLink RX0 13 "ToneRows" "row0" "J", Cond.fieldLink RX0 17 "ToneRows" "row1" "J", Cond.methodLink RX0 65 yX0_wrap]
def wsL_rotate_r2 : List Cond := [Cond.static yX0_wrap, Cond.code yX0_wrap cX0_wrap 1 (some .int), Cond.methodLink RX0 147 yJ9_floorMod_7cf53, Cond.static yJ9_floorMod_7cf53, Cond.initialized RJ9, Cond.code yJ9_floorMod_7cf53 cJ9_floorMod_7cf53 3 (some .int), Cond.methodLink RX0 36 yX0_entryAt, Cond.static yX0_entryAt, Cond.code yX0_entryAt cX0_entryAt 3 (some .int), Cond.constantLong RX0 143 (15), Cond.methodLink RX0 9 yX0_withEntry, Cond.static yX0_withEntry, Cond.code yX0_withEntry cX0_withEntry 5 (some .long), Cond.constantLong RX0 145 (-1), Cond.methodLink RX0 58 yX0_replaceRow, Cond.instanceMethod yX0_replaceRow, Cond.selects RX0 yX0_replaceRow yX0_replaceRow, Cond.code yX0_replaceRow cX0_replaceRow 4 (some .int), Cond.methodLink RX0 43 yX0_setRow, Cond.instanceMethod yX0_setRow, Cond.selects RX0 yX0_setRow yX0_setRow, Cond.code yX0_setRow cX0_setRow 4 none]
def wsL_rotate : List Cond := .codeWith yL_rotate cL_rotate 5 (some .int) [(0, 10, 13, 13), (0, 10, 17, 15)] :: ((wsL_rotate_r1 ++ wsL_rotate_r2) ++ wsX00 ++ (vx_atS RX0 131 "java/lang/IndexOutOfBoundsException" ["java/lang/RuntimeException", "java/lang/Exception"]).filter goodWord ++ (vx_atS RX0 138 "java/lang/IllegalArgumentException" ["java/lang/RuntimeException", "java/lang/Exception"]).filter goodWord)
def wsL_tone : List Cond := .codeWith yL_tone cL_tone 5 (some .int) [(0, 10, 13, 13)] :: ([.classLink RL 13 "java/lang/IndexOutOfBoundsException", .methodLink RL 28 yX0_tone, .instanceMethod yX0_tone, .selects RX0 yX0_tone yX0_tone, .initialized RX0, .code yX0_tone cX0_tone 3 (some .int), .methodLink RX0 20 yX0_requireRow, .static yX0_requireRow, .code yX0_requireRow cX0_requireRow 1 none, .classLink RX0 127 "java/lang/IndexOutOfBoundsException", .initialized "java/lang/IndexOutOfBoundsException", .methodLink RX0 24 yX0_requirePlace, .static yX0_requirePlace, .code yX0_requirePlace cX0_requirePlace 2 none, .methodLink RX0 32 yX0_rowAt, .instanceMethod yX0_rowAt, .selects RX0 yX0_rowAt yX0_rowAt, .code yX0_rowAt cX0_rowAt 2 (some .long), .fieldLink RX0 13 "ToneRows" "row0" "J", .fieldLink RX0 17 "ToneRows" "row1" "J", .methodLink RX0 36 yX0_entryAt, .static yX0_entryAt, .code yX0_entryAt cX0_entryAt 3 (some .int), .constantLong RX0 143 (15)] ++ wsX00 ++ (vx_atS RX0 131 "java/lang/IndexOutOfBoundsException" ["java/lang/RuntimeException", "java/lang/Exception"]).filter goodWord)
def wsL_interval_r1 : List Cond := [Cond.classLink RL 13 "java/lang/IndexOutOfBoundsException", Cond.methodLink RL 31 yX0_interval, Cond.instanceMethod yX0_interval, Cond.selects RX0 yX0_interval yX0_interval, Cond.initialized RX0, Cond.code yX0_interval cX0_interval 3 (some .int), Cond.methodLink RX0 20 yX0_requireRow, Cond.static yX0_requireRow, Cond.code yX0_requireRow cX0_requireRow 1 none, Cond.classLink RX0 127 "java/lang/IndexOutOfBoundsException", Cond.initialized "java/lang/IndexOutOfBoundsException", Cond.methodLink RX0 24 yX0_requirePlace, Cond.static yX0_requirePlace, Cond.code yX0_requirePlace cX0_requirePlace 2 none, Cond.methodLink RX0 32 yX0_rowAt, Cond.instanceMethod yX0_rowAt, Cond.selects RX0 yX0_rowAt yX0_rowAt, Cond.code yX0_rowAt cX0_rowAt 2 (some .long), Cond.fieldLink RX0 13 "ToneRows" "row0" "J", Cond.fieldLink RX0 17 "ToneRows" "row1" "J", Cond.methodLink RX0 69 yX0_intervalAt, Cond.static yX0_intervalAt, Cond.code yX0_intervalAt cX0_intervalAt 3 (some .int), Cond.methodLink RX0 36 yX0_entryAt]
def wsL_interval_r2 : List Cond := [Cond.static yX0_entryAt, Cond.code yX0_entryAt cX0_entryAt 3 (some .int), Cond.constantLong RX0 143 (15), Cond.methodLink RX0 65 yX0_wrap, Cond.static yX0_wrap, Cond.code yX0_wrap cX0_wrap 1 (some .int), Cond.methodLink RX0 147 yJ9_floorMod_7cf53, Cond.static yJ9_floorMod_7cf53, Cond.initialized RJ9, Cond.code yJ9_floorMod_7cf53 cJ9_floorMod_7cf53 3 (some .int)]
def wsL_interval : List Cond := .codeWith yL_interval cL_interval 5 (some .int) [(0, 10, 13, 13)] :: ((wsL_interval_r1 ++ wsL_interval_r2) ++ wsX00 ++ (vx_atS RX0 131 "java/lang/IndexOutOfBoundsException" ["java/lang/RuntimeException", "java/lang/Exception"]).filter goodWord)
def wsL_hasAllIntervals_r1 : List Cond := [Cond.classLink RL 13 "java/lang/IndexOutOfBoundsException", Cond.methodLink RL 34 yX0_hasAllIntervals, Cond.instanceMethod yX0_hasAllIntervals, Cond.selects RX0 yX0_hasAllIntervals yX0_hasAllIntervals, Cond.initialized RX0, Cond.code yX0_hasAllIntervals cX0_hasAllIntervals 6 (some .boolean), Cond.methodLink RX0 20 yX0_requireRow, Cond.static yX0_requireRow, Cond.code yX0_requireRow cX0_requireRow 1 none, Cond.classLink RX0 127 "java/lang/IndexOutOfBoundsException", Cond.initialized "java/lang/IndexOutOfBoundsException", Cond.methodLink RX0 32 yX0_rowAt, Cond.instanceMethod yX0_rowAt, Cond.selects RX0 yX0_rowAt yX0_rowAt, Cond.code yX0_rowAt cX0_rowAt 2 (some .long), Cond.fieldLink RX0 13 "ToneRows" "row0" "J", Cond.fieldLink RX0 17 "ToneRows" "row1" "J", Cond.methodLink RX0 69 yX0_intervalAt, Cond.static yX0_intervalAt, Cond.code yX0_intervalAt cX0_intervalAt 3 (some .int), Cond.methodLink RX0 36 yX0_entryAt, Cond.static yX0_entryAt, Cond.code yX0_entryAt cX0_entryAt 3 (some .int), Cond.constantLong RX0 143 (15)]
def wsL_hasAllIntervals_r2 : List Cond := [Cond.methodLink RX0 65 yX0_wrap, Cond.static yX0_wrap, Cond.code yX0_wrap cX0_wrap 1 (some .int), Cond.methodLink RX0 147 yJ9_floorMod_7cf53, Cond.static yJ9_floorMod_7cf53, Cond.initialized RJ9, Cond.code yJ9_floorMod_7cf53 cJ9_floorMod_7cf53 3 (some .int), Cond.methodLink RX0 72 yJ6_bitCount_0f7a4, Cond.static yJ6_bitCount_0f7a4, Cond.initialized RJ6, Cond.code yJ6_bitCount_0f7a4 cJ6_bitCount_0f7a4 1 (some .int), Cond.constant RJ6 265 (1431655765), Cond.constant RJ6 266 (858993459), Cond.constant RJ6 267 (252645135)]
def wsL_hasAllIntervals : List Cond := .codeWith yL_hasAllIntervals cL_hasAllIntervals 4 (some .int) [(0, 16, 19, 13)] :: ((wsL_hasAllIntervals_r1 ++ wsL_hasAllIntervals_r2) ++ wsX00 ++ (vx_atS RX0 131 "java/lang/IndexOutOfBoundsException" ["java/lang/RuntimeException", "java/lang/Exception"]).filter goodWord)
def wsL_toneOf_r1 : List Cond := [Cond.classLink RL 13 "java/lang/IndexOutOfBoundsException", Cond.classLink RL 15 "java/lang/IllegalArgumentException", Cond.methodLink RL 38 yX0_toneOf, Cond.instanceMethod yX0_toneOf, Cond.selects RX0 yX0_toneOf yX0_toneOf, Cond.initialized RX0, Cond.code yX0_toneOf cX0_toneOf 5 (some .int), Cond.methodLink RX0 20 yX0_requireRow, Cond.static yX0_requireRow, Cond.code yX0_requireRow cX0_requireRow 1 none, Cond.classLink RX0 127 "java/lang/IndexOutOfBoundsException", Cond.initialized "java/lang/IndexOutOfBoundsException", Cond.methodLink RX0 24 yX0_requirePlace, Cond.static yX0_requirePlace, Cond.code yX0_requirePlace cX0_requirePlace 2 none, Cond.methodLink RX0 47 yX0_requireForm, Cond.static yX0_requireForm, Cond.code yX0_requireForm cX0_requireForm 2 none, Cond.methodLink RX0 28 yX0_requireRange, Cond.static yX0_requireRange, Cond.code yX0_requireRange cX0_requireRange 3 none, Cond.classLink RX0 134 "java/lang/IllegalArgumentException", Cond.initialized "java/lang/IllegalArgumentException", Cond.methodLink RX0 32 yX0_rowAt]
def wsL_toneOf_r2 : List Cond := [Cond.instanceMethod yX0_rowAt, Cond.selects RX0 yX0_rowAt yX0_rowAt, Cond.code yX0_rowAt cX0_rowAt 2 (some .long), Cond.fieldLink RX0 13 "ToneRows" "row0" "J", Cond.fieldLink RX0 17 "ToneRows" "row1" "J", Cond.methodLink RX0 50 yX0_codeOf, Cond.static yX0_codeOf, Cond.code yX0_codeOf cX0_codeOf 2 (some .int), Cond.methodLink RX0 54 yX0_formWith, Cond.static yX0_formWith, Cond.code yX0_formWith cX0_formWith 13 (some .long), Cond.methodLink RX0 36 yX0_entryAt, Cond.static yX0_entryAt, Cond.code yX0_entryAt cX0_entryAt 3 (some .int), Cond.constantLong RX0 143 (15), Cond.methodLink RX0 65 yX0_wrap, Cond.static yX0_wrap, Cond.code yX0_wrap cX0_wrap 1 (some .int), Cond.methodLink RX0 147 yJ9_floorMod_7cf53, Cond.static yJ9_floorMod_7cf53, Cond.initialized RJ9, Cond.code yJ9_floorMod_7cf53 cJ9_floorMod_7cf53 3 (some .int), Cond.methodLink RX0 9 yX0_withEntry, Cond.static yX0_withEntry]
def wsL_toneOf_r3 : List Cond := [Cond.code yX0_withEntry cX0_withEntry 5 (some .long), Cond.constantLong RX0 145 (-1)]
def wsL_toneOf : List Cond := .codeWith yL_toneOf cL_toneOf 7 (some .int) [(0, 14, 17, 13), (0, 14, 21, 15)] :: ((wsL_toneOf_r1 ++ (wsL_toneOf_r2 ++ wsL_toneOf_r3)) ++ wsX00 ++ (vx_atS RX0 131 "java/lang/IndexOutOfBoundsException" ["java/lang/RuntimeException", "java/lang/Exception"]).filter goodWord ++ (vx_atS RX0 138 "java/lang/IllegalArgumentException" ["java/lang/RuntimeException", "java/lang/Exception"]).filter goodWord)
def wsL_matrix_r1 : List Cond := [Cond.classLink RL 13 "java/lang/IndexOutOfBoundsException", Cond.methodLink RL 41 yX0_matrix, Cond.instanceMethod yX0_matrix, Cond.selects RX0 yX0_matrix yX0_matrix, Cond.initialized RX0, Cond.code yX0_matrix cX0_matrix 8 (some .int), Cond.methodLink RX0 20 yX0_requireRow, Cond.static yX0_requireRow, Cond.code yX0_requireRow cX0_requireRow 1 none, Cond.classLink RX0 127 "java/lang/IndexOutOfBoundsException", Cond.initialized "java/lang/IndexOutOfBoundsException", Cond.methodLink RX0 24 yX0_requirePlace, Cond.static yX0_requirePlace, Cond.code yX0_requirePlace cX0_requirePlace 2 none, Cond.methodLink RX0 32 yX0_rowAt, Cond.instanceMethod yX0_rowAt, Cond.selects RX0 yX0_rowAt yX0_rowAt, Cond.code yX0_rowAt cX0_rowAt 2 (some .long), Cond.fieldLink RX0 13 "ToneRows" "row0" "J", Cond.fieldLink RX0 17 "ToneRows" "row1" "J", Cond.methodLink RX0 36 yX0_entryAt, Cond.static yX0_entryAt, Cond.code yX0_entryAt cX0_entryAt 3 (some .int), Cond.constantLong RX0 143 (15)]
def wsL_matrix_r2 : List Cond := [Cond.methodLink RX0 65 yX0_wrap, Cond.static yX0_wrap, Cond.code yX0_wrap cX0_wrap 1 (some .int), Cond.methodLink RX0 147 yJ9_floorMod_7cf53, Cond.static yJ9_floorMod_7cf53, Cond.initialized RJ9, Cond.code yJ9_floorMod_7cf53 cJ9_floorMod_7cf53 3 (some .int)]
def wsL_matrix : List Cond := .codeWith yL_matrix cL_matrix 6 (some .int) [(0, 12, 15, 13)] :: ((wsL_matrix_r1 ++ wsL_matrix_r2) ++ wsX00 ++ (vx_atS RX0 131 "java/lang/IndexOutOfBoundsException" ["java/lang/RuntimeException", "java/lang/Exception"]).filter goodWord)
def wsL_differentForms_r1 : List Cond := [Cond.classLink RL 13 "java/lang/IndexOutOfBoundsException", Cond.methodLink RL 44 yX0_differentForms, Cond.instanceMethod yX0_differentForms, Cond.selects RX0 yX0_differentForms yX0_differentForms, Cond.initialized RX0, Cond.code yX0_differentForms cX0_differentForms 7 (some .int), Cond.methodLink RX0 20 yX0_requireRow, Cond.static yX0_requireRow, Cond.code yX0_requireRow cX0_requireRow 1 none, Cond.classLink RX0 127 "java/lang/IndexOutOfBoundsException", Cond.initialized "java/lang/IndexOutOfBoundsException", Cond.methodLink RX0 32 yX0_rowAt, Cond.instanceMethod yX0_rowAt, Cond.selects RX0 yX0_rowAt yX0_rowAt, Cond.code yX0_rowAt cX0_rowAt 2 (some .long), Cond.fieldLink RX0 13 "ToneRows" "row0" "J", Cond.fieldLink RX0 17 "ToneRows" "row1" "J", Cond.methodLink RX0 50 yX0_codeOf, Cond.static yX0_codeOf, Cond.code yX0_codeOf cX0_codeOf 2 (some .int), Cond.methodLink RX0 54 yX0_formWith, Cond.static yX0_formWith, Cond.code yX0_formWith cX0_formWith 13 (some .long), Cond.methodLink RX0 36 yX0_entryAt]
def wsL_differentForms_r2 : List Cond := [Cond.static yX0_entryAt, Cond.code yX0_entryAt cX0_entryAt 3 (some .int), Cond.constantLong RX0 143 (15), Cond.methodLink RX0 65 yX0_wrap, Cond.static yX0_wrap, Cond.code yX0_wrap cX0_wrap 1 (some .int), Cond.methodLink RX0 147 yJ9_floorMod_7cf53, Cond.static yJ9_floorMod_7cf53, Cond.initialized RJ9, Cond.code yJ9_floorMod_7cf53 cJ9_floorMod_7cf53 3 (some .int), Cond.methodLink RX0 9 yX0_withEntry, Cond.static yX0_withEntry, Cond.code yX0_withEntry cX0_withEntry 5 (some .long), Cond.constantLong RX0 145 (-1)]
def wsL_differentForms : List Cond := .codeWith yL_differentForms cL_differentForms 4 (some .int) [(0, 9, 12, 13)] :: ((wsL_differentForms_r1 ++ wsL_differentForms_r2) ++ wsX00 ++ (vx_atS RX0 131 "java/lang/IndexOutOfBoundsException" ["java/lang/RuntimeException", "java/lang/Exception"]).filter goodWord)
def wsL_formOfOther_r1 : List Cond := [Cond.classLink RL 13 "java/lang/IndexOutOfBoundsException", Cond.methodLink RL 48 yX0_formOfOther, Cond.instanceMethod yX0_formOfOther, Cond.selects RX0 yX0_formOfOther yX0_formOfOther, Cond.initialized RX0, Cond.code yX0_formOfOther cX0_formOfOther 7 (some .int), Cond.methodLink RX0 20 yX0_requireRow, Cond.static yX0_requireRow, Cond.code yX0_requireRow cX0_requireRow 1 none, Cond.classLink RX0 127 "java/lang/IndexOutOfBoundsException", Cond.initialized "java/lang/IndexOutOfBoundsException", Cond.methodLink RX0 32 yX0_rowAt, Cond.instanceMethod yX0_rowAt, Cond.selects RX0 yX0_rowAt yX0_rowAt, Cond.code yX0_rowAt cX0_rowAt 2 (some .long), Cond.fieldLink RX0 13 "ToneRows" "row0" "J", Cond.fieldLink RX0 17 "ToneRows" "row1" "J", Cond.methodLink RX0 54 yX0_formWith, Cond.static yX0_formWith, Cond.code yX0_formWith cX0_formWith 13 (some .long), Cond.methodLink RX0 36 yX0_entryAt, Cond.static yX0_entryAt, Cond.code yX0_entryAt cX0_entryAt 3 (some .int), Cond.constantLong RX0 143 (15)]
def wsL_formOfOther_r2 : List Cond := [Cond.methodLink RX0 65 yX0_wrap, Cond.static yX0_wrap, Cond.code yX0_wrap cX0_wrap 1 (some .int), Cond.methodLink RX0 147 yJ9_floorMod_7cf53, Cond.static yJ9_floorMod_7cf53, Cond.initialized RJ9, Cond.code yJ9_floorMod_7cf53 cJ9_floorMod_7cf53 3 (some .int), Cond.methodLink RX0 9 yX0_withEntry, Cond.static yX0_withEntry, Cond.code yX0_withEntry cX0_withEntry 5 (some .long), Cond.constantLong RX0 145 (-1)]
def wsL_formOfOther : List Cond := .codeWith yL_formOfOther cL_formOfOther 4 (some .int) [(0, 9, 12, 13)] :: ((wsL_formOfOther_r1 ++ wsL_formOfOther_r2) ++ wsX00 ++ (vx_atS RX0 131 "java/lang/IndexOutOfBoundsException" ["java/lang/RuntimeException", "java/lang/Exception"]).filter goodWord)
def wsL_segment_r1 : List Cond := [Cond.classLink RL 13 "java/lang/IndexOutOfBoundsException", Cond.classLink RL 15 "java/lang/IllegalArgumentException", Cond.methodLink RL 51 yX0_segment, Cond.instanceMethod yX0_segment, Cond.selects RX0 yX0_segment yX0_segment, Cond.initialized RX0, Cond.code yX0_segment cX0_segment 4 (some .int), Cond.methodLink RX0 20 yX0_requireRow, Cond.static yX0_requireRow, Cond.code yX0_requireRow cX0_requireRow 1 none, Cond.classLink RX0 127 "java/lang/IndexOutOfBoundsException", Cond.initialized "java/lang/IndexOutOfBoundsException", Cond.methodLink RX0 24 yX0_requirePlace, Cond.static yX0_requirePlace, Cond.code yX0_requirePlace cX0_requirePlace 2 none, Cond.methodLink RX0 28 yX0_requireRange, Cond.static yX0_requireRange, Cond.code yX0_requireRange cX0_requireRange 3 none, Cond.classLink RX0 134 "java/lang/IllegalArgumentException", Cond.initialized "java/lang/IllegalArgumentException", Cond.methodLink RX0 32 yX0_rowAt, Cond.instanceMethod yX0_rowAt, Cond.selects RX0 yX0_rowAt yX0_rowAt, Cond.code yX0_rowAt cX0_rowAt 2 (some .long)]
def wsL_segment_r2 : List Cond := [Cond.fieldLink RX0 13 "ToneRows" "row0" "J", Cond.fieldLink RX0 17 "ToneRows" "row1" "J", Cond.methodLink RX0 77 yX0_setOf, Cond.static yX0_setOf, Cond.code yX0_setOf cX0_setOf 6 (some .int), Cond.methodLink RX0 36 yX0_entryAt, Cond.static yX0_entryAt, Cond.code yX0_entryAt cX0_entryAt 3 (some .int), Cond.constantLong RX0 143 (15)]
def wsL_segment : List Cond := .codeWith yL_segment cL_segment 6 (some .int) [(0, 12, 15, 13), (0, 12, 19, 15)] :: ((wsL_segment_r1 ++ wsL_segment_r2) ++ wsX00 ++ (vx_atS RX0 131 "java/lang/IndexOutOfBoundsException" ["java/lang/RuntimeException", "java/lang/Exception"]).filter goodWord ++ (vx_atS RX0 138 "java/lang/IllegalArgumentException" ["java/lang/RuntimeException", "java/lang/Exception"]).filter goodWord)
def wsL_classOf_r1 : List Cond := [Cond.classLink RL 15 "java/lang/IllegalArgumentException", Cond.methodLink RL 54 yX0_classOf, Cond.instanceMethod yX0_classOf, Cond.selects RX0 yX0_classOf yX0_classOf, Cond.initialized RX0, Cond.code yX0_classOf cX0_classOf 2 (some .int), Cond.methodLink RX0 28 yX0_requireRange, Cond.static yX0_requireRange, Cond.code yX0_requireRange cX0_requireRange 3 none, Cond.classLink RX0 134 "java/lang/IllegalArgumentException", Cond.initialized "java/lang/IllegalArgumentException", Cond.methodLink RX0 81 yX0_leastLike, Cond.static yX0_leastLike, Cond.code yX0_leastLike cX0_leastLike 4 (some .int), Cond.methodLink RX0 153 Lib.Math.min.name, Cond.static Lib.Math.min.name, Cond.initialized "java/lang/Math", Cond.code Lib.Math.min.name Lib.Math.min.code 2 (some .int), Cond.methodLink RX0 150 yX0_inverted, Cond.static yX0_inverted, Cond.code yX0_inverted cX0_inverted 3 (some .int), Cond.methodLink RX0 65 yX0_wrap, Cond.static yX0_wrap, Cond.code yX0_wrap cX0_wrap 1 (some .int)]
def wsL_classOf_r2 : List Cond := [Cond.methodLink RX0 147 yJ9_floorMod_7cf53, Cond.static yJ9_floorMod_7cf53, Cond.initialized RJ9, Cond.code yJ9_floorMod_7cf53 cJ9_floorMod_7cf53 3 (some .int), Cond.methodLink RX0 84 yX0_transposed, Cond.static yX0_transposed, Cond.code yX0_transposed cX0_transposed 2 (some .int)]
def wsL_classOf : List Cond := .codeWith yL_classOf cL_classOf 4 (some .int) [(0, 9, 12, 15)] :: ((wsL_classOf_r1 ++ wsL_classOf_r2) ++ (vx_atS RX0 138 "java/lang/IllegalArgumentException" ["java/lang/RuntimeException", "java/lang/Exception"]).filter goodWord)
def wsL_pairs : List Cond := .codeWith yL_pairs cL_pairs 5 (some .int) [(0, 10, 13, 15)] :: ([.classLink RL 15 "java/lang/IllegalArgumentException", .methodLink RL 57 yX0_pairs, .instanceMethod yX0_pairs, .selects RX0 yX0_pairs yX0_pairs, .initialized RX0, .code yX0_pairs cX0_pairs 4 (some .int), .methodLink RX0 28 yX0_requireRange, .static yX0_requireRange, .code yX0_requireRange cX0_requireRange 3 none, .classLink RX0 134 "java/lang/IllegalArgumentException", .initialized "java/lang/IllegalArgumentException", .methodLink RX0 84 yX0_transposed, .static yX0_transposed, .code yX0_transposed cX0_transposed 2 (some .int), .methodLink RX0 72 yJ6_bitCount_0f7a4, .static yJ6_bitCount_0f7a4, .initialized RJ6, .code yJ6_bitCount_0f7a4 cJ6_bitCount_0f7a4 1 (some .int), .constant RJ6 265 (1431655765), .constant RJ6 266 (858993459), .constant RJ6 267 (252645135)] ++ (vx_atS RX0 138 "java/lang/IllegalArgumentException" ["java/lang/RuntimeException", "java/lang/Exception"]).filter goodWord)
def wsL_combining_r1 : List Cond := [Cond.classLink RL 13 "java/lang/IndexOutOfBoundsException", Cond.methodLink RL 60 yX0_combining, Cond.instanceMethod yX0_combining, Cond.selects RX0 yX0_combining yX0_combining, Cond.initialized RX0, Cond.code yX0_combining cX0_combining 8 (some .long), Cond.methodLink RX0 20 yX0_requireRow, Cond.static yX0_requireRow, Cond.code yX0_requireRow cX0_requireRow 1 none, Cond.classLink RX0 127 "java/lang/IndexOutOfBoundsException", Cond.initialized "java/lang/IndexOutOfBoundsException", Cond.methodLink RX0 32 yX0_rowAt, Cond.instanceMethod yX0_rowAt, Cond.selects RX0 yX0_rowAt yX0_rowAt, Cond.code yX0_rowAt cX0_rowAt 2 (some .long), Cond.fieldLink RX0 13 "ToneRows" "row0" "J", Cond.fieldLink RX0 17 "ToneRows" "row1" "J", Cond.methodLink RX0 77 yX0_setOf, Cond.static yX0_setOf, Cond.code yX0_setOf cX0_setOf 6 (some .int), Cond.methodLink RX0 36 yX0_entryAt, Cond.static yX0_entryAt, Cond.code yX0_entryAt cX0_entryAt 3 (some .int), Cond.constantLong RX0 143 (15)]
def wsL_combining_r2 : List Cond := [Cond.methodLink RX0 54 yX0_formWith, Cond.static yX0_formWith, Cond.code yX0_formWith cX0_formWith 13 (some .long), Cond.methodLink RX0 65 yX0_wrap, Cond.static yX0_wrap, Cond.code yX0_wrap cX0_wrap 1 (some .int), Cond.methodLink RX0 147 yJ9_floorMod_7cf53, Cond.static yJ9_floorMod_7cf53, Cond.initialized RJ9, Cond.code yJ9_floorMod_7cf53 cJ9_floorMod_7cf53 3 (some .int), Cond.methodLink RX0 9 yX0_withEntry, Cond.static yX0_withEntry, Cond.code yX0_withEntry cX0_withEntry 5 (some .long), Cond.constantLong RX0 145 (-1)]
def wsL_combining : List Cond := .codeWith yL_combining cL_combining 4 (some .int) [(0, 8, 11, 13)] :: ((wsL_combining_r1 ++ wsL_combining_r2) ++ wsX00 ++ (vx_atS RX0 131 "java/lang/IndexOutOfBoundsException" ["java/lang/RuntimeException", "java/lang/Exception"]).filter goodWord)
def wsL_isDerived_r1 : List Cond := [Cond.classLink RL 13 "java/lang/IndexOutOfBoundsException", Cond.classLink RL 15 "java/lang/IllegalArgumentException", Cond.methodLink RL 64 yX0_isDerived, Cond.instanceMethod yX0_isDerived, Cond.selects RX0 yX0_isDerived yX0_isDerived, Cond.initialized RX0, Cond.code yX0_isDerived cX0_isDerived 8 (some .boolean), Cond.methodLink RX0 20 yX0_requireRow, Cond.static yX0_requireRow, Cond.code yX0_requireRow cX0_requireRow 1 none, Cond.classLink RX0 127 "java/lang/IndexOutOfBoundsException", Cond.initialized "java/lang/IndexOutOfBoundsException", Cond.methodLink RX0 87 yX0_requireSize, Cond.static yX0_requireSize, Cond.code yX0_requireSize cX0_requireSize 1 none, Cond.classLink RX0 134 "java/lang/IllegalArgumentException", Cond.initialized "java/lang/IllegalArgumentException", Cond.methodLink RX0 32 yX0_rowAt, Cond.instanceMethod yX0_rowAt, Cond.selects RX0 yX0_rowAt yX0_rowAt, Cond.code yX0_rowAt cX0_rowAt 2 (some .long), Cond.fieldLink RX0 13 "ToneRows" "row0" "J", Cond.fieldLink RX0 17 "ToneRows" "row1" "J", Cond.methodLink RX0 77 yX0_setOf]
def wsL_isDerived_r2 : List Cond := [Cond.static yX0_setOf, Cond.code yX0_setOf cX0_setOf 6 (some .int), Cond.methodLink RX0 36 yX0_entryAt, Cond.static yX0_entryAt, Cond.code yX0_entryAt cX0_entryAt 3 (some .int), Cond.constantLong RX0 143 (15), Cond.methodLink RX0 81 yX0_leastLike, Cond.static yX0_leastLike, Cond.code yX0_leastLike cX0_leastLike 4 (some .int), Cond.methodLink RX0 153 Lib.Math.min.name, Cond.static Lib.Math.min.name, Cond.initialized "java/lang/Math", Cond.code Lib.Math.min.name Lib.Math.min.code 2 (some .int), Cond.methodLink RX0 150 yX0_inverted, Cond.static yX0_inverted, Cond.code yX0_inverted cX0_inverted 3 (some .int), Cond.methodLink RX0 65 yX0_wrap, Cond.static yX0_wrap, Cond.code yX0_wrap cX0_wrap 1 (some .int), Cond.methodLink RX0 147 yJ9_floorMod_7cf53, Cond.static yJ9_floorMod_7cf53, Cond.initialized RJ9, Cond.code yJ9_floorMod_7cf53 cJ9_floorMod_7cf53 3 (some .int), Cond.methodLink RX0 84 yX0_transposed]
def wsL_isDerived_r3 : List Cond := [Cond.static yX0_transposed, Cond.code yX0_transposed cX0_transposed 2 (some .int)]
def wsL_isDerived : List Cond := .codeWith yL_isDerived cL_isDerived 5 (some .int) [(0, 17, 20, 13), (0, 17, 24, 15)] :: ((wsL_isDerived_r1 ++ (wsL_isDerived_r2 ++ wsL_isDerived_r3)) ++ wsX00 ++ (vx_atS RX0 131 "java/lang/IndexOutOfBoundsException" ["java/lang/RuntimeException", "java/lang/Exception"]).filter goodWord ++ (vx_atS RX0 138 "java/lang/IllegalArgumentException" ["java/lang/RuntimeException", "java/lang/Exception"]).filter goodWord)
def wsL_keptSets_r1 : List Cond := [Cond.classLink RL 13 "java/lang/IndexOutOfBoundsException", Cond.classLink RL 15 "java/lang/IllegalArgumentException", Cond.methodLink RL 68 yX0_keptSets, Cond.instanceMethod yX0_keptSets, Cond.selects RX0 yX0_keptSets yX0_keptSets, Cond.initialized RX0, Cond.code yX0_keptSets cX0_keptSets 7 (some .int), Cond.methodLink RX0 20 yX0_requireRow, Cond.static yX0_requireRow, Cond.code yX0_requireRow cX0_requireRow 1 none, Cond.classLink RX0 127 "java/lang/IndexOutOfBoundsException", Cond.initialized "java/lang/IndexOutOfBoundsException", Cond.methodLink RX0 47 yX0_requireForm, Cond.static yX0_requireForm, Cond.code yX0_requireForm cX0_requireForm 2 none, Cond.methodLink RX0 28 yX0_requireRange, Cond.static yX0_requireRange, Cond.code yX0_requireRange cX0_requireRange 3 none, Cond.classLink RX0 134 "java/lang/IllegalArgumentException", Cond.initialized "java/lang/IllegalArgumentException", Cond.methodLink RX0 32 yX0_rowAt, Cond.instanceMethod yX0_rowAt, Cond.selects RX0 yX0_rowAt yX0_rowAt, Cond.code yX0_rowAt cX0_rowAt 2 (some .long)]
def wsL_keptSets_r2 : List Cond := [Cond.fieldLink RX0 13 "ToneRows" "row0" "J", Cond.fieldLink RX0 17 "ToneRows" "row1" "J", Cond.methodLink RX0 50 yX0_codeOf, Cond.static yX0_codeOf, Cond.code yX0_codeOf cX0_codeOf 2 (some .int), Cond.methodLink RX0 54 yX0_formWith, Cond.static yX0_formWith, Cond.code yX0_formWith cX0_formWith 13 (some .long), Cond.methodLink RX0 36 yX0_entryAt, Cond.static yX0_entryAt, Cond.code yX0_entryAt cX0_entryAt 3 (some .int), Cond.constantLong RX0 143 (15), Cond.methodLink RX0 65 yX0_wrap, Cond.static yX0_wrap, Cond.code yX0_wrap cX0_wrap 1 (some .int), Cond.methodLink RX0 147 yJ9_floorMod_7cf53, Cond.static yJ9_floorMod_7cf53, Cond.initialized RJ9, Cond.code yJ9_floorMod_7cf53 cJ9_floorMod_7cf53 3 (some .int), Cond.methodLink RX0 9 yX0_withEntry, Cond.static yX0_withEntry, Cond.code yX0_withEntry cX0_withEntry 5 (some .long), Cond.constantLong RX0 145 (-1), Cond.methodLink RX0 90 yX0_countKept]
def wsL_keptSets_r3 : List Cond := [Cond.static yX0_countKept, Cond.code yX0_countKept cX0_countKept 9 (some .int), Cond.methodLink RX0 94 yX0_placesOf, Cond.static yX0_placesOf, Cond.code yX0_placesOf cX0_placesOf 7 (some .long), Cond.methodLink RX0 40 yX0_placeIn, Cond.static yX0_placeIn, Cond.code yX0_placeIn cX0_placeIn 4 (some .int), Cond.methodLink RX0 156 yX0_areNeighbours, Cond.static yX0_areNeighbours, Cond.code yX0_areNeighbours cX0_areNeighbours 7 (some .boolean), Cond.methodLink RX0 153 Lib.Math.min.name, Cond.static Lib.Math.min.name, Cond.initialized "java/lang/Math", Cond.code Lib.Math.min.name Lib.Math.min.code 2 (some .int), Cond.methodLink RX0 98 Lib.Math.max.name, Cond.static Lib.Math.max.name, Cond.code Lib.Math.max.name Lib.Math.max.code 2 (some .int)]
def wsL_keptSets : List Cond := .codeWith yL_keptSets cL_keptSets 7 (some .int) [(0, 14, 17, 13), (0, 14, 21, 15)] :: ((wsL_keptSets_r1 ++ (wsL_keptSets_r2 ++ wsL_keptSets_r3)) ++ wsX00 ++ (vx_atS RX0 131 "java/lang/IndexOutOfBoundsException" ["java/lang/RuntimeException", "java/lang/Exception"]).filter goodWord ++ (vx_atS RX0 138 "java/lang/IllegalArgumentException" ["java/lang/RuntimeException", "java/lang/Exception"]).filter goodWord)
def wsL_longestKept_r1 : List Cond := [Cond.classLink RL 13 "java/lang/IndexOutOfBoundsException", Cond.classLink RL 15 "java/lang/IllegalArgumentException", Cond.methodLink RL 71 yX0_longestKept, Cond.instanceMethod yX0_longestKept, Cond.selects RX0 yX0_longestKept yX0_longestKept, Cond.initialized RX0, Cond.code yX0_longestKept cX0_longestKept 12 (some .int), Cond.methodLink RX0 98 Lib.Math.max.name, Cond.static Lib.Math.max.name, Cond.initialized "java/lang/Math", Cond.code Lib.Math.max.name Lib.Math.max.code 2 (some .int), Cond.methodLink RX0 20 yX0_requireRow, Cond.static yX0_requireRow, Cond.code yX0_requireRow cX0_requireRow 1 none, Cond.classLink RX0 127 "java/lang/IndexOutOfBoundsException", Cond.initialized "java/lang/IndexOutOfBoundsException", Cond.methodLink RX0 47 yX0_requireForm, Cond.static yX0_requireForm, Cond.code yX0_requireForm cX0_requireForm 2 none, Cond.methodLink RX0 28 yX0_requireRange, Cond.static yX0_requireRange, Cond.code yX0_requireRange cX0_requireRange 3 none, Cond.classLink RX0 134 "java/lang/IllegalArgumentException", Cond.initialized "java/lang/IllegalArgumentException"]
def wsL_longestKept_r2 : List Cond := [Cond.methodLink RX0 32 yX0_rowAt, Cond.instanceMethod yX0_rowAt, Cond.selects RX0 yX0_rowAt yX0_rowAt, Cond.code yX0_rowAt cX0_rowAt 2 (some .long), Cond.fieldLink RX0 13 "ToneRows" "row0" "J", Cond.fieldLink RX0 17 "ToneRows" "row1" "J", Cond.methodLink RX0 50 yX0_codeOf, Cond.static yX0_codeOf, Cond.code yX0_codeOf cX0_codeOf 2 (some .int), Cond.methodLink RX0 54 yX0_formWith, Cond.static yX0_formWith, Cond.code yX0_formWith cX0_formWith 13 (some .long), Cond.methodLink RX0 36 yX0_entryAt, Cond.static yX0_entryAt, Cond.code yX0_entryAt cX0_entryAt 3 (some .int), Cond.constantLong RX0 143 (15), Cond.methodLink RX0 65 yX0_wrap, Cond.static yX0_wrap, Cond.code yX0_wrap cX0_wrap 1 (some .int), Cond.methodLink RX0 147 yJ9_floorMod_7cf53, Cond.static yJ9_floorMod_7cf53, Cond.initialized RJ9, Cond.code yJ9_floorMod_7cf53 cJ9_floorMod_7cf53 3 (some .int), Cond.methodLink RX0 9 yX0_withEntry]
def wsL_longestKept_r3 : List Cond := [Cond.static yX0_withEntry, Cond.code yX0_withEntry cX0_withEntry 5 (some .long), Cond.constantLong RX0 145 (-1), Cond.methodLink RX0 94 yX0_placesOf, Cond.static yX0_placesOf, Cond.code yX0_placesOf cX0_placesOf 7 (some .long), Cond.methodLink RX0 40 yX0_placeIn, Cond.static yX0_placeIn, Cond.code yX0_placeIn cX0_placeIn 4 (some .int)]
def wsL_longestKept : List Cond := .codeWith yL_longestKept cL_longestKept 6 (some .int) [(0, 12, 15, 13), (0, 12, 19, 15)] :: ((wsL_longestKept_r1 ++ (wsL_longestKept_r2 ++ wsL_longestKept_r3)) ++ wsX00 ++ (vx_atS RX0 131 "java/lang/IndexOutOfBoundsException" ["java/lang/RuntimeException", "java/lang/Exception"]).filter goodWord ++ (vx_atS RX0 138 "java/lang/IllegalArgumentException" ["java/lang/RuntimeException", "java/lang/Exception"]).filter goodWord)
def wsL_mostKept_r1 : List Cond := [Cond.classLink RL 13 "java/lang/IndexOutOfBoundsException", Cond.classLink RL 15 "java/lang/IllegalArgumentException", Cond.methodLink RL 74 yX0_mostKept, Cond.instanceMethod yX0_mostKept, Cond.selects RX0 yX0_mostKept yX0_mostKept, Cond.initialized RX0, Cond.code yX0_mostKept cX0_mostKept 10 (some .int), Cond.methodLink RX0 20 yX0_requireRow, Cond.static yX0_requireRow, Cond.code yX0_requireRow cX0_requireRow 1 none, Cond.classLink RX0 127 "java/lang/IndexOutOfBoundsException", Cond.initialized "java/lang/IndexOutOfBoundsException", Cond.methodLink RX0 28 yX0_requireRange, Cond.static yX0_requireRange, Cond.code yX0_requireRange cX0_requireRange 3 none, Cond.classLink RX0 134 "java/lang/IllegalArgumentException", Cond.initialized "java/lang/IllegalArgumentException", Cond.methodLink RX0 32 yX0_rowAt, Cond.instanceMethod yX0_rowAt, Cond.selects RX0 yX0_rowAt yX0_rowAt, Cond.code yX0_rowAt cX0_rowAt 2 (some .long), Cond.fieldLink RX0 13 "ToneRows" "row0" "J", Cond.fieldLink RX0 17 "ToneRows" "row1" "J", Cond.methodLink RX0 36 yX0_entryAt]
def wsL_mostKept_r2 : List Cond := [Cond.static yX0_entryAt, Cond.code yX0_entryAt cX0_entryAt 3 (some .int), Cond.constantLong RX0 143 (15), Cond.methodLink RX0 50 yX0_codeOf, Cond.static yX0_codeOf, Cond.code yX0_codeOf cX0_codeOf 2 (some .int), Cond.methodLink RX0 54 yX0_formWith, Cond.static yX0_formWith, Cond.code yX0_formWith cX0_formWith 13 (some .long), Cond.methodLink RX0 65 yX0_wrap, Cond.static yX0_wrap, Cond.code yX0_wrap cX0_wrap 1 (some .int), Cond.methodLink RX0 147 yJ9_floorMod_7cf53, Cond.static yJ9_floorMod_7cf53, Cond.initialized RJ9, Cond.code yJ9_floorMod_7cf53 cJ9_floorMod_7cf53 3 (some .int), Cond.methodLink RX0 9 yX0_withEntry, Cond.static yX0_withEntry, Cond.code yX0_withEntry cX0_withEntry 5 (some .long), Cond.constantLong RX0 145 (-1), Cond.methodLink RX0 90 yX0_countKept, Cond.static yX0_countKept, Cond.code yX0_countKept cX0_countKept 9 (some .int), Cond.methodLink RX0 94 yX0_placesOf]
def wsL_mostKept_r3 : List Cond := [Cond.static yX0_placesOf, Cond.code yX0_placesOf cX0_placesOf 7 (some .long), Cond.methodLink RX0 40 yX0_placeIn, Cond.static yX0_placeIn, Cond.code yX0_placeIn cX0_placeIn 4 (some .int), Cond.methodLink RX0 156 yX0_areNeighbours, Cond.static yX0_areNeighbours, Cond.code yX0_areNeighbours cX0_areNeighbours 7 (some .boolean), Cond.methodLink RX0 153 Lib.Math.min.name, Cond.static Lib.Math.min.name, Cond.initialized "java/lang/Math", Cond.code Lib.Math.min.name Lib.Math.min.code 2 (some .int), Cond.methodLink RX0 98 Lib.Math.max.name, Cond.static Lib.Math.max.name, Cond.code Lib.Math.max.name Lib.Math.max.code 2 (some .int)]
def wsL_mostKept : List Cond := .codeWith yL_mostKept cL_mostKept 5 (some .int) [(0, 10, 13, 13), (0, 10, 17, 15)] :: ((wsL_mostKept_r1 ++ (wsL_mostKept_r2 ++ wsL_mostKept_r3)) ++ wsX00 ++ (vx_atS RX0 131 "java/lang/IndexOutOfBoundsException" ["java/lang/RuntimeException", "java/lang/Exception"]).filter goodWord ++ (vx_atS RX0 138 "java/lang/IllegalArgumentException" ["java/lang/RuntimeException", "java/lang/Exception"]).filter goodWord)
def wsL_cuts_r1 : List Cond := [Cond.classLink RL 15 "java/lang/IllegalArgumentException", Cond.methodLink RL 77 yX0_cuts, Cond.instanceMethod yX0_cuts, Cond.selects RX0 yX0_cuts yX0_cuts, Cond.initialized RX0, Cond.code yX0_cuts cX0_cuts 9 (some .int), Cond.fieldLink RX0 13 "ToneRows" "row0" "J", Cond.fieldLink RX0 17 "ToneRows" "row1" "J", Cond.methodLink RX0 28 yX0_requireRange, Cond.static yX0_requireRange, Cond.code yX0_requireRange cX0_requireRange 3 none, Cond.classLink RX0 134 "java/lang/IllegalArgumentException", Cond.initialized "java/lang/IllegalArgumentException", Cond.methodLink RX0 54 yX0_formWith, Cond.static yX0_formWith, Cond.code yX0_formWith cX0_formWith 13 (some .long), Cond.methodLink RX0 36 yX0_entryAt, Cond.static yX0_entryAt, Cond.code yX0_entryAt cX0_entryAt 3 (some .int), Cond.constantLong RX0 143 (15), Cond.methodLink RX0 65 yX0_wrap, Cond.static yX0_wrap, Cond.code yX0_wrap cX0_wrap 1 (some .int), Cond.methodLink RX0 147 yJ9_floorMod_7cf53]
def wsL_cuts_r2 : List Cond := [Cond.static yJ9_floorMod_7cf53, Cond.initialized RJ9, Cond.code yJ9_floorMod_7cf53 cJ9_floorMod_7cf53 3 (some .int), Cond.methodLink RX0 9 yX0_withEntry, Cond.static yX0_withEntry, Cond.code yX0_withEntry cX0_withEntry 5 (some .long), Cond.constantLong RX0 145 (-1), Cond.methodLink RX0 77 yX0_setOf, Cond.static yX0_setOf, Cond.code yX0_setOf cX0_setOf 6 (some .int)]
def wsL_cuts : List Cond := .codeWith yL_cuts cL_cuts 5 (some .int) [(0, 10, 13, 15)] :: ((wsL_cuts_r1 ++ wsL_cuts_r2) ++ wsX00 ++ (vx_atS RX0 138 "java/lang/IllegalArgumentException" ["java/lang/RuntimeException", "java/lang/Exception"]).filter goodWord)
def wsL_write_r1 : List Cond := [Cond.classLink RL 15 "java/lang/IllegalArgumentException", Cond.classLink RL 83 "java/lang/IllegalStateException", Cond.methodLink RL 80 yX0_write, Cond.instanceMethod yX0_write, Cond.selects RX0 yX0_write yX0_write, Cond.initialized RX0, Cond.code yX0_write cX0_write 2 (some .int), Cond.classLink RX0 107 "java/lang/IllegalStateException", Cond.initialized "java/lang/IllegalStateException", Cond.fieldLink RX0 114 "ToneRows" "phrase" "J", Cond.fieldLink RX0 117 "ToneRows" "phraseLength" "I", Cond.methodLink RX0 28 yX0_requireRange, Cond.static yX0_requireRange, Cond.code yX0_requireRange cX0_requireRange 3 none, Cond.classLink RX0 134 "java/lang/IllegalArgumentException", Cond.initialized "java/lang/IllegalArgumentException", Cond.methodLink RX0 103 yX0_phraseHas, Cond.instanceMethod yX0_phraseHas, Cond.selects RX0 yX0_phraseHas yX0_phraseHas, Cond.code yX0_phraseHas cX0_phraseHas 2 (some .boolean), Cond.methodLink RX0 77 yX0_setOf, Cond.static yX0_setOf, Cond.code yX0_setOf cX0_setOf 6 (some .int), Cond.methodLink RX0 36 yX0_entryAt]
def wsL_write_r2 : List Cond := [Cond.static yX0_entryAt, Cond.code yX0_entryAt cX0_entryAt 3 (some .int), Cond.constantLong RX0 143 (15), Cond.methodLink RX0 9 yX0_withEntry, Cond.static yX0_withEntry, Cond.code yX0_withEntry cX0_withEntry 5 (some .long), Cond.constantLong RX0 145 (-1)]
def wsL_write : List Cond := .codeWith yL_write cL_write 4 (some .int) [(0, 9, 12, 15), (0, 9, 15, 83)] :: ((wsL_write_r1 ++ wsL_write_r2) ++ wsX00 ++ (vx_atS RX0 111 "java/lang/IllegalStateException" ["java/lang/RuntimeException", "java/lang/Exception"]).filter goodWord ++ (vx_atS RX0 138 "java/lang/IllegalArgumentException" ["java/lang/RuntimeException", "java/lang/Exception"]).filter goodWord)
def wsL_formsWithPhrase_r1 : List Cond := [Cond.classLink RL 13 "java/lang/IndexOutOfBoundsException", Cond.methodLink RL 85 yX0_formsWithPhrase, Cond.instanceMethod yX0_formsWithPhrase, Cond.selects RX0 yX0_formsWithPhrase yX0_formsWithPhrase, Cond.initialized RX0, Cond.code yX0_formsWithPhrase cX0_formsWithPhrase 7 (some .long), Cond.fieldLink RX0 117 "ToneRows" "phraseLength" "I", Cond.constantLong RX0 121 (281474976710655), Cond.methodLink RX0 20 yX0_requireRow, Cond.static yX0_requireRow, Cond.code yX0_requireRow cX0_requireRow 1 none, Cond.classLink RX0 127 "java/lang/IndexOutOfBoundsException", Cond.initialized "java/lang/IndexOutOfBoundsException", Cond.methodLink RX0 32 yX0_rowAt, Cond.instanceMethod yX0_rowAt, Cond.selects RX0 yX0_rowAt yX0_rowAt, Cond.code yX0_rowAt cX0_rowAt 2 (some .long), Cond.fieldLink RX0 13 "ToneRows" "row0" "J", Cond.fieldLink RX0 17 "ToneRows" "row1" "J", Cond.methodLink RX0 54 yX0_formWith, Cond.static yX0_formWith, Cond.code yX0_formWith cX0_formWith 13 (some .long), Cond.methodLink RX0 36 yX0_entryAt, Cond.static yX0_entryAt]
def wsL_formsWithPhrase_r2 : List Cond := [Cond.code yX0_entryAt cX0_entryAt 3 (some .int), Cond.constantLong RX0 143 (15), Cond.methodLink RX0 65 yX0_wrap, Cond.static yX0_wrap, Cond.code yX0_wrap cX0_wrap 1 (some .int), Cond.methodLink RX0 147 yJ9_floorMod_7cf53, Cond.static yJ9_floorMod_7cf53, Cond.initialized RJ9, Cond.code yJ9_floorMod_7cf53 cJ9_floorMod_7cf53 3 (some .int), Cond.methodLink RX0 9 yX0_withEntry, Cond.static yX0_withEntry, Cond.code yX0_withEntry cX0_withEntry 5 (some .long), Cond.constantLong RX0 145 (-1), Cond.methodLink RX0 123 yX0_phraseBegin, Cond.instanceMethod yX0_phraseBegin, Cond.selects RX0 yX0_phraseBegin yX0_phraseBegin, Cond.code yX0_phraseBegin cX0_phraseBegin 5 (some .int), Cond.fieldLink RX0 114 "ToneRows" "phrase" "J", Cond.methodLink RX0 40 yX0_placeIn, Cond.static yX0_placeIn, Cond.code yX0_placeIn cX0_placeIn 4 (some .int)]
def wsL_formsWithPhrase : List Cond := .codeWith yL_formsWithPhrase cL_formsWithPhrase 4 (some .int) [(0, 8, 11, 13)] :: ((wsL_formsWithPhrase_r1 ++ wsL_formsWithPhrase_r2) ++ wsX00 ++ (vx_atS RX0 131 "java/lang/IndexOutOfBoundsException" ["java/lang/RuntimeException", "java/lang/Exception"]).filter goodWord)
def wsL_placeOfPhrase_r1 : List Cond := [Cond.classLink RL 13 "java/lang/IndexOutOfBoundsException", Cond.classLink RL 15 "java/lang/IllegalArgumentException", Cond.methodLink RL 88 yX0_placeOfPhrase, Cond.instanceMethod yX0_placeOfPhrase, Cond.selects RX0 yX0_placeOfPhrase yX0_placeOfPhrase, Cond.initialized RX0, Cond.code yX0_placeOfPhrase cX0_placeOfPhrase 3 (some .int), Cond.fieldLink RX0 117 "ToneRows" "phraseLength" "I", Cond.methodLink RX0 20 yX0_requireRow, Cond.static yX0_requireRow, Cond.code yX0_requireRow cX0_requireRow 1 none, Cond.classLink RX0 127 "java/lang/IndexOutOfBoundsException", Cond.initialized "java/lang/IndexOutOfBoundsException", Cond.methodLink RX0 28 yX0_requireRange, Cond.static yX0_requireRange, Cond.code yX0_requireRange cX0_requireRange 3 none, Cond.classLink RX0 134 "java/lang/IllegalArgumentException", Cond.initialized "java/lang/IllegalArgumentException", Cond.methodLink RX0 32 yX0_rowAt, Cond.instanceMethod yX0_rowAt, Cond.selects RX0 yX0_rowAt yX0_rowAt, Cond.code yX0_rowAt cX0_rowAt 2 (some .long), Cond.fieldLink RX0 13 "ToneRows" "row0" "J", Cond.fieldLink RX0 17 "ToneRows" "row1" "J"]
def wsL_placeOfPhrase_r2 : List Cond := [Cond.methodLink RX0 54 yX0_formWith, Cond.static yX0_formWith, Cond.code yX0_formWith cX0_formWith 13 (some .long), Cond.methodLink RX0 36 yX0_entryAt, Cond.static yX0_entryAt, Cond.code yX0_entryAt cX0_entryAt 3 (some .int), Cond.constantLong RX0 143 (15), Cond.methodLink RX0 65 yX0_wrap, Cond.static yX0_wrap, Cond.code yX0_wrap cX0_wrap 1 (some .int), Cond.methodLink RX0 147 yJ9_floorMod_7cf53, Cond.static yJ9_floorMod_7cf53, Cond.initialized RJ9, Cond.code yJ9_floorMod_7cf53 cJ9_floorMod_7cf53 3 (some .int), Cond.methodLink RX0 9 yX0_withEntry, Cond.static yX0_withEntry, Cond.code yX0_withEntry cX0_withEntry 5 (some .long), Cond.constantLong RX0 145 (-1), Cond.methodLink RX0 123 yX0_phraseBegin, Cond.instanceMethod yX0_phraseBegin, Cond.selects RX0 yX0_phraseBegin yX0_phraseBegin, Cond.code yX0_phraseBegin cX0_phraseBegin 5 (some .int), Cond.fieldLink RX0 114 "ToneRows" "phrase" "J", Cond.methodLink RX0 40 yX0_placeIn]
def wsL_placeOfPhrase_r3 : List Cond := [Cond.static yX0_placeIn, Cond.code yX0_placeIn cX0_placeIn 4 (some .int)]
def wsL_placeOfPhrase : List Cond := .codeWith yL_placeOfPhrase cL_placeOfPhrase 5 (some .int) [(0, 10, 13, 13), (0, 10, 17, 15)] :: ((wsL_placeOfPhrase_r1 ++ (wsL_placeOfPhrase_r2 ++ wsL_placeOfPhrase_r3)) ++ wsX00 ++ (vx_atS RX0 131 "java/lang/IndexOutOfBoundsException" ["java/lang/RuntimeException", "java/lang/Exception"]).filter goodWord ++ (vx_atS RX0 138 "java/lang/IllegalArgumentException" ["java/lang/RuntimeException", "java/lang/Exception"]).filter goodWord)
def wsL_complete_r1 : List Cond := [Cond.classLink RL 13 "java/lang/IndexOutOfBoundsException", Cond.methodLink RL 91 yX0_complete, Cond.instanceMethod yX0_complete, Cond.selects RX0 yX0_complete yX0_complete, Cond.initialized RX0, Cond.code yX0_complete cX0_complete 9 (some .int), Cond.fieldLink RX0 114 "ToneRows" "phrase" "J", Cond.fieldLink RX0 117 "ToneRows" "phraseLength" "I", Cond.methodLink RX0 20 yX0_requireRow, Cond.static yX0_requireRow, Cond.code yX0_requireRow cX0_requireRow 1 none, Cond.classLink RX0 127 "java/lang/IndexOutOfBoundsException", Cond.initialized "java/lang/IndexOutOfBoundsException", Cond.methodLink RX0 32 yX0_rowAt, Cond.instanceMethod yX0_rowAt, Cond.selects RX0 yX0_rowAt yX0_rowAt, Cond.code yX0_rowAt cX0_rowAt 2 (some .long), Cond.fieldLink RX0 13 "ToneRows" "row0" "J", Cond.fieldLink RX0 17 "ToneRows" "row1" "J", Cond.methodLink RX0 36 yX0_entryAt, Cond.static yX0_entryAt, Cond.code yX0_entryAt cX0_entryAt 3 (some .int), Cond.constantLong RX0 143 (15), Cond.methodLink RX0 103 yX0_phraseHas]
def wsL_complete_r2 : List Cond := [Cond.instanceMethod yX0_phraseHas, Cond.selects RX0 yX0_phraseHas yX0_phraseHas, Cond.code yX0_phraseHas cX0_phraseHas 2 (some .boolean), Cond.methodLink RX0 77 yX0_setOf, Cond.static yX0_setOf, Cond.code yX0_setOf cX0_setOf 6 (some .int), Cond.methodLink RX0 9 yX0_withEntry, Cond.static yX0_withEntry, Cond.code yX0_withEntry cX0_withEntry 5 (some .long), Cond.constantLong RX0 145 (-1), Cond.methodLink RX0 58 yX0_replaceRow, Cond.instanceMethod yX0_replaceRow, Cond.selects RX0 yX0_replaceRow yX0_replaceRow, Cond.code yX0_replaceRow cX0_replaceRow 4 (some .int), Cond.methodLink RX0 43 yX0_setRow, Cond.instanceMethod yX0_setRow, Cond.selects RX0 yX0_setRow yX0_setRow, Cond.code yX0_setRow cX0_setRow 4 none]
def wsL_complete : List Cond := .codeWith yL_complete cL_complete 4 (some .int) [(0, 9, 12, 13)] :: ((wsL_complete_r1 ++ wsL_complete_r2) ++ wsX00 ++ (vx_atS RX0 131 "java/lang/IndexOutOfBoundsException" ["java/lang/RuntimeException", "java/lang/Exception"]).filter goodWord)
def wsL_law0_r1 : List Cond := [Cond.classLink RL 8 RX0, Cond.instantiable RX0 4, Cond.initialized RX0, Cond.classLink RL 95 RX1, Cond.instantiable RX1 5, Cond.initialized RX1, Cond.arrayClass .long, Cond.methodLink RL 94 yX0_init, Cond.instanceMethod yX0_init, Cond.code yX0_init cX0_init 4 none, Cond.methodLink RX0 3 objectInit, Cond.instanceMethod objectInit, Cond.code objectInit ⟨#[0xb1]⟩ 1 none, Cond.fieldLink RX0 13 "ToneRows" "row0" "J", Cond.fieldLink RX0 17 "ToneRows" "row1" "J", Cond.methodLink RX0 9 yX0_withEntry, Cond.static yX0_withEntry, Cond.code yX0_withEntry cX0_withEntry 5 (some .long), Cond.constantLong RX0 143 (15), Cond.constantLong RX0 145 (-1), Cond.methodLink RL 97 yX1_init, Cond.instanceMethod yX1_init, Cond.code yX1_init cX1_init 2 none, Cond.methodLink RX1 1 objectInit]
def wsL_law0_r2 : List Cond := [Cond.arrayClass .int, Cond.fieldLink RX1 7 "ToneRowsModel" "tones" "[I", Cond.fieldLink RX1 13 "ToneRowsModel" "kept" "[I", Cond.fieldLink RX1 16 "ToneRowsModel" "phrase" "[I", Cond.methodLink RL 98 yL_put, Cond.static yL_put, Cond.initialized RL, Cond.codeWith yL_put cL_put 6 (some .int) [(0, 12, 15, 13), (0, 12, 19, 15)], Cond.classLink RL 13 "java/lang/IndexOutOfBoundsException", Cond.classLink RL 15 "java/lang/IllegalArgumentException", Cond.methodLink RL 7 yX0_put, Cond.instanceMethod yX0_put, Cond.selects RX0 yX0_put yX0_put, Cond.code yX0_put cX0_put 9 (some .int), Cond.methodLink RX0 20 yX0_requireRow, Cond.static yX0_requireRow, Cond.code yX0_requireRow cX0_requireRow 1 none, Cond.classLink RX0 127 "java/lang/IndexOutOfBoundsException", Cond.initialized "java/lang/IndexOutOfBoundsException", Cond.methodLink RX0 24 yX0_requirePlace, Cond.static yX0_requirePlace, Cond.code yX0_requirePlace cX0_requirePlace 2 none, Cond.methodLink RX0 28 yX0_requireRange, Cond.static yX0_requireRange]
def wsL_law0_r3 : List Cond := [Cond.code yX0_requireRange cX0_requireRange 3 none, Cond.classLink RX0 134 "java/lang/IllegalArgumentException", Cond.initialized "java/lang/IllegalArgumentException", Cond.methodLink RX0 32 yX0_rowAt, Cond.instanceMethod yX0_rowAt, Cond.selects RX0 yX0_rowAt yX0_rowAt, Cond.code yX0_rowAt cX0_rowAt 2 (some .long), Cond.methodLink RX0 36 yX0_entryAt, Cond.static yX0_entryAt, Cond.code yX0_entryAt cX0_entryAt 3 (some .int), Cond.methodLink RX0 40 yX0_placeIn, Cond.static yX0_placeIn, Cond.code yX0_placeIn cX0_placeIn 4 (some .int), Cond.methodLink RX0 43 yX0_setRow, Cond.instanceMethod yX0_setRow, Cond.selects RX0 yX0_setRow yX0_setRow, Cond.code yX0_setRow cX0_setRow 4 none, Cond.methodLink RL 103 yX1_put, Cond.instanceMethod yX1_put, Cond.selects RX1 yX1_put yX1_put, Cond.code yX1_put cX1_put 6 (some .int), Cond.methodLink RX1 39 yX1_isRow, Cond.static yX1_isRow, Cond.code yX1_isRow cX1_isRow 1 (some .boolean)]
def wsL_law0_r4 : List Cond := [Cond.methodLink RX1 27 yX1_isTone, Cond.static yX1_isTone, Cond.code yX1_isTone cX1_isTone 1 (some .boolean), Cond.methodLink RX1 23 yX1_in, Cond.static yX1_in, Cond.code yX1_in cX1_in 3 (some .boolean), Cond.methodLink RX1 42 yX1_goesWell, Cond.instanceMethod yX1_goesWell, Cond.selects RX1 yX1_goesWell yX1_goesWell, Cond.code yX1_goesWell cX1_goesWell 2 (some .boolean), Cond.fieldLink RX1 19 "ToneRowsModel" "thrown" "I", Cond.methodLink RX1 31 yX1_at, Cond.instanceMethod yX1_at, Cond.selects RX1 yX1_at yX1_at, Cond.code yX1_at cX1_at 3 (some .int), Cond.methodLink RL 104 yX1_thrown, Cond.instanceMethod yX1_thrown, Cond.selects RX1 yX1_thrown yX1_thrown, Cond.code yX1_thrown cX1_thrown 1 (some .int), Cond.methodLink RL 108 yL_take, Cond.static yL_take, Cond.codeWith yL_take cL_take 7 (some .int) [(0, 14, 17, 13), (0, 14, 21, 15)], Cond.methodLink RL 17 yX0_take, Cond.instanceMethod yX0_take]
def wsL_law0_r5 : List Cond := [Cond.selects RX0 yX0_take yX0_take, Cond.code yX0_take cX0_take 5 (some .int), Cond.methodLink RX0 47 yX0_requireForm, Cond.static yX0_requireForm, Cond.code yX0_requireForm cX0_requireForm 2 none, Cond.methodLink RX0 50 yX0_codeOf, Cond.static yX0_codeOf, Cond.code yX0_codeOf cX0_codeOf 2 (some .int), Cond.methodLink RX0 54 yX0_formWith, Cond.static yX0_formWith, Cond.code yX0_formWith cX0_formWith 13 (some .long), Cond.methodLink RX0 65 yX0_wrap, Cond.static yX0_wrap, Cond.code yX0_wrap cX0_wrap 1 (some .int), Cond.methodLink RX0 147 yJ9_floorMod_7cf53, Cond.static yJ9_floorMod_7cf53, Cond.initialized RJ9, Cond.code yJ9_floorMod_7cf53 cJ9_floorMod_7cf53 3 (some .int), Cond.methodLink RX0 58 yX0_replaceRow, Cond.instanceMethod yX0_replaceRow, Cond.selects RX0 yX0_replaceRow yX0_replaceRow, Cond.code yX0_replaceRow cX0_replaceRow 4 (some .int), Cond.methodLink RL 111 yX1_take, Cond.instanceMethod yX1_take]
def wsL_law0_r6 : List Cond := [Cond.selects RX1 yX1_take yX1_take, Cond.code yX1_take cX1_take 6 (some .int), Cond.methodLink RX1 45 yX1_isForm, Cond.static yX1_isForm, Cond.code yX1_isForm cX1_isForm 2 (some .boolean), Cond.methodLink RX1 49 yX1_codeOf, Cond.static yX1_codeOf, Cond.code yX1_codeOf cX1_codeOf 2 (some .int), Cond.methodLink RX1 52 yX1_formAt, Cond.instanceMethod yX1_formAt, Cond.selects RX1 yX1_formAt yX1_formAt, Cond.code yX1_formAt cX1_formAt 7 (some .int), Cond.methodLink RX1 35 yX1_modulo, Cond.static yX1_modulo, Cond.code yX1_modulo cX1_modulo 1 (some .int), Cond.methodLink RX1 56 yX1_lay, Cond.instanceMethod yX1_lay, Cond.selects RX1 yX1_lay yX1_lay, Cond.code yX1_lay cX1_lay 3 (some .int), Cond.methodLink RL 112 yL_multiply, Cond.static yL_multiply, Cond.codeWith yL_multiply cL_multiply 5 (some .int) [(0, 10, 13, 13), (0, 10, 17, 15)], Cond.methodLink RL 21 yX0_multiply, Cond.instanceMethod yX0_multiply]
def wsL_law0_r7 : List Cond := [Cond.selects RX0 yX0_multiply yX0_multiply, Cond.code yX0_multiply cX0_multiply 8 (some .int), Cond.methodLink RX0 62 yX0_requireFactor, Cond.static yX0_requireFactor, Cond.code yX0_requireFactor cX0_requireFactor 1 none, Cond.methodLink RL 115 yX1_multiply, Cond.instanceMethod yX1_multiply, Cond.selects RX1 yX1_multiply yX1_multiply, Cond.code yX1_multiply cX1_multiply 5 (some .int), Cond.methodLink RL 116 yL_rotate, Cond.static yL_rotate, Cond.codeWith yL_rotate cL_rotate 5 (some .int) [(0, 10, 13, 13), (0, 10, 17, 15)], Cond.methodLink RL 25 yX0_rotate, Cond.instanceMethod yX0_rotate, Cond.selects RX0 yX0_rotate yX0_rotate, Cond.code yX0_rotate cX0_rotate 8 (some .int), Cond.methodLink RL 118 yX1_rotate, Cond.instanceMethod yX1_rotate, Cond.selects RX1 yX1_rotate yX1_rotate, Cond.code yX1_rotate cX1_rotate 4 (some .int), Cond.methodLink RL 119 yL_tone, Cond.static yL_tone, Cond.codeWith yL_tone cL_tone 5 (some .int) [(0, 10, 13, 13)], Cond.methodLink RL 28 yX0_tone]
def wsL_law0_r8 : List Cond := [Cond.instanceMethod yX0_tone, Cond.selects RX0 yX0_tone yX0_tone, Cond.code yX0_tone cX0_tone 3 (some .int), Cond.methodLink RL 121 yX1_tone, Cond.instanceMethod yX1_tone, Cond.selects RX1 yX1_tone yX1_tone, Cond.code yX1_tone cX1_tone 3 (some .int), Cond.methodLink RL 122 yL_interval, Cond.static yL_interval, Cond.codeWith yL_interval cL_interval 5 (some .int) [(0, 10, 13, 13)], Cond.methodLink RL 31 yX0_interval, Cond.instanceMethod yX0_interval, Cond.selects RX0 yX0_interval yX0_interval, Cond.code yX0_interval cX0_interval 3 (some .int), Cond.methodLink RX0 69 yX0_intervalAt, Cond.static yX0_intervalAt, Cond.code yX0_intervalAt cX0_intervalAt 3 (some .int), Cond.methodLink RL 124 yX1_interval, Cond.instanceMethod yX1_interval, Cond.selects RX1 yX1_interval yX1_interval, Cond.code yX1_interval cX1_interval 3 (some .int), Cond.methodLink RX1 59 yX1_step, Cond.instanceMethod yX1_step, Cond.selects RX1 yX1_step yX1_step]
def wsL_law0_r9 : List Cond := [Cond.code yX1_step cX1_step 3 (some .int), Cond.methodLink RL 125 yL_hasAllIntervals, Cond.static yL_hasAllIntervals, Cond.codeWith yL_hasAllIntervals cL_hasAllIntervals 4 (some .int) [(0, 16, 19, 13)], Cond.methodLink RL 34 yX0_hasAllIntervals, Cond.instanceMethod yX0_hasAllIntervals, Cond.selects RX0 yX0_hasAllIntervals yX0_hasAllIntervals, Cond.code yX0_hasAllIntervals cX0_hasAllIntervals 6 (some .boolean), Cond.methodLink RX0 72 yJ6_bitCount_0f7a4, Cond.static yJ6_bitCount_0f7a4, Cond.initialized RJ6, Cond.code yJ6_bitCount_0f7a4 cJ6_bitCount_0f7a4 1 (some .int), Cond.constant RJ6 265 (1431655765), Cond.constant RJ6 266 (858993459), Cond.constant RJ6 267 (252645135), Cond.methodLink RL 128 yX1_hasAllIntervals, Cond.instanceMethod yX1_hasAllIntervals, Cond.selects RX1 yX1_hasAllIntervals yX1_hasAllIntervals, Cond.code yX1_hasAllIntervals cX1_hasAllIntervals 4 (some .boolean), Cond.methodLink RL 129 yL_toneOf, Cond.static yL_toneOf, Cond.codeWith yL_toneOf cL_toneOf 7 (some .int) [(0, 14, 17, 13), (0, 14, 21, 15)], Cond.methodLink RL 38 yX0_toneOf, Cond.instanceMethod yX0_toneOf]
def wsL_law0_r10 : List Cond := [Cond.selects RX0 yX0_toneOf yX0_toneOf, Cond.code yX0_toneOf cX0_toneOf 5 (some .int), Cond.methodLink RL 131 yX1_toneOf, Cond.instanceMethod yX1_toneOf, Cond.selects RX1 yX1_toneOf yX1_toneOf, Cond.code yX1_toneOf cX1_toneOf 5 (some .int), Cond.methodLink RL 132 yL_matrix, Cond.static yL_matrix, Cond.codeWith yL_matrix cL_matrix 6 (some .int) [(0, 12, 15, 13)], Cond.methodLink RL 41 yX0_matrix, Cond.instanceMethod yX0_matrix, Cond.selects RX0 yX0_matrix yX0_matrix, Cond.code yX0_matrix cX0_matrix 8 (some .int), Cond.methodLink RL 134 yX1_matrix, Cond.instanceMethod yX1_matrix, Cond.selects RX1 yX1_matrix yX1_matrix, Cond.code yX1_matrix cX1_matrix 5 (some .int), Cond.methodLink RL 135 yL_differentForms, Cond.static yL_differentForms, Cond.codeWith yL_differentForms cL_differentForms 4 (some .int) [(0, 9, 12, 13)], Cond.methodLink RL 44 yX0_differentForms, Cond.instanceMethod yX0_differentForms, Cond.selects RX0 yX0_differentForms yX0_differentForms, Cond.code yX0_differentForms cX0_differentForms 7 (some .int)]
def wsL_law0_r11 : List Cond := [Cond.methodLink RL 137 yX1_differentForms, Cond.instanceMethod yX1_differentForms, Cond.selects RX1 yX1_differentForms yX1_differentForms, Cond.code yX1_differentForms cX1_differentForms 6 (some .int), Cond.methodLink RX1 62 yX1_areSame, Cond.instanceMethod yX1_areSame, Cond.selects RX1 yX1_areSame yX1_areSame, Cond.code yX1_areSame cX1_areSame 6 (some .boolean), Cond.methodLink RL 138 yL_formOfOther, Cond.static yL_formOfOther, Cond.codeWith yL_formOfOther cL_formOfOther 4 (some .int) [(0, 9, 12, 13)], Cond.methodLink RL 48 yX0_formOfOther, Cond.instanceMethod yX0_formOfOther, Cond.selects RX0 yX0_formOfOther yX0_formOfOther, Cond.code yX0_formOfOther cX0_formOfOther 7 (some .int), Cond.methodLink RL 140 yX1_formOfOther, Cond.instanceMethod yX1_formOfOther, Cond.selects RX1 yX1_formOfOther yX1_formOfOther, Cond.code yX1_formOfOther cX1_formOfOther 5 (some .int), Cond.methodLink RL 141 yL_segment, Cond.static yL_segment, Cond.codeWith yL_segment cL_segment 6 (some .int) [(0, 12, 15, 13), (0, 12, 19, 15)], Cond.methodLink RL 51 yX0_segment, Cond.instanceMethod yX0_segment]
def wsL_law0_r12 : List Cond := [Cond.selects RX0 yX0_segment yX0_segment, Cond.code yX0_segment cX0_segment 4 (some .int), Cond.methodLink RX0 77 yX0_setOf, Cond.static yX0_setOf, Cond.code yX0_setOf cX0_setOf 6 (some .int), Cond.methodLink RL 143 yX1_segment, Cond.instanceMethod yX1_segment, Cond.selects RX1 yX1_segment yX1_segment, Cond.code yX1_segment cX1_segment 5 (some .int), Cond.methodLink RX1 65 yX1_itself, Cond.instanceMethod yX1_itself, Cond.selects RX1 yX1_itself yX1_itself, Cond.code yX1_itself cX1_itself 2 (some .int), Cond.methodLink RX1 68 yX1_setOf, Cond.instanceMethod yX1_setOf, Cond.selects RX1 yX1_setOf yX1_setOf, Cond.code yX1_setOf cX1_setOf 7 (some .int), Cond.methodLink RL 144 yL_classOf, Cond.static yL_classOf, Cond.codeWith yL_classOf cL_classOf 4 (some .int) [(0, 9, 12, 15)], Cond.methodLink RL 54 yX0_classOf, Cond.instanceMethod yX0_classOf, Cond.selects RX0 yX0_classOf yX0_classOf, Cond.code yX0_classOf cX0_classOf 2 (some .int)]
def wsL_law0_r13 : List Cond := [Cond.methodLink RX0 81 yX0_leastLike, Cond.static yX0_leastLike, Cond.code yX0_leastLike cX0_leastLike 4 (some .int), Cond.methodLink RX0 153 Lib.Math.min.name, Cond.static Lib.Math.min.name, Cond.initialized "java/lang/Math", Cond.code Lib.Math.min.name Lib.Math.min.code 2 (some .int), Cond.methodLink RX0 150 yX0_inverted, Cond.static yX0_inverted, Cond.code yX0_inverted cX0_inverted 3 (some .int), Cond.methodLink RX0 84 yX0_transposed, Cond.static yX0_transposed, Cond.code yX0_transposed cX0_transposed 2 (some .int), Cond.methodLink RL 146 yX1_classOf, Cond.instanceMethod yX1_classOf, Cond.selects RX1 yX1_classOf yX1_classOf, Cond.code yX1_classOf cX1_classOf 2 (some .int), Cond.methodLink RX1 76 yX1_least, Cond.static yX1_least, Cond.code yX1_least cX1_least 3 (some .int), Cond.methodLink RX1 72 yX1_moved, Cond.static yX1_moved, Cond.code yX1_moved cX1_moved 5 (some .int), Cond.methodLink RL 147 yL_pairs]
def wsL_law0_r14 : List Cond := [Cond.static yL_pairs, Cond.codeWith yL_pairs cL_pairs 5 (some .int) [(0, 10, 13, 15)], Cond.methodLink RL 57 yX0_pairs, Cond.instanceMethod yX0_pairs, Cond.selects RX0 yX0_pairs yX0_pairs, Cond.code yX0_pairs cX0_pairs 4 (some .int), Cond.methodLink RL 149 yX1_pairs, Cond.instanceMethod yX1_pairs, Cond.selects RX1 yX1_pairs yX1_pairs, Cond.code yX1_pairs cX1_pairs 7 (some .int), Cond.methodLink RL 150 yL_combining, Cond.static yL_combining, Cond.codeWith yL_combining cL_combining 4 (some .int) [(0, 8, 11, 13)], Cond.methodLink RL 60 yX0_combining, Cond.instanceMethod yX0_combining, Cond.selects RX0 yX0_combining yX0_combining, Cond.code yX0_combining cX0_combining 8 (some .long), Cond.methodLink RL 152 yX1_combining, Cond.instanceMethod yX1_combining, Cond.selects RX1 yX1_combining yX1_combining, Cond.code yX1_combining cX1_combining 6 (some .long), Cond.methodLink RL 153 yL_isDerived, Cond.static yL_isDerived, Cond.codeWith yL_isDerived cL_isDerived 5 (some .int) [(0, 17, 20, 13), (0, 17, 24, 15)]]
def wsL_law0_r15 : List Cond := [Cond.methodLink RL 64 yX0_isDerived, Cond.instanceMethod yX0_isDerived, Cond.selects RX0 yX0_isDerived yX0_isDerived, Cond.code yX0_isDerived cX0_isDerived 8 (some .boolean), Cond.methodLink RX0 87 yX0_requireSize, Cond.static yX0_requireSize, Cond.code yX0_requireSize cX0_requireSize 1 none, Cond.methodLink RL 155 yX1_isDerived, Cond.instanceMethod yX1_isDerived, Cond.selects RX1 yX1_isDerived yX1_isDerived, Cond.code yX1_isDerived cX1_isDerived 6 (some .boolean), Cond.methodLink RL 156 yL_keptSets, Cond.static yL_keptSets, Cond.codeWith yL_keptSets cL_keptSets 7 (some .int) [(0, 14, 17, 13), (0, 14, 21, 15)], Cond.methodLink RL 68 yX0_keptSets, Cond.instanceMethod yX0_keptSets, Cond.selects RX0 yX0_keptSets yX0_keptSets, Cond.code yX0_keptSets cX0_keptSets 7 (some .int), Cond.methodLink RX0 90 yX0_countKept, Cond.static yX0_countKept, Cond.code yX0_countKept cX0_countKept 9 (some .int), Cond.methodLink RX0 94 yX0_placesOf, Cond.static yX0_placesOf, Cond.code yX0_placesOf cX0_placesOf 7 (some .long)]
def wsL_law0_r16 : List Cond := [Cond.methodLink RX0 156 yX0_areNeighbours, Cond.static yX0_areNeighbours, Cond.code yX0_areNeighbours cX0_areNeighbours 7 (some .boolean), Cond.methodLink RX0 98 Lib.Math.max.name, Cond.static Lib.Math.max.name, Cond.code Lib.Math.max.name Lib.Math.max.code 2 (some .int), Cond.methodLink RL 158 yX1_keptSets, Cond.instanceMethod yX1_keptSets, Cond.selects RX1 yX1_keptSets yX1_keptSets, Cond.code yX1_keptSets cX1_keptSets 6 (some .int), Cond.methodLink RX1 79 yX1_setsKept, Cond.instanceMethod yX1_setsKept, Cond.selects RX1 yX1_setsKept yX1_setsKept, Cond.code yX1_setsKept cX1_setsKept 8 (some .int), Cond.methodLink RL 159 yL_longestKept, Cond.static yL_longestKept, Cond.codeWith yL_longestKept cL_longestKept 6 (some .int) [(0, 12, 15, 13), (0, 12, 19, 15)], Cond.methodLink RL 71 yX0_longestKept, Cond.instanceMethod yX0_longestKept, Cond.selects RX0 yX0_longestKept yX0_longestKept, Cond.code yX0_longestKept cX0_longestKept 12 (some .int), Cond.methodLink RL 161 yX1_longestKept, Cond.instanceMethod yX1_longestKept, Cond.selects RX1 yX1_longestKept yX1_longestKept]
def wsL_law0_r17 : List Cond := [Cond.code yX1_longestKept cX1_longestKept 8 (some .int), Cond.methodLink RX1 82 yX1_same, Cond.instanceMethod yX1_same, Cond.selects RX1 yX1_same yX1_same, Cond.code yX1_same cX1_same 6 (some .int), Cond.methodLink RL 162 yL_mostKept, Cond.static yL_mostKept, Cond.codeWith yL_mostKept cL_mostKept 5 (some .int) [(0, 10, 13, 13), (0, 10, 17, 15)], Cond.methodLink RL 74 yX0_mostKept, Cond.instanceMethod yX0_mostKept, Cond.selects RX0 yX0_mostKept yX0_mostKept, Cond.code yX0_mostKept cX0_mostKept 10 (some .int), Cond.methodLink RL 164 yX1_mostKept, Cond.instanceMethod yX1_mostKept, Cond.selects RX1 yX1_mostKept yX1_mostKept, Cond.code yX1_mostKept cX1_mostKept 7 (some .int), Cond.methodLink RL 165 yL_cuts, Cond.static yL_cuts, Cond.codeWith yL_cuts cL_cuts 5 (some .int) [(0, 10, 13, 15)], Cond.methodLink RL 77 yX0_cuts, Cond.instanceMethod yX0_cuts, Cond.selects RX0 yX0_cuts yX0_cuts, Cond.code yX0_cuts cX0_cuts 9 (some .int), Cond.methodLink RL 167 yX1_cuts]
def wsL_law0_r18 : List Cond := [Cond.instanceMethod yX1_cuts, Cond.selects RX1 yX1_cuts yX1_cuts, Cond.code yX1_cuts cX1_cuts 6 (some .int), Cond.methodLink RX1 85 yX1_isCode, Cond.static yX1_isCode, Cond.code yX1_isCode cX1_isCode 1 (some .boolean), Cond.methodLink RL 168 yL_write, Cond.static yL_write, Cond.codeWith yL_write cL_write 4 (some .int) [(0, 9, 12, 15), (0, 9, 15, 83)], Cond.classLink RL 83 "java/lang/IllegalStateException", Cond.methodLink RL 80 yX0_write, Cond.instanceMethod yX0_write, Cond.selects RX0 yX0_write yX0_write, Cond.code yX0_write cX0_write 2 (some .int), Cond.classLink RX0 107 "java/lang/IllegalStateException", Cond.initialized "java/lang/IllegalStateException", Cond.fieldLink RX0 114 "ToneRows" "phrase" "J", Cond.fieldLink RX0 117 "ToneRows" "phraseLength" "I", Cond.methodLink RX0 103 yX0_phraseHas, Cond.instanceMethod yX0_phraseHas, Cond.selects RX0 yX0_phraseHas yX0_phraseHas, Cond.code yX0_phraseHas cX0_phraseHas 2 (some .boolean), Cond.methodLink RL 170 yX1_write, Cond.instanceMethod yX1_write]
def wsL_law0_r19 : List Cond := [Cond.selects RX1 yX1_write yX1_write, Cond.code yX1_write cX1_write 2 (some .int), Cond.fieldLink RX1 88 "ToneRowsModel" "written" "I", Cond.methodLink RX1 91 yX1_isWritten, Cond.instanceMethod yX1_isWritten, Cond.selects RX1 yX1_isWritten yX1_isWritten, Cond.code yX1_isWritten cX1_isWritten 4 (some .boolean), Cond.methodLink RL 171 yX0_erase, Cond.instanceMethod yX0_erase, Cond.selects RX0 yX0_erase yX0_erase, Cond.code yX0_erase cX0_erase 2 (some .int), Cond.methodLink RL 174 yX1_erase, Cond.instanceMethod yX1_erase, Cond.selects RX1 yX1_erase yX1_erase, Cond.code yX1_erase cX1_erase 2 (some .int), Cond.methodLink RL 175 yL_formsWithPhrase, Cond.static yL_formsWithPhrase, Cond.codeWith yL_formsWithPhrase cL_formsWithPhrase 4 (some .int) [(0, 8, 11, 13)], Cond.methodLink RL 85 yX0_formsWithPhrase, Cond.instanceMethod yX0_formsWithPhrase, Cond.selects RX0 yX0_formsWithPhrase yX0_formsWithPhrase, Cond.code yX0_formsWithPhrase cX0_formsWithPhrase 7 (some .long), Cond.constantLong RX0 121 (281474976710655), Cond.methodLink RX0 123 yX0_phraseBegin]
def wsL_law0_r20 : List Cond := [Cond.instanceMethod yX0_phraseBegin, Cond.selects RX0 yX0_phraseBegin yX0_phraseBegin, Cond.code yX0_phraseBegin cX0_phraseBegin 5 (some .int), Cond.methodLink RL 177 yX1_formsWithPhrase, Cond.instanceMethod yX1_formsWithPhrase, Cond.selects RX1 yX1_formsWithPhrase yX1_formsWithPhrase, Cond.code yX1_formsWithPhrase cX1_formsWithPhrase 5 (some .long), Cond.methodLink RX1 94 yX1_placeIn, Cond.instanceMethod yX1_placeIn, Cond.selects RX1 yX1_placeIn yX1_placeIn, Cond.code yX1_placeIn cX1_placeIn 6 (some .int), Cond.methodLink RL 178 yL_placeOfPhrase, Cond.static yL_placeOfPhrase, Cond.codeWith yL_placeOfPhrase cL_placeOfPhrase 5 (some .int) [(0, 10, 13, 13), (0, 10, 17, 15)], Cond.methodLink RL 88 yX0_placeOfPhrase, Cond.instanceMethod yX0_placeOfPhrase, Cond.selects RX0 yX0_placeOfPhrase yX0_placeOfPhrase, Cond.code yX0_placeOfPhrase cX0_placeOfPhrase 3 (some .int), Cond.methodLink RL 180 yX1_placeOfPhrase, Cond.instanceMethod yX1_placeOfPhrase, Cond.selects RX1 yX1_placeOfPhrase yX1_placeOfPhrase, Cond.code yX1_placeOfPhrase cX1_placeOfPhrase 3 (some .int), Cond.methodLink RL 181 yL_complete, Cond.static yL_complete]
def wsL_law0_r21 : List Cond := [Cond.codeWith yL_complete cL_complete 4 (some .int) [(0, 9, 12, 13)], Cond.methodLink RL 91 yX0_complete, Cond.instanceMethod yX0_complete, Cond.selects RX0 yX0_complete yX0_complete, Cond.code yX0_complete cX0_complete 9 (some .int), Cond.methodLink RL 183 yX1_complete, Cond.instanceMethod yX1_complete, Cond.selects RX1 yX1_complete yX1_complete, Cond.code yX1_complete cX1_complete 4 (some .int)]
def wsL_law0 : List Cond := (wsL_law0_r1 ++ (wsL_law0_r2 ++ (wsL_law0_r3 ++ (wsL_law0_r4 ++ (wsL_law0_r5 ++ (wsL_law0_r6 ++ (wsL_law0_r7 ++ (wsL_law0_r8 ++ (wsL_law0_r9 ++ (wsL_law0_r10 ++ (wsL_law0_r11 ++ (wsL_law0_r12 ++ (wsL_law0_r13 ++ (wsL_law0_r14 ++ (wsL_law0_r15 ++ (wsL_law0_r16 ++ (wsL_law0_r17 ++ (wsL_law0_r18 ++ (wsL_law0_r19 ++ (wsL_law0_r20 ++ wsL_law0_r21)))))))))))))))))))) ++ wsX00 ++ wsX10 ++ ([] : List Cond)
def wsL_law : List Cond := wsL_law0 ++ (vx_atS RX0 131 "java/lang/IndexOutOfBoundsException" ["java/lang/RuntimeException", "java/lang/Exception"]).filter goodWord ++ (vx_atS RX0 138 "java/lang/IllegalArgumentException" ["java/lang/RuntimeException", "java/lang/Exception"]).filter goodWord ++ (vx_atS RX0 111 "java/lang/IllegalStateException" ["java/lang/RuntimeException", "java/lang/Exception"]).filter goodWord
abbrev vwCl : List vw_C := [(RX0, TX0, 4), (RX1, TX1, 5)]
end
section
theorem dX0_init_0 : decode cX0_init 0 = .ok (.aload_n 0, 1) := by decide +kernel
theorem dX0_init_1 : decode cX0_init 1 = .ok (.invokespecial 3, 3) := by decide +kernel
theorem dX0_init_4 : decode cX0_init 4 = .ok (.lconst 0, 1) := by decide +kernel
theorem dX0_init_5 : decode cX0_init 5 = .ok (.lstore_n 1, 1) := by decide +kernel
theorem dX0_init_6 : decode cX0_init 6 = .ok (.iconst 0, 1) := by decide +kernel
theorem dX0_init_7 : decode cX0_init 7 = .ok (.istore_n 3, 1) := by decide +kernel
theorem dX0_init_8 : decode cX0_init 8 = .ok (.iload_n 3, 1) := by decide +kernel
theorem dX0_init_9 : decode cX0_init 9 = .ok (.bipush 12, 2) := by decide +kernel
theorem dX0_init_11 : decode cX0_init 11 = .ok (.if_icmp .ge 16, 3) := by decide +kernel
theorem dX0_init_14 : decode cX0_init 14 = .ok (.lload_n 1, 1) := by decide +kernel
theorem dX0_init_15 : decode cX0_init 15 = .ok (.iload_n 3, 1) := by decide +kernel
theorem dX0_init_16 : decode cX0_init 16 = .ok (.iload_n 3, 1) := by decide +kernel
theorem dX0_init_17 : decode cX0_init 17 = .ok (.invokestatic 9, 3) := by decide +kernel
theorem dX0_init_20 : decode cX0_init 20 = .ok (.lstore_n 1, 1) := by decide +kernel
theorem dX0_init_21 : decode cX0_init 21 = .ok (.iinc 3 1, 3) := by decide +kernel
theorem dX0_init_24 : decode cX0_init 24 = .ok (.goto (-16), 3) := by decide +kernel
theorem dX0_init_27 : decode cX0_init 27 = .ok (.aload_n 0, 1) := by decide +kernel
theorem dX0_init_28 : decode cX0_init 28 = .ok (.lload_n 1, 1) := by decide +kernel
theorem dX0_init_29 : decode cX0_init 29 = .ok (.putfield 13, 3) := by decide +kernel
theorem dX0_init_32 : decode cX0_init 32 = .ok (.aload_n 0, 1) := by decide +kernel
theorem dX0_init_33 : decode cX0_init 33 = .ok (.lload_n 1, 1) := by decide +kernel
theorem dX0_init_34 : decode cX0_init 34 = .ok (.putfield 17, 3) := by decide +kernel
theorem dX0_init_37 : decode cX0_init 37 = .ok (.return_, 1) := by decide +kernel
theorem dX0_put_0 : decode cX0_put 0 = .ok (.iload_n 1, 1) := by decide +kernel
theorem dX0_put_1 : decode cX0_put 1 = .ok (.invokestatic 20, 3) := by decide +kernel
theorem dX0_put_4 : decode cX0_put 4 = .ok (.iload_n 2, 1) := by decide +kernel
theorem dX0_put_5 : decode cX0_put 5 = .ok (.bipush 11, 2) := by decide +kernel
theorem dX0_put_7 : decode cX0_put 7 = .ok (.invokestatic 24, 3) := by decide +kernel
theorem dX0_put_10 : decode cX0_put 10 = .ok (.iload_n 3, 1) := by decide +kernel
theorem dX0_put_11 : decode cX0_put 11 = .ok (.iconst 0, 1) := by decide +kernel
theorem dX0_put_12 : decode cX0_put 12 = .ok (.bipush 11, 2) := by decide +kernel
theorem dX0_put_14 : decode cX0_put 14 = .ok (.invokestatic 28, 3) := by decide +kernel
theorem dX0_put_17 : decode cX0_put 17 = .ok (.aload_n 0, 1) := by decide +kernel
theorem dX0_put_18 : decode cX0_put 18 = .ok (.iload_n 1, 1) := by decide +kernel
theorem dX0_put_19 : decode cX0_put 19 = .ok (.invokevirtual 32, 3) := by decide +kernel
theorem dX0_put_22 : decode cX0_put 22 = .ok (.lstore 4, 2) := by decide +kernel
theorem dX0_put_24 : decode cX0_put 24 = .ok (.lload 4, 2) := by decide +kernel
theorem dX0_put_26 : decode cX0_put 26 = .ok (.iload_n 2, 1) := by decide +kernel
theorem dX0_put_27 : decode cX0_put 27 = .ok (.invokestatic 36, 3) := by decide +kernel
theorem dX0_put_30 : decode cX0_put 30 = .ok (.istore 6, 2) := by decide +kernel
theorem dX0_put_32 : decode cX0_put 32 = .ok (.lload 4, 2) := by decide +kernel
theorem dX0_put_34 : decode cX0_put 34 = .ok (.lload 4, 2) := by decide +kernel
theorem dX0_put_36 : decode cX0_put 36 = .ok (.iload_n 3, 1) := by decide +kernel
theorem dX0_put_37 : decode cX0_put 37 = .ok (.invokestatic 40, 3) := by decide +kernel
theorem dX0_put_40 : decode cX0_put 40 = .ok (.iload 6, 2) := by decide +kernel
theorem dX0_put_42 : decode cX0_put 42 = .ok (.invokestatic 9, 3) := by decide +kernel
theorem dX0_put_45 : decode cX0_put 45 = .ok (.lstore 7, 2) := by decide +kernel
theorem dX0_put_47 : decode cX0_put 47 = .ok (.aload_n 0, 1) := by decide +kernel
theorem dX0_put_48 : decode cX0_put 48 = .ok (.iload_n 1, 1) := by decide +kernel
theorem dX0_put_49 : decode cX0_put 49 = .ok (.lload 7, 2) := by decide +kernel
theorem dX0_put_51 : decode cX0_put 51 = .ok (.iload_n 2, 1) := by decide +kernel
theorem dX0_put_52 : decode cX0_put 52 = .ok (.iload_n 3, 1) := by decide +kernel
theorem dX0_put_53 : decode cX0_put 53 = .ok (.invokestatic 9, 3) := by decide +kernel
theorem dX0_put_56 : decode cX0_put 56 = .ok (.invokevirtual 43, 3) := by decide +kernel
theorem dX0_put_59 : decode cX0_put 59 = .ok (.iload 6, 2) := by decide +kernel
theorem dX0_put_61 : decode cX0_put 61 = .ok (.ireturn, 1) := by decide +kernel
theorem dX0_take_0 : decode cX0_take 0 = .ok (.iload_n 1, 1) := by decide +kernel
theorem dX0_take_1 : decode cX0_take 1 = .ok (.invokestatic 20, 3) := by decide +kernel
theorem dX0_take_4 : decode cX0_take 4 = .ok (.iload 4, 2) := by decide +kernel
theorem dX0_take_6 : decode cX0_take 6 = .ok (.invokestatic 20, 3) := by decide +kernel
theorem dX0_take_9 : decode cX0_take 9 = .ok (.iload_n 2, 1) := by decide +kernel
theorem dX0_take_10 : decode cX0_take 10 = .ok (.iload_n 3, 1) := by decide +kernel
theorem dX0_take_11 : decode cX0_take 11 = .ok (.invokestatic 47, 3) := by decide +kernel
theorem dX0_take_14 : decode cX0_take 14 = .ok (.aload_n 0, 1) := by decide +kernel
theorem dX0_take_15 : decode cX0_take 15 = .ok (.iload 4, 2) := by decide +kernel
theorem dX0_take_17 : decode cX0_take 17 = .ok (.aload_n 0, 1) := by decide +kernel
theorem dX0_take_18 : decode cX0_take 18 = .ok (.iload_n 1, 1) := by decide +kernel
theorem dX0_take_19 : decode cX0_take 19 = .ok (.invokevirtual 32, 3) := by decide +kernel
theorem dX0_take_22 : decode cX0_take 22 = .ok (.iload_n 2, 1) := by decide +kernel
theorem dX0_take_23 : decode cX0_take 23 = .ok (.iload_n 3, 1) := by decide +kernel
theorem dX0_take_24 : decode cX0_take 24 = .ok (.invokestatic 50, 3) := by decide +kernel
theorem dX0_take_27 : decode cX0_take 27 = .ok (.invokestatic 54, 3) := by decide +kernel
theorem dX0_take_30 : decode cX0_take 30 = .ok (.invokevirtual 58, 3) := by decide +kernel
theorem dX0_take_33 : decode cX0_take 33 = .ok (.ireturn, 1) := by decide +kernel
theorem dX0_multiply_0 : decode cX0_multiply 0 = .ok (.iload_n 1, 1) := by decide +kernel
theorem dX0_multiply_1 : decode cX0_multiply 1 = .ok (.invokestatic 20, 3) := by decide +kernel
theorem dX0_multiply_4 : decode cX0_multiply 4 = .ok (.iload_n 2, 1) := by decide +kernel
theorem dX0_multiply_5 : decode cX0_multiply 5 = .ok (.invokestatic 62, 3) := by decide +kernel
theorem dX0_multiply_8 : decode cX0_multiply 8 = .ok (.aload_n 0, 1) := by decide +kernel
theorem dX0_multiply_9 : decode cX0_multiply 9 = .ok (.iload_n 1, 1) := by decide +kernel
theorem dX0_multiply_10 : decode cX0_multiply 10 = .ok (.invokevirtual 32, 3) := by decide +kernel
theorem dX0_multiply_13 : decode cX0_multiply 13 = .ok (.lstore_n 3, 1) := by decide +kernel
theorem dX0_multiply_14 : decode cX0_multiply 14 = .ok (.lconst 0, 1) := by decide +kernel
theorem dX0_multiply_15 : decode cX0_multiply 15 = .ok (.lstore 5, 2) := by decide +kernel
theorem dX0_multiply_17 : decode cX0_multiply 17 = .ok (.iconst 0, 1) := by decide +kernel
theorem dX0_multiply_18 : decode cX0_multiply 18 = .ok (.istore 7, 2) := by decide +kernel
theorem dX0_multiply_20 : decode cX0_multiply 20 = .ok (.iload 7, 2) := by decide +kernel
theorem dX0_multiply_22 : decode cX0_multiply 22 = .ok (.bipush 12, 2) := by decide +kernel
theorem dX0_multiply_24 : decode cX0_multiply 24 = .ok (.if_icmp .ge 29, 3) := by decide +kernel
theorem dX0_multiply_27 : decode cX0_multiply 27 = .ok (.lload 5, 2) := by decide +kernel
theorem dX0_multiply_29 : decode cX0_multiply 29 = .ok (.iload 7, 2) := by decide +kernel
theorem dX0_multiply_31 : decode cX0_multiply 31 = .ok (.lload_n 3, 1) := by decide +kernel
theorem dX0_multiply_32 : decode cX0_multiply 32 = .ok (.iload 7, 2) := by decide +kernel
theorem dX0_multiply_34 : decode cX0_multiply 34 = .ok (.invokestatic 36, 3) := by decide +kernel
theorem dX0_multiply_37 : decode cX0_multiply 37 = .ok (.iload_n 2, 1) := by decide +kernel
theorem dX0_multiply_38 : decode cX0_multiply 38 = .ok (.imul, 1) := by decide +kernel
theorem dX0_multiply_39 : decode cX0_multiply 39 = .ok (.invokestatic 65, 3) := by decide +kernel
theorem dX0_multiply_42 : decode cX0_multiply 42 = .ok (.invokestatic 9, 3) := by decide +kernel
theorem dX0_multiply_45 : decode cX0_multiply 45 = .ok (.lstore 5, 2) := by decide +kernel
theorem dX0_multiply_47 : decode cX0_multiply 47 = .ok (.iinc 7 1, 3) := by decide +kernel
theorem dX0_multiply_50 : decode cX0_multiply 50 = .ok (.goto (-30), 3) := by decide +kernel
theorem dX0_multiply_53 : decode cX0_multiply 53 = .ok (.aload_n 0, 1) := by decide +kernel
theorem dX0_multiply_54 : decode cX0_multiply 54 = .ok (.iload_n 1, 1) := by decide +kernel
theorem dX0_multiply_55 : decode cX0_multiply 55 = .ok (.lload 5, 2) := by decide +kernel
theorem dX0_multiply_57 : decode cX0_multiply 57 = .ok (.invokevirtual 58, 3) := by decide +kernel
theorem dX0_multiply_60 : decode cX0_multiply 60 = .ok (.ireturn, 1) := by decide +kernel
theorem dX0_rotate_0 : decode cX0_rotate 0 = .ok (.iload_n 1, 1) := by decide +kernel
theorem dX0_rotate_1 : decode cX0_rotate 1 = .ok (.invokestatic 20, 3) := by decide +kernel
theorem dX0_rotate_4 : decode cX0_rotate 4 = .ok (.iload_n 2, 1) := by decide +kernel
theorem dX0_rotate_5 : decode cX0_rotate 5 = .ok (.iconst 0, 1) := by decide +kernel
theorem dX0_rotate_6 : decode cX0_rotate 6 = .ok (.bipush 11, 2) := by decide +kernel
theorem dX0_rotate_8 : decode cX0_rotate 8 = .ok (.invokestatic 28, 3) := by decide +kernel
theorem dX0_rotate_11 : decode cX0_rotate 11 = .ok (.aload_n 0, 1) := by decide +kernel
theorem dX0_rotate_12 : decode cX0_rotate 12 = .ok (.iload_n 1, 1) := by decide +kernel
theorem dX0_rotate_13 : decode cX0_rotate 13 = .ok (.invokevirtual 32, 3) := by decide +kernel
theorem dX0_rotate_16 : decode cX0_rotate 16 = .ok (.lstore_n 3, 1) := by decide +kernel
theorem dX0_rotate_17 : decode cX0_rotate 17 = .ok (.lconst 0, 1) := by decide +kernel
theorem dX0_rotate_18 : decode cX0_rotate 18 = .ok (.lstore 5, 2) := by decide +kernel
theorem dX0_rotate_20 : decode cX0_rotate 20 = .ok (.iconst 0, 1) := by decide +kernel
theorem dX0_rotate_21 : decode cX0_rotate 21 = .ok (.istore 7, 2) := by decide +kernel
theorem dX0_rotate_23 : decode cX0_rotate 23 = .ok (.iload 7, 2) := by decide +kernel
theorem dX0_rotate_25 : decode cX0_rotate 25 = .ok (.bipush 12, 2) := by decide +kernel
theorem dX0_rotate_27 : decode cX0_rotate 27 = .ok (.if_icmp .ge 29, 3) := by decide +kernel
theorem dX0_rotate_30 : decode cX0_rotate 30 = .ok (.lload 5, 2) := by decide +kernel
theorem dX0_rotate_32 : decode cX0_rotate 32 = .ok (.iload 7, 2) := by decide +kernel
theorem dX0_rotate_34 : decode cX0_rotate 34 = .ok (.lload_n 3, 1) := by decide +kernel
theorem dX0_rotate_35 : decode cX0_rotate 35 = .ok (.iload 7, 2) := by decide +kernel
theorem dX0_rotate_37 : decode cX0_rotate 37 = .ok (.iload_n 2, 1) := by decide +kernel
theorem dX0_rotate_38 : decode cX0_rotate 38 = .ok (.iadd, 1) := by decide +kernel
theorem dX0_rotate_39 : decode cX0_rotate 39 = .ok (.invokestatic 65, 3) := by decide +kernel
theorem dX0_rotate_42 : decode cX0_rotate 42 = .ok (.invokestatic 36, 3) := by decide +kernel
theorem dX0_rotate_45 : decode cX0_rotate 45 = .ok (.invokestatic 9, 3) := by decide +kernel
theorem dX0_rotate_48 : decode cX0_rotate 48 = .ok (.lstore 5, 2) := by decide +kernel
theorem dX0_rotate_50 : decode cX0_rotate 50 = .ok (.iinc 7 1, 3) := by decide +kernel
theorem dX0_rotate_53 : decode cX0_rotate 53 = .ok (.goto (-30), 3) := by decide +kernel
theorem dX0_rotate_56 : decode cX0_rotate 56 = .ok (.aload_n 0, 1) := by decide +kernel
theorem dX0_rotate_57 : decode cX0_rotate 57 = .ok (.iload_n 1, 1) := by decide +kernel
theorem dX0_rotate_58 : decode cX0_rotate 58 = .ok (.lload 5, 2) := by decide +kernel
theorem dX0_rotate_60 : decode cX0_rotate 60 = .ok (.invokevirtual 58, 3) := by decide +kernel
theorem dX0_rotate_63 : decode cX0_rotate 63 = .ok (.ireturn, 1) := by decide +kernel
theorem dX0_tone_0 : decode cX0_tone 0 = .ok (.iload_n 1, 1) := by decide +kernel
theorem dX0_tone_1 : decode cX0_tone 1 = .ok (.invokestatic 20, 3) := by decide +kernel
theorem dX0_tone_4 : decode cX0_tone 4 = .ok (.iload_n 2, 1) := by decide +kernel
theorem dX0_tone_5 : decode cX0_tone 5 = .ok (.bipush 11, 2) := by decide +kernel
theorem dX0_tone_7 : decode cX0_tone 7 = .ok (.invokestatic 24, 3) := by decide +kernel
theorem dX0_tone_10 : decode cX0_tone 10 = .ok (.aload_n 0, 1) := by decide +kernel
theorem dX0_tone_11 : decode cX0_tone 11 = .ok (.iload_n 1, 1) := by decide +kernel
theorem dX0_tone_12 : decode cX0_tone 12 = .ok (.invokevirtual 32, 3) := by decide +kernel
theorem dX0_tone_15 : decode cX0_tone 15 = .ok (.iload_n 2, 1) := by decide +kernel
theorem dX0_tone_16 : decode cX0_tone 16 = .ok (.invokestatic 36, 3) := by decide +kernel
theorem dX0_tone_19 : decode cX0_tone 19 = .ok (.ireturn, 1) := by decide +kernel
theorem dX0_interval_0 : decode cX0_interval 0 = .ok (.iload_n 1, 1) := by decide +kernel
theorem dX0_interval_1 : decode cX0_interval 1 = .ok (.invokestatic 20, 3) := by decide +kernel
theorem dX0_interval_4 : decode cX0_interval 4 = .ok (.iload_n 2, 1) := by decide +kernel
theorem dX0_interval_5 : decode cX0_interval 5 = .ok (.bipush 10, 2) := by decide +kernel
theorem dX0_interval_7 : decode cX0_interval 7 = .ok (.invokestatic 24, 3) := by decide +kernel
theorem dX0_interval_10 : decode cX0_interval 10 = .ok (.aload_n 0, 1) := by decide +kernel
theorem dX0_interval_11 : decode cX0_interval 11 = .ok (.iload_n 1, 1) := by decide +kernel
theorem dX0_interval_12 : decode cX0_interval 12 = .ok (.invokevirtual 32, 3) := by decide +kernel
theorem dX0_interval_15 : decode cX0_interval 15 = .ok (.iload_n 2, 1) := by decide +kernel
theorem dX0_interval_16 : decode cX0_interval 16 = .ok (.invokestatic 69, 3) := by decide +kernel
theorem dX0_interval_19 : decode cX0_interval 19 = .ok (.ireturn, 1) := by decide +kernel
theorem dX0_hasAllIntervals_0 : decode cX0_hasAllIntervals 0 = .ok (.iload_n 1, 1) := by decide +kernel
theorem dX0_hasAllIntervals_1 : decode cX0_hasAllIntervals 1 = .ok (.invokestatic 20, 3) := by decide +kernel
theorem dX0_hasAllIntervals_4 : decode cX0_hasAllIntervals 4 = .ok (.aload_n 0, 1) := by decide +kernel
theorem dX0_hasAllIntervals_5 : decode cX0_hasAllIntervals 5 = .ok (.iload_n 1, 1) := by decide +kernel
theorem dX0_hasAllIntervals_6 : decode cX0_hasAllIntervals 6 = .ok (.invokevirtual 32, 3) := by decide +kernel
theorem dX0_hasAllIntervals_9 : decode cX0_hasAllIntervals 9 = .ok (.lstore_n 2, 1) := by decide +kernel
theorem dX0_hasAllIntervals_10 : decode cX0_hasAllIntervals 10 = .ok (.iconst 0, 1) := by decide +kernel
theorem dX0_hasAllIntervals_11 : decode cX0_hasAllIntervals 11 = .ok (.istore 4, 2) := by decide +kernel
theorem dX0_hasAllIntervals_13 : decode cX0_hasAllIntervals 13 = .ok (.iconst 0, 1) := by decide +kernel
theorem dX0_hasAllIntervals_14 : decode cX0_hasAllIntervals 14 = .ok (.istore 5, 2) := by decide +kernel
theorem dX0_hasAllIntervals_16 : decode cX0_hasAllIntervals 16 = .ok (.iload 5, 2) := by decide +kernel
theorem dX0_hasAllIntervals_18 : decode cX0_hasAllIntervals 18 = .ok (.bipush 11, 2) := by decide +kernel
theorem dX0_hasAllIntervals_20 : decode cX0_hasAllIntervals 20 = .ok (.if_icmp .ge 22, 3) := by decide +kernel
theorem dX0_hasAllIntervals_23 : decode cX0_hasAllIntervals 23 = .ok (.iload 4, 2) := by decide +kernel
theorem dX0_hasAllIntervals_25 : decode cX0_hasAllIntervals 25 = .ok (.iconst 1, 1) := by decide +kernel
theorem dX0_hasAllIntervals_26 : decode cX0_hasAllIntervals 26 = .ok (.lload_n 2, 1) := by decide +kernel
theorem dX0_hasAllIntervals_27 : decode cX0_hasAllIntervals 27 = .ok (.iload 5, 2) := by decide +kernel
theorem dX0_hasAllIntervals_29 : decode cX0_hasAllIntervals 29 = .ok (.invokestatic 69, 3) := by decide +kernel
theorem dX0_hasAllIntervals_32 : decode cX0_hasAllIntervals 32 = .ok (.ishl, 1) := by decide +kernel
theorem dX0_hasAllIntervals_33 : decode cX0_hasAllIntervals 33 = .ok (.ior, 1) := by decide +kernel
theorem dX0_hasAllIntervals_34 : decode cX0_hasAllIntervals 34 = .ok (.istore 4, 2) := by decide +kernel
theorem dX0_hasAllIntervals_36 : decode cX0_hasAllIntervals 36 = .ok (.iinc 5 1, 3) := by decide +kernel
theorem dX0_hasAllIntervals_39 : decode cX0_hasAllIntervals 39 = .ok (.goto (-23), 3) := by decide +kernel
theorem dX0_hasAllIntervals_42 : decode cX0_hasAllIntervals 42 = .ok (.iload 4, 2) := by decide +kernel
theorem dX0_hasAllIntervals_44 : decode cX0_hasAllIntervals 44 = .ok (.invokestatic 72, 3) := by decide +kernel
theorem dX0_hasAllIntervals_47 : decode cX0_hasAllIntervals 47 = .ok (.bipush 11, 2) := by decide +kernel
theorem dX0_hasAllIntervals_49 : decode cX0_hasAllIntervals 49 = .ok (.if_icmp .ne 7, 3) := by decide +kernel
theorem dX0_hasAllIntervals_52 : decode cX0_hasAllIntervals 52 = .ok (.iconst 1, 1) := by decide +kernel
theorem dX0_hasAllIntervals_53 : decode cX0_hasAllIntervals 53 = .ok (.goto 4, 3) := by decide +kernel
theorem dX0_hasAllIntervals_56 : decode cX0_hasAllIntervals 56 = .ok (.iconst 0, 1) := by decide +kernel
theorem dX0_hasAllIntervals_57 : decode cX0_hasAllIntervals 57 = .ok (.ireturn, 1) := by decide +kernel
theorem dX0_toneOf_0 : decode cX0_toneOf 0 = .ok (.iload_n 1, 1) := by decide +kernel
theorem dX0_toneOf_1 : decode cX0_toneOf 1 = .ok (.invokestatic 20, 3) := by decide +kernel
theorem dX0_toneOf_4 : decode cX0_toneOf 4 = .ok (.iload 4, 2) := by decide +kernel
theorem dX0_toneOf_6 : decode cX0_toneOf 6 = .ok (.bipush 11, 2) := by decide +kernel
theorem dX0_toneOf_8 : decode cX0_toneOf 8 = .ok (.invokestatic 24, 3) := by decide +kernel
theorem dX0_toneOf_11 : decode cX0_toneOf 11 = .ok (.iload_n 2, 1) := by decide +kernel
theorem dX0_toneOf_12 : decode cX0_toneOf 12 = .ok (.iload_n 3, 1) := by decide +kernel
theorem dX0_toneOf_13 : decode cX0_toneOf 13 = .ok (.invokestatic 47, 3) := by decide +kernel
theorem dX0_toneOf_16 : decode cX0_toneOf 16 = .ok (.aload_n 0, 1) := by decide +kernel
theorem dX0_toneOf_17 : decode cX0_toneOf 17 = .ok (.iload_n 1, 1) := by decide +kernel
theorem dX0_toneOf_18 : decode cX0_toneOf 18 = .ok (.invokevirtual 32, 3) := by decide +kernel
theorem dX0_toneOf_21 : decode cX0_toneOf 21 = .ok (.iload_n 2, 1) := by decide +kernel
theorem dX0_toneOf_22 : decode cX0_toneOf 22 = .ok (.iload_n 3, 1) := by decide +kernel
theorem dX0_toneOf_23 : decode cX0_toneOf 23 = .ok (.invokestatic 50, 3) := by decide +kernel
theorem dX0_toneOf_26 : decode cX0_toneOf 26 = .ok (.invokestatic 54, 3) := by decide +kernel
theorem dX0_toneOf_29 : decode cX0_toneOf 29 = .ok (.iload 4, 2) := by decide +kernel
theorem dX0_toneOf_31 : decode cX0_toneOf 31 = .ok (.invokestatic 36, 3) := by decide +kernel
theorem dX0_toneOf_34 : decode cX0_toneOf 34 = .ok (.ireturn, 1) := by decide +kernel
theorem dX0_matrix_0 : decode cX0_matrix 0 = .ok (.iload_n 1, 1) := by decide +kernel
theorem dX0_matrix_1 : decode cX0_matrix 1 = .ok (.invokestatic 20, 3) := by decide +kernel
theorem dX0_matrix_4 : decode cX0_matrix 4 = .ok (.iload_n 2, 1) := by decide +kernel
theorem dX0_matrix_5 : decode cX0_matrix 5 = .ok (.bipush 11, 2) := by decide +kernel
theorem dX0_matrix_7 : decode cX0_matrix 7 = .ok (.invokestatic 24, 3) := by decide +kernel
theorem dX0_matrix_10 : decode cX0_matrix 10 = .ok (.iload_n 3, 1) := by decide +kernel
theorem dX0_matrix_11 : decode cX0_matrix 11 = .ok (.bipush 11, 2) := by decide +kernel
theorem dX0_matrix_13 : decode cX0_matrix 13 = .ok (.invokestatic 24, 3) := by decide +kernel
theorem dX0_matrix_16 : decode cX0_matrix 16 = .ok (.aload_n 0, 1) := by decide +kernel
theorem dX0_matrix_17 : decode cX0_matrix 17 = .ok (.iload_n 1, 1) := by decide +kernel
theorem dX0_matrix_18 : decode cX0_matrix 18 = .ok (.invokevirtual 32, 3) := by decide +kernel
theorem dX0_matrix_21 : decode cX0_matrix 21 = .ok (.lstore 4, 2) := by decide +kernel
theorem dX0_matrix_23 : decode cX0_matrix 23 = .ok (.lload 4, 2) := by decide +kernel
theorem dX0_matrix_25 : decode cX0_matrix 25 = .ok (.iconst 0, 1) := by decide +kernel
theorem dX0_matrix_26 : decode cX0_matrix 26 = .ok (.invokestatic 36, 3) := by decide +kernel
theorem dX0_matrix_29 : decode cX0_matrix 29 = .ok (.istore 6, 2) := by decide +kernel
theorem dX0_matrix_31 : decode cX0_matrix 31 = .ok (.iload 6, 2) := by decide +kernel
theorem dX0_matrix_33 : decode cX0_matrix 33 = .ok (.lload 4, 2) := by decide +kernel
theorem dX0_matrix_35 : decode cX0_matrix 35 = .ok (.iload_n 2, 1) := by decide +kernel
theorem dX0_matrix_36 : decode cX0_matrix 36 = .ok (.invokestatic 36, 3) := by decide +kernel
theorem dX0_matrix_39 : decode cX0_matrix 39 = .ok (.isub, 1) := by decide +kernel
theorem dX0_matrix_40 : decode cX0_matrix 40 = .ok (.iload 6, 2) := by decide +kernel
theorem dX0_matrix_42 : decode cX0_matrix 42 = .ok (.iadd, 1) := by decide +kernel
theorem dX0_matrix_43 : decode cX0_matrix 43 = .ok (.invokestatic 65, 3) := by decide +kernel
theorem dX0_matrix_46 : decode cX0_matrix 46 = .ok (.istore 7, 2) := by decide +kernel
theorem dX0_matrix_48 : decode cX0_matrix 48 = .ok (.lload 4, 2) := by decide +kernel
theorem dX0_matrix_50 : decode cX0_matrix 50 = .ok (.iload_n 3, 1) := by decide +kernel
theorem dX0_matrix_51 : decode cX0_matrix 51 = .ok (.invokestatic 36, 3) := by decide +kernel
theorem dX0_matrix_54 : decode cX0_matrix 54 = .ok (.iload 6, 2) := by decide +kernel
theorem dX0_matrix_56 : decode cX0_matrix 56 = .ok (.isub, 1) := by decide +kernel
theorem dX0_matrix_57 : decode cX0_matrix 57 = .ok (.iload 7, 2) := by decide +kernel
theorem dX0_matrix_59 : decode cX0_matrix 59 = .ok (.iadd, 1) := by decide +kernel
theorem dX0_matrix_60 : decode cX0_matrix 60 = .ok (.invokestatic 65, 3) := by decide +kernel
theorem dX0_matrix_63 : decode cX0_matrix 63 = .ok (.ireturn, 1) := by decide +kernel
theorem dX0_differentForms_0 : decode cX0_differentForms 0 = .ok (.iload_n 1, 1) := by decide +kernel
theorem dX0_differentForms_1 : decode cX0_differentForms 1 = .ok (.invokestatic 20, 3) := by decide +kernel
theorem dX0_differentForms_4 : decode cX0_differentForms 4 = .ok (.aload_n 0, 1) := by decide +kernel
theorem dX0_differentForms_5 : decode cX0_differentForms 5 = .ok (.iload_n 1, 1) := by decide +kernel
theorem dX0_differentForms_6 : decode cX0_differentForms 6 = .ok (.invokevirtual 32, 3) := by decide +kernel
theorem dX0_differentForms_9 : decode cX0_differentForms 9 = .ok (.lstore_n 2, 1) := by decide +kernel
theorem dX0_differentForms_10 : decode cX0_differentForms 10 = .ok (.lload_n 2, 1) := by decide +kernel
theorem dX0_differentForms_11 : decode cX0_differentForms 11 = .ok (.iconst 0, 1) := by decide +kernel
theorem dX0_differentForms_12 : decode cX0_differentForms 12 = .ok (.iconst 0, 1) := by decide +kernel
theorem dX0_differentForms_13 : decode cX0_differentForms 13 = .ok (.invokestatic 50, 3) := by decide +kernel
theorem dX0_differentForms_16 : decode cX0_differentForms 16 = .ok (.invokestatic 54, 3) := by decide +kernel
theorem dX0_differentForms_19 : decode cX0_differentForms 19 = .ok (.lstore 4, 2) := by decide +kernel
theorem dX0_differentForms_21 : decode cX0_differentForms 21 = .ok (.iconst 2, 1) := by decide +kernel
theorem dX0_differentForms_22 : decode cX0_differentForms 22 = .ok (.iconst 0, 1) := by decide +kernel
theorem dX0_differentForms_23 : decode cX0_differentForms 23 = .ok (.invokestatic 50, 3) := by decide +kernel
theorem dX0_differentForms_26 : decode cX0_differentForms 26 = .ok (.istore 6, 2) := by decide +kernel
theorem dX0_differentForms_28 : decode cX0_differentForms 28 = .ok (.iload 6, 2) := by decide +kernel
theorem dX0_differentForms_30 : decode cX0_differentForms 30 = .ok (.bipush 48, 2) := by decide +kernel
theorem dX0_differentForms_32 : decode cX0_differentForms 32 = .ok (.if_icmp .ge 24, 3) := by decide +kernel
theorem dX0_differentForms_35 : decode cX0_differentForms 35 = .ok (.lload_n 2, 1) := by decide +kernel
theorem dX0_differentForms_36 : decode cX0_differentForms 36 = .ok (.iload 6, 2) := by decide +kernel
theorem dX0_differentForms_38 : decode cX0_differentForms 38 = .ok (.invokestatic 54, 3) := by decide +kernel
theorem dX0_differentForms_41 : decode cX0_differentForms 41 = .ok (.lload 4, 2) := by decide +kernel
theorem dX0_differentForms_43 : decode cX0_differentForms 43 = .ok (.lcmp, 1) := by decide +kernel
theorem dX0_differentForms_44 : decode cX0_differentForms 44 = .ok (.ifCond .ne 6, 3) := by decide +kernel
theorem dX0_differentForms_47 : decode cX0_differentForms 47 = .ok (.bipush 24, 2) := by decide +kernel
theorem dX0_differentForms_49 : decode cX0_differentForms 49 = .ok (.ireturn, 1) := by decide +kernel
theorem dX0_differentForms_50 : decode cX0_differentForms 50 = .ok (.iinc 6 1, 3) := by decide +kernel
theorem dX0_differentForms_53 : decode cX0_differentForms 53 = .ok (.goto (-25), 3) := by decide +kernel
theorem dX0_differentForms_56 : decode cX0_differentForms 56 = .ok (.bipush 48, 2) := by decide +kernel
theorem dX0_differentForms_58 : decode cX0_differentForms 58 = .ok (.ireturn, 1) := by decide +kernel
theorem dX0_formOfOther_0 : decode cX0_formOfOther 0 = .ok (.iload_n 1, 1) := by decide +kernel
theorem dX0_formOfOther_1 : decode cX0_formOfOther 1 = .ok (.invokestatic 20, 3) := by decide +kernel
theorem dX0_formOfOther_4 : decode cX0_formOfOther 4 = .ok (.aload_n 0, 1) := by decide +kernel
theorem dX0_formOfOther_5 : decode cX0_formOfOther 5 = .ok (.iload_n 1, 1) := by decide +kernel
theorem dX0_formOfOther_6 : decode cX0_formOfOther 6 = .ok (.invokevirtual 32, 3) := by decide +kernel
theorem dX0_formOfOther_9 : decode cX0_formOfOther 9 = .ok (.lstore_n 2, 1) := by decide +kernel
theorem dX0_formOfOther_10 : decode cX0_formOfOther 10 = .ok (.aload_n 0, 1) := by decide +kernel
theorem dX0_formOfOther_11 : decode cX0_formOfOther 11 = .ok (.iconst 1, 1) := by decide +kernel
theorem dX0_formOfOther_12 : decode cX0_formOfOther 12 = .ok (.iload_n 1, 1) := by decide +kernel
theorem dX0_formOfOther_13 : decode cX0_formOfOther 13 = .ok (.isub, 1) := by decide +kernel
theorem dX0_formOfOther_14 : decode cX0_formOfOther 14 = .ok (.invokevirtual 32, 3) := by decide +kernel
theorem dX0_formOfOther_17 : decode cX0_formOfOther 17 = .ok (.lstore 4, 2) := by decide +kernel
theorem dX0_formOfOther_19 : decode cX0_formOfOther 19 = .ok (.iconst 0, 1) := by decide +kernel
theorem dX0_formOfOther_20 : decode cX0_formOfOther 20 = .ok (.istore 6, 2) := by decide +kernel
theorem dX0_formOfOther_22 : decode cX0_formOfOther 22 = .ok (.iload 6, 2) := by decide +kernel
theorem dX0_formOfOther_24 : decode cX0_formOfOther 24 = .ok (.bipush 48, 2) := by decide +kernel
theorem dX0_formOfOther_26 : decode cX0_formOfOther 26 = .ok (.if_icmp .ge 24, 3) := by decide +kernel
theorem dX0_formOfOther_29 : decode cX0_formOfOther 29 = .ok (.lload_n 2, 1) := by decide +kernel
theorem dX0_formOfOther_30 : decode cX0_formOfOther 30 = .ok (.iload 6, 2) := by decide +kernel
theorem dX0_formOfOther_32 : decode cX0_formOfOther 32 = .ok (.invokestatic 54, 3) := by decide +kernel
theorem dX0_formOfOther_35 : decode cX0_formOfOther 35 = .ok (.lload 4, 2) := by decide +kernel
theorem dX0_formOfOther_37 : decode cX0_formOfOther 37 = .ok (.lcmp, 1) := by decide +kernel
theorem dX0_formOfOther_38 : decode cX0_formOfOther 38 = .ok (.ifCond .ne 6, 3) := by decide +kernel
theorem dX0_formOfOther_41 : decode cX0_formOfOther 41 = .ok (.iload 6, 2) := by decide +kernel
theorem dX0_formOfOther_43 : decode cX0_formOfOther 43 = .ok (.ireturn, 1) := by decide +kernel
theorem dX0_formOfOther_44 : decode cX0_formOfOther 44 = .ok (.iinc 6 1, 3) := by decide +kernel
theorem dX0_formOfOther_47 : decode cX0_formOfOther 47 = .ok (.goto (-25), 3) := by decide +kernel
theorem dX0_formOfOther_50 : decode cX0_formOfOther 50 = .ok (.iconst (-1), 1) := by decide +kernel
theorem dX0_formOfOther_51 : decode cX0_formOfOther 51 = .ok (.ireturn, 1) := by decide +kernel
theorem dX0_segment_0 : decode cX0_segment 0 = .ok (.iload_n 1, 1) := by decide +kernel
theorem dX0_segment_1 : decode cX0_segment 1 = .ok (.invokestatic 20, 3) := by decide +kernel
theorem dX0_segment_4 : decode cX0_segment 4 = .ok (.iload_n 2, 1) := by decide +kernel
theorem dX0_segment_5 : decode cX0_segment 5 = .ok (.bipush 11, 2) := by decide +kernel
theorem dX0_segment_7 : decode cX0_segment 7 = .ok (.invokestatic 24, 3) := by decide +kernel
theorem dX0_segment_10 : decode cX0_segment 10 = .ok (.iload_n 3, 1) := by decide +kernel
theorem dX0_segment_11 : decode cX0_segment 11 = .ok (.iconst 1, 1) := by decide +kernel
theorem dX0_segment_12 : decode cX0_segment 12 = .ok (.bipush 12, 2) := by decide +kernel
theorem dX0_segment_14 : decode cX0_segment 14 = .ok (.iload_n 2, 1) := by decide +kernel
theorem dX0_segment_15 : decode cX0_segment 15 = .ok (.isub, 1) := by decide +kernel
theorem dX0_segment_16 : decode cX0_segment 16 = .ok (.invokestatic 28, 3) := by decide +kernel
theorem dX0_segment_19 : decode cX0_segment 19 = .ok (.aload_n 0, 1) := by decide +kernel
theorem dX0_segment_20 : decode cX0_segment 20 = .ok (.iload_n 1, 1) := by decide +kernel
theorem dX0_segment_21 : decode cX0_segment 21 = .ok (.invokevirtual 32, 3) := by decide +kernel
theorem dX0_segment_24 : decode cX0_segment 24 = .ok (.iload_n 2, 1) := by decide +kernel
theorem dX0_segment_25 : decode cX0_segment 25 = .ok (.iload_n 3, 1) := by decide +kernel
theorem dX0_segment_26 : decode cX0_segment 26 = .ok (.invokestatic 77, 3) := by decide +kernel
theorem dX0_segment_29 : decode cX0_segment 29 = .ok (.ireturn, 1) := by decide +kernel
theorem dX0_classOf_0 : decode cX0_classOf 0 = .ok (.iload_n 1, 1) := by decide +kernel
theorem dX0_classOf_1 : decode cX0_classOf 1 = .ok (.iconst 0, 1) := by decide +kernel
theorem dX0_classOf_2 : decode cX0_classOf 2 = .ok (.sipush 4095, 3) := by decide +kernel
theorem dX0_classOf_5 : decode cX0_classOf 5 = .ok (.invokestatic 28, 3) := by decide +kernel
theorem dX0_classOf_8 : decode cX0_classOf 8 = .ok (.iload_n 1, 1) := by decide +kernel
theorem dX0_classOf_9 : decode cX0_classOf 9 = .ok (.invokestatic 81, 3) := by decide +kernel
theorem dX0_classOf_12 : decode cX0_classOf 12 = .ok (.ireturn, 1) := by decide +kernel
theorem dX0_pairs_0 : decode cX0_pairs 0 = .ok (.iload_n 1, 1) := by decide +kernel
theorem dX0_pairs_1 : decode cX0_pairs 1 = .ok (.iconst 0, 1) := by decide +kernel
theorem dX0_pairs_2 : decode cX0_pairs 2 = .ok (.sipush 4095, 3) := by decide +kernel
theorem dX0_pairs_5 : decode cX0_pairs 5 = .ok (.invokestatic 28, 3) := by decide +kernel
theorem dX0_pairs_8 : decode cX0_pairs 8 = .ok (.iload_n 2, 1) := by decide +kernel
theorem dX0_pairs_9 : decode cX0_pairs 9 = .ok (.iconst 1, 1) := by decide +kernel
theorem dX0_pairs_10 : decode cX0_pairs 10 = .ok (.bipush 6, 2) := by decide +kernel
theorem dX0_pairs_12 : decode cX0_pairs 12 = .ok (.invokestatic 28, 3) := by decide +kernel
theorem dX0_pairs_15 : decode cX0_pairs 15 = .ok (.iload_n 1, 1) := by decide +kernel
theorem dX0_pairs_16 : decode cX0_pairs 16 = .ok (.iload_n 1, 1) := by decide +kernel
theorem dX0_pairs_17 : decode cX0_pairs 17 = .ok (.iload_n 2, 1) := by decide +kernel
theorem dX0_pairs_18 : decode cX0_pairs 18 = .ok (.invokestatic 84, 3) := by decide +kernel
theorem dX0_pairs_21 : decode cX0_pairs 21 = .ok (.iand, 1) := by decide +kernel
theorem dX0_pairs_22 : decode cX0_pairs 22 = .ok (.invokestatic 72, 3) := by decide +kernel
theorem dX0_pairs_25 : decode cX0_pairs 25 = .ok (.istore_n 3, 1) := by decide +kernel
theorem dX0_pairs_26 : decode cX0_pairs 26 = .ok (.iload_n 2, 1) := by decide +kernel
theorem dX0_pairs_27 : decode cX0_pairs 27 = .ok (.bipush 6, 2) := by decide +kernel
theorem dX0_pairs_29 : decode cX0_pairs 29 = .ok (.if_icmp .ne 9, 3) := by decide +kernel
theorem dX0_pairs_32 : decode cX0_pairs 32 = .ok (.iload_n 3, 1) := by decide +kernel
theorem dX0_pairs_33 : decode cX0_pairs 33 = .ok (.iconst 2, 1) := by decide +kernel
theorem dX0_pairs_34 : decode cX0_pairs 34 = .ok (.idiv, 1) := by decide +kernel
theorem dX0_pairs_35 : decode cX0_pairs 35 = .ok (.goto 4, 3) := by decide +kernel
theorem dX0_pairs_38 : decode cX0_pairs 38 = .ok (.iload_n 3, 1) := by decide +kernel
theorem dX0_pairs_39 : decode cX0_pairs 39 = .ok (.ireturn, 1) := by decide +kernel
theorem dX0_combining_0 : decode cX0_combining 0 = .ok (.iload_n 1, 1) := by decide +kernel
theorem dX0_combining_1 : decode cX0_combining 1 = .ok (.invokestatic 20, 3) := by decide +kernel
theorem dX0_combining_4 : decode cX0_combining 4 = .ok (.aload_n 0, 1) := by decide +kernel
theorem dX0_combining_5 : decode cX0_combining 5 = .ok (.iload_n 1, 1) := by decide +kernel
theorem dX0_combining_6 : decode cX0_combining 6 = .ok (.invokevirtual 32, 3) := by decide +kernel
theorem dX0_combining_9 : decode cX0_combining 9 = .ok (.lstore_n 2, 1) := by decide +kernel
theorem dX0_combining_10 : decode cX0_combining 10 = .ok (.lload_n 2, 1) := by decide +kernel
theorem dX0_combining_11 : decode cX0_combining 11 = .ok (.iconst 0, 1) := by decide +kernel
theorem dX0_combining_12 : decode cX0_combining 12 = .ok (.bipush 6, 2) := by decide +kernel
theorem dX0_combining_14 : decode cX0_combining 14 = .ok (.invokestatic 77, 3) := by decide +kernel
theorem dX0_combining_17 : decode cX0_combining 17 = .ok (.istore 4, 2) := by decide +kernel
theorem dX0_combining_19 : decode cX0_combining 19 = .ok (.lconst 0, 1) := by decide +kernel
theorem dX0_combining_20 : decode cX0_combining 20 = .ok (.lstore 5, 2) := by decide +kernel
theorem dX0_combining_22 : decode cX0_combining 22 = .ok (.iconst 0, 1) := by decide +kernel
theorem dX0_combining_23 : decode cX0_combining 23 = .ok (.istore 7, 2) := by decide +kernel
theorem dX0_combining_25 : decode cX0_combining 25 = .ok (.iload 7, 2) := by decide +kernel
theorem dX0_combining_27 : decode cX0_combining 27 = .ok (.bipush 48, 2) := by decide +kernel
theorem dX0_combining_29 : decode cX0_combining 29 = .ok (.if_icmp .ge 36, 3) := by decide +kernel
theorem dX0_combining_32 : decode cX0_combining 32 = .ok (.iload 4, 2) := by decide +kernel
theorem dX0_combining_34 : decode cX0_combining 34 = .ok (.lload_n 2, 1) := by decide +kernel
theorem dX0_combining_35 : decode cX0_combining 35 = .ok (.iload 7, 2) := by decide +kernel
theorem dX0_combining_37 : decode cX0_combining 37 = .ok (.invokestatic 54, 3) := by decide +kernel
theorem dX0_combining_40 : decode cX0_combining 40 = .ok (.iconst 0, 1) := by decide +kernel
theorem dX0_combining_41 : decode cX0_combining 41 = .ok (.bipush 6, 2) := by decide +kernel
theorem dX0_combining_43 : decode cX0_combining 43 = .ok (.invokestatic 77, 3) := by decide +kernel
theorem dX0_combining_46 : decode cX0_combining 46 = .ok (.iand, 1) := by decide +kernel
theorem dX0_combining_47 : decode cX0_combining 47 = .ok (.ifCond .ne 12, 3) := by decide +kernel
theorem dX0_combining_50 : decode cX0_combining 50 = .ok (.lload 5, 2) := by decide +kernel
theorem dX0_combining_52 : decode cX0_combining 52 = .ok (.lconst 1, 1) := by decide +kernel
theorem dX0_combining_53 : decode cX0_combining 53 = .ok (.iload 7, 2) := by decide +kernel
theorem dX0_combining_55 : decode cX0_combining 55 = .ok (.lshl, 1) := by decide +kernel
theorem dX0_combining_56 : decode cX0_combining 56 = .ok (.lor, 1) := by decide +kernel
theorem dX0_combining_57 : decode cX0_combining 57 = .ok (.lstore 5, 2) := by decide +kernel
theorem dX0_combining_59 : decode cX0_combining 59 = .ok (.iinc 7 1, 3) := by decide +kernel
theorem dX0_combining_62 : decode cX0_combining 62 = .ok (.goto (-37), 3) := by decide +kernel
theorem dX0_combining_65 : decode cX0_combining 65 = .ok (.lload 5, 2) := by decide +kernel
theorem dX0_combining_67 : decode cX0_combining 67 = .ok (.lreturn, 1) := by decide +kernel
theorem dX0_isDerived_0 : decode cX0_isDerived 0 = .ok (.iload_n 1, 1) := by decide +kernel
theorem dX0_isDerived_1 : decode cX0_isDerived 1 = .ok (.invokestatic 20, 3) := by decide +kernel
theorem dX0_isDerived_4 : decode cX0_isDerived 4 = .ok (.iload_n 2, 1) := by decide +kernel
theorem dX0_isDerived_5 : decode cX0_isDerived 5 = .ok (.invokestatic 87, 3) := by decide +kernel
theorem dX0_isDerived_8 : decode cX0_isDerived 8 = .ok (.aload_n 0, 1) := by decide +kernel
theorem dX0_isDerived_9 : decode cX0_isDerived 9 = .ok (.iload_n 1, 1) := by decide +kernel
theorem dX0_isDerived_10 : decode cX0_isDerived 10 = .ok (.invokevirtual 32, 3) := by decide +kernel
theorem dX0_isDerived_13 : decode cX0_isDerived 13 = .ok (.lstore_n 3, 1) := by decide +kernel
theorem dX0_isDerived_14 : decode cX0_isDerived 14 = .ok (.lload_n 3, 1) := by decide +kernel
theorem dX0_isDerived_15 : decode cX0_isDerived 15 = .ok (.iconst 0, 1) := by decide +kernel
theorem dX0_isDerived_16 : decode cX0_isDerived 16 = .ok (.iload_n 2, 1) := by decide +kernel
theorem dX0_isDerived_17 : decode cX0_isDerived 17 = .ok (.invokestatic 77, 3) := by decide +kernel
theorem dX0_isDerived_20 : decode cX0_isDerived 20 = .ok (.invokestatic 81, 3) := by decide +kernel
theorem dX0_isDerived_23 : decode cX0_isDerived 23 = .ok (.istore 5, 2) := by decide +kernel
theorem dX0_isDerived_25 : decode cX0_isDerived 25 = .ok (.iconst 1, 1) := by decide +kernel
theorem dX0_isDerived_26 : decode cX0_isDerived 26 = .ok (.istore 6, 2) := by decide +kernel
theorem dX0_isDerived_28 : decode cX0_isDerived 28 = .ok (.iload 6, 2) := by decide +kernel
theorem dX0_isDerived_30 : decode cX0_isDerived 30 = .ok (.bipush 12, 2) := by decide +kernel
theorem dX0_isDerived_32 : decode cX0_isDerived 32 = .ok (.if_icmp .ge 39, 3) := by decide +kernel
theorem dX0_isDerived_35 : decode cX0_isDerived 35 = .ok (.iload 6, 2) := by decide +kernel
theorem dX0_isDerived_37 : decode cX0_isDerived 37 = .ok (.iload_n 2, 1) := by decide +kernel
theorem dX0_isDerived_38 : decode cX0_isDerived 38 = .ok (.imul, 1) := by decide +kernel
theorem dX0_isDerived_39 : decode cX0_isDerived 39 = .ok (.istore 7, 2) := by decide +kernel
theorem dX0_isDerived_41 : decode cX0_isDerived 41 = .ok (.iload 7, 2) := by decide +kernel
theorem dX0_isDerived_43 : decode cX0_isDerived 43 = .ok (.bipush 12, 2) := by decide +kernel
theorem dX0_isDerived_45 : decode cX0_isDerived 45 = .ok (.if_icmp .ge 20, 3) := by decide +kernel
theorem dX0_isDerived_48 : decode cX0_isDerived 48 = .ok (.lload_n 3, 1) := by decide +kernel
theorem dX0_isDerived_49 : decode cX0_isDerived 49 = .ok (.iload 7, 2) := by decide +kernel
theorem dX0_isDerived_51 : decode cX0_isDerived 51 = .ok (.iload_n 2, 1) := by decide +kernel
theorem dX0_isDerived_52 : decode cX0_isDerived 52 = .ok (.invokestatic 77, 3) := by decide +kernel
theorem dX0_isDerived_55 : decode cX0_isDerived 55 = .ok (.invokestatic 81, 3) := by decide +kernel
theorem dX0_isDerived_58 : decode cX0_isDerived 58 = .ok (.iload 5, 2) := by decide +kernel
theorem dX0_isDerived_60 : decode cX0_isDerived 60 = .ok (.if_icmp .eq 5, 3) := by decide +kernel
theorem dX0_isDerived_63 : decode cX0_isDerived 63 = .ok (.iconst 0, 1) := by decide +kernel
theorem dX0_isDerived_64 : decode cX0_isDerived 64 = .ok (.ireturn, 1) := by decide +kernel
theorem dX0_isDerived_65 : decode cX0_isDerived 65 = .ok (.iinc 6 1, 3) := by decide +kernel
theorem dX0_isDerived_68 : decode cX0_isDerived 68 = .ok (.goto (-40), 3) := by decide +kernel
theorem dX0_isDerived_71 : decode cX0_isDerived 71 = .ok (.iconst 1, 1) := by decide +kernel
theorem dX0_isDerived_72 : decode cX0_isDerived 72 = .ok (.ireturn, 1) := by decide +kernel
theorem dX0_keptSets_0 : decode cX0_keptSets 0 = .ok (.iload_n 1, 1) := by decide +kernel
theorem dX0_keptSets_1 : decode cX0_keptSets 1 = .ok (.invokestatic 20, 3) := by decide +kernel
theorem dX0_keptSets_4 : decode cX0_keptSets 4 = .ok (.iload_n 2, 1) := by decide +kernel
theorem dX0_keptSets_5 : decode cX0_keptSets 5 = .ok (.iload_n 3, 1) := by decide +kernel
theorem dX0_keptSets_6 : decode cX0_keptSets 6 = .ok (.invokestatic 47, 3) := by decide +kernel
theorem dX0_keptSets_9 : decode cX0_keptSets 9 = .ok (.iload 4, 2) := by decide +kernel
theorem dX0_keptSets_11 : decode cX0_keptSets 11 = .ok (.iconst 1, 1) := by decide +kernel
theorem dX0_keptSets_12 : decode cX0_keptSets 12 = .ok (.bipush 12, 2) := by decide +kernel
theorem dX0_keptSets_14 : decode cX0_keptSets 14 = .ok (.invokestatic 28, 3) := by decide +kernel
theorem dX0_keptSets_17 : decode cX0_keptSets 17 = .ok (.aload_n 0, 1) := by decide +kernel
theorem dX0_keptSets_18 : decode cX0_keptSets 18 = .ok (.iload_n 1, 1) := by decide +kernel
theorem dX0_keptSets_19 : decode cX0_keptSets 19 = .ok (.invokevirtual 32, 3) := by decide +kernel
theorem dX0_keptSets_22 : decode cX0_keptSets 22 = .ok (.lstore 5, 2) := by decide +kernel
theorem dX0_keptSets_24 : decode cX0_keptSets 24 = .ok (.lload 5, 2) := by decide +kernel
theorem dX0_keptSets_26 : decode cX0_keptSets 26 = .ok (.lload 5, 2) := by decide +kernel
theorem dX0_keptSets_28 : decode cX0_keptSets 28 = .ok (.iload_n 2, 1) := by decide +kernel
theorem dX0_keptSets_29 : decode cX0_keptSets 29 = .ok (.iload_n 3, 1) := by decide +kernel
theorem dX0_keptSets_30 : decode cX0_keptSets 30 = .ok (.invokestatic 50, 3) := by decide +kernel
theorem dX0_keptSets_33 : decode cX0_keptSets 33 = .ok (.invokestatic 54, 3) := by decide +kernel
theorem dX0_keptSets_36 : decode cX0_keptSets 36 = .ok (.iload 4, 2) := by decide +kernel
theorem dX0_keptSets_38 : decode cX0_keptSets 38 = .ok (.invokestatic 90, 3) := by decide +kernel
theorem dX0_keptSets_41 : decode cX0_keptSets 41 = .ok (.ireturn, 1) := by decide +kernel
theorem dX0_longestKept_0 : decode cX0_longestKept 0 = .ok (.iload_n 1, 1) := by decide +kernel
theorem dX0_longestKept_1 : decode cX0_longestKept 1 = .ok (.invokestatic 20, 3) := by decide +kernel
theorem dX0_longestKept_4 : decode cX0_longestKept 4 = .ok (.iload_n 2, 1) := by decide +kernel
theorem dX0_longestKept_5 : decode cX0_longestKept 5 = .ok (.iload_n 3, 1) := by decide +kernel
theorem dX0_longestKept_6 : decode cX0_longestKept 6 = .ok (.invokestatic 47, 3) := by decide +kernel
theorem dX0_longestKept_9 : decode cX0_longestKept 9 = .ok (.aload_n 0, 1) := by decide +kernel
theorem dX0_longestKept_10 : decode cX0_longestKept 10 = .ok (.iload_n 1, 1) := by decide +kernel
theorem dX0_longestKept_11 : decode cX0_longestKept 11 = .ok (.invokevirtual 32, 3) := by decide +kernel
theorem dX0_longestKept_14 : decode cX0_longestKept 14 = .ok (.lstore 4, 2) := by decide +kernel
theorem dX0_longestKept_16 : decode cX0_longestKept 16 = .ok (.lload 4, 2) := by decide +kernel
theorem dX0_longestKept_18 : decode cX0_longestKept 18 = .ok (.lload 4, 2) := by decide +kernel
theorem dX0_longestKept_20 : decode cX0_longestKept 20 = .ok (.iload_n 2, 1) := by decide +kernel
theorem dX0_longestKept_21 : decode cX0_longestKept 21 = .ok (.iload_n 3, 1) := by decide +kernel
theorem dX0_longestKept_22 : decode cX0_longestKept 22 = .ok (.invokestatic 50, 3) := by decide +kernel
theorem dX0_longestKept_25 : decode cX0_longestKept 25 = .ok (.invokestatic 54, 3) := by decide +kernel
theorem dX0_longestKept_28 : decode cX0_longestKept 28 = .ok (.invokestatic 94, 3) := by decide +kernel
theorem dX0_longestKept_31 : decode cX0_longestKept 31 = .ok (.lstore 6, 2) := by decide +kernel
theorem dX0_longestKept_33 : decode cX0_longestKept 33 = .ok (.iconst 1, 1) := by decide +kernel
theorem dX0_longestKept_34 : decode cX0_longestKept 34 = .ok (.istore 8, 2) := by decide +kernel
theorem dX0_longestKept_36 : decode cX0_longestKept 36 = .ok (.iconst 1, 1) := by decide +kernel
theorem dX0_longestKept_37 : decode cX0_longestKept 37 = .ok (.istore 9, 2) := by decide +kernel
theorem dX0_longestKept_39 : decode cX0_longestKept 39 = .ok (.iconst 1, 1) := by decide +kernel
theorem dX0_longestKept_40 : decode cX0_longestKept 40 = .ok (.istore 10, 2) := by decide +kernel
theorem dX0_longestKept_42 : decode cX0_longestKept 42 = .ok (.iload 10, 2) := by decide +kernel
theorem dX0_longestKept_44 : decode cX0_longestKept 44 = .ok (.bipush 12, 2) := by decide +kernel
theorem dX0_longestKept_46 : decode cX0_longestKept 46 = .ok (.if_icmp .ge 61, 3) := by decide +kernel
theorem dX0_longestKept_49 : decode cX0_longestKept 49 = .ok (.lload 6, 2) := by decide +kernel
theorem dX0_longestKept_51 : decode cX0_longestKept 51 = .ok (.iload 10, 2) := by decide +kernel
theorem dX0_longestKept_53 : decode cX0_longestKept 53 = .ok (.invokestatic 36, 3) := by decide +kernel
theorem dX0_longestKept_56 : decode cX0_longestKept 56 = .ok (.lload 6, 2) := by decide +kernel
theorem dX0_longestKept_58 : decode cX0_longestKept 58 = .ok (.iload 10, 2) := by decide +kernel
theorem dX0_longestKept_60 : decode cX0_longestKept 60 = .ok (.iconst 1, 1) := by decide +kernel
theorem dX0_longestKept_61 : decode cX0_longestKept 61 = .ok (.isub, 1) := by decide +kernel
theorem dX0_longestKept_62 : decode cX0_longestKept 62 = .ok (.invokestatic 36, 3) := by decide +kernel
theorem dX0_longestKept_65 : decode cX0_longestKept 65 = .ok (.iconst 1, 1) := by decide +kernel
theorem dX0_longestKept_66 : decode cX0_longestKept 66 = .ok (.iadd, 1) := by decide +kernel
theorem dX0_longestKept_67 : decode cX0_longestKept 67 = .ok (.if_icmp .ne 7, 3) := by decide +kernel
theorem dX0_longestKept_70 : decode cX0_longestKept 70 = .ok (.iconst 1, 1) := by decide +kernel
theorem dX0_longestKept_71 : decode cX0_longestKept 71 = .ok (.goto 4, 3) := by decide +kernel
theorem dX0_longestKept_74 : decode cX0_longestKept 74 = .ok (.iconst 0, 1) := by decide +kernel
theorem dX0_longestKept_75 : decode cX0_longestKept 75 = .ok (.istore 11, 2) := by decide +kernel
theorem dX0_longestKept_77 : decode cX0_longestKept 77 = .ok (.iload 11, 2) := by decide +kernel
theorem dX0_longestKept_79 : decode cX0_longestKept 79 = .ok (.ifCond .eq 10, 3) := by decide +kernel
theorem dX0_longestKept_82 : decode cX0_longestKept 82 = .ok (.iload 9, 2) := by decide +kernel
theorem dX0_longestKept_84 : decode cX0_longestKept 84 = .ok (.iconst 1, 1) := by decide +kernel
theorem dX0_longestKept_85 : decode cX0_longestKept 85 = .ok (.iadd, 1) := by decide +kernel
theorem dX0_longestKept_86 : decode cX0_longestKept 86 = .ok (.goto 4, 3) := by decide +kernel
theorem dX0_longestKept_89 : decode cX0_longestKept 89 = .ok (.iconst 1, 1) := by decide +kernel
theorem dX0_longestKept_90 : decode cX0_longestKept 90 = .ok (.istore 9, 2) := by decide +kernel
theorem dX0_longestKept_92 : decode cX0_longestKept 92 = .ok (.iload 8, 2) := by decide +kernel
theorem dX0_longestKept_94 : decode cX0_longestKept 94 = .ok (.iload 9, 2) := by decide +kernel
theorem dX0_longestKept_96 : decode cX0_longestKept 96 = .ok (.invokestatic 98, 3) := by decide +kernel
theorem dX0_longestKept_99 : decode cX0_longestKept 99 = .ok (.istore 8, 2) := by decide +kernel
theorem dX0_longestKept_101 : decode cX0_longestKept 101 = .ok (.iinc 10 1, 3) := by decide +kernel
theorem dX0_longestKept_104 : decode cX0_longestKept 104 = .ok (.goto (-62), 3) := by decide +kernel
theorem dX0_longestKept_107 : decode cX0_longestKept 107 = .ok (.iload 8, 2) := by decide +kernel
theorem dX0_longestKept_109 : decode cX0_longestKept 109 = .ok (.ireturn, 1) := by decide +kernel
theorem dX0_mostKept_0 : decode cX0_mostKept 0 = .ok (.iload_n 1, 1) := by decide +kernel
theorem dX0_mostKept_1 : decode cX0_mostKept 1 = .ok (.invokestatic 20, 3) := by decide +kernel
theorem dX0_mostKept_4 : decode cX0_mostKept 4 = .ok (.iload_n 2, 1) := by decide +kernel
theorem dX0_mostKept_5 : decode cX0_mostKept 5 = .ok (.iconst 2, 1) := by decide +kernel
theorem dX0_mostKept_6 : decode cX0_mostKept 6 = .ok (.bipush 11, 2) := by decide +kernel
theorem dX0_mostKept_8 : decode cX0_mostKept 8 = .ok (.invokestatic 28, 3) := by decide +kernel
theorem dX0_mostKept_11 : decode cX0_mostKept 11 = .ok (.aload_n 0, 1) := by decide +kernel
theorem dX0_mostKept_12 : decode cX0_mostKept 12 = .ok (.iload_n 1, 1) := by decide +kernel
theorem dX0_mostKept_13 : decode cX0_mostKept 13 = .ok (.invokevirtual 32, 3) := by decide +kernel
theorem dX0_mostKept_16 : decode cX0_mostKept 16 = .ok (.lstore_n 3, 1) := by decide +kernel
theorem dX0_mostKept_17 : decode cX0_mostKept 17 = .ok (.iconst 0, 1) := by decide +kernel
theorem dX0_mostKept_18 : decode cX0_mostKept 18 = .ok (.lload_n 3, 1) := by decide +kernel
theorem dX0_mostKept_19 : decode cX0_mostKept 19 = .ok (.iconst 0, 1) := by decide +kernel
theorem dX0_mostKept_20 : decode cX0_mostKept 20 = .ok (.invokestatic 36, 3) := by decide +kernel
theorem dX0_mostKept_23 : decode cX0_mostKept 23 = .ok (.invokestatic 50, 3) := by decide +kernel
theorem dX0_mostKept_26 : decode cX0_mostKept 26 = .ok (.istore 5, 2) := by decide +kernel
theorem dX0_mostKept_28 : decode cX0_mostKept 28 = .ok (.iconst (-1), 1) := by decide +kernel
theorem dX0_mostKept_29 : decode cX0_mostKept 29 = .ok (.istore 6, 2) := by decide +kernel
theorem dX0_mostKept_31 : decode cX0_mostKept 31 = .ok (.iconst (-1), 1) := by decide +kernel
theorem dX0_mostKept_32 : decode cX0_mostKept 32 = .ok (.istore 7, 2) := by decide +kernel
theorem dX0_mostKept_34 : decode cX0_mostKept 34 = .ok (.iconst 0, 1) := by decide +kernel
theorem dX0_mostKept_35 : decode cX0_mostKept 35 = .ok (.istore 8, 2) := by decide +kernel
theorem dX0_mostKept_37 : decode cX0_mostKept 37 = .ok (.iload 8, 2) := by decide +kernel
theorem dX0_mostKept_39 : decode cX0_mostKept 39 = .ok (.bipush 48, 2) := by decide +kernel
theorem dX0_mostKept_41 : decode cX0_mostKept 41 = .ok (.if_icmp .ge 44, 3) := by decide +kernel
theorem dX0_mostKept_44 : decode cX0_mostKept 44 = .ok (.lload_n 3, 1) := by decide +kernel
theorem dX0_mostKept_45 : decode cX0_mostKept 45 = .ok (.lload_n 3, 1) := by decide +kernel
theorem dX0_mostKept_46 : decode cX0_mostKept 46 = .ok (.iload 8, 2) := by decide +kernel
theorem dX0_mostKept_48 : decode cX0_mostKept 48 = .ok (.invokestatic 54, 3) := by decide +kernel
theorem dX0_mostKept_51 : decode cX0_mostKept 51 = .ok (.iload_n 2, 1) := by decide +kernel
theorem dX0_mostKept_52 : decode cX0_mostKept 52 = .ok (.invokestatic 90, 3) := by decide +kernel
theorem dX0_mostKept_55 : decode cX0_mostKept 55 = .ok (.istore 9, 2) := by decide +kernel
theorem dX0_mostKept_57 : decode cX0_mostKept 57 = .ok (.iload 8, 2) := by decide +kernel
theorem dX0_mostKept_59 : decode cX0_mostKept 59 = .ok (.iload 5, 2) := by decide +kernel
theorem dX0_mostKept_61 : decode cX0_mostKept 61 = .ok (.if_icmp .eq 18, 3) := by decide +kernel
theorem dX0_mostKept_64 : decode cX0_mostKept 64 = .ok (.iload 9, 2) := by decide +kernel
theorem dX0_mostKept_66 : decode cX0_mostKept 66 = .ok (.iload 7, 2) := by decide +kernel
theorem dX0_mostKept_68 : decode cX0_mostKept 68 = .ok (.if_icmp .le 11, 3) := by decide +kernel
theorem dX0_mostKept_71 : decode cX0_mostKept 71 = .ok (.iload 9, 2) := by decide +kernel
theorem dX0_mostKept_73 : decode cX0_mostKept 73 = .ok (.istore 7, 2) := by decide +kernel
theorem dX0_mostKept_75 : decode cX0_mostKept 75 = .ok (.iload 8, 2) := by decide +kernel
theorem dX0_mostKept_77 : decode cX0_mostKept 77 = .ok (.istore 6, 2) := by decide +kernel
theorem dX0_mostKept_79 : decode cX0_mostKept 79 = .ok (.iinc 8 1, 3) := by decide +kernel
theorem dX0_mostKept_82 : decode cX0_mostKept 82 = .ok (.goto (-45), 3) := by decide +kernel
theorem dX0_mostKept_85 : decode cX0_mostKept 85 = .ok (.iload 6, 2) := by decide +kernel
theorem dX0_mostKept_87 : decode cX0_mostKept 87 = .ok (.ireturn, 1) := by decide +kernel
theorem dX0_cuts_0 : decode cX0_cuts 0 = .ok (.iload_n 1, 1) := by decide +kernel
theorem dX0_cuts_1 : decode cX0_cuts 1 = .ok (.iconst 0, 1) := by decide +kernel
theorem dX0_cuts_2 : decode cX0_cuts 2 = .ok (.bipush 47, 2) := by decide +kernel
theorem dX0_cuts_4 : decode cX0_cuts 4 = .ok (.invokestatic 28, 3) := by decide +kernel
theorem dX0_cuts_7 : decode cX0_cuts 7 = .ok (.iload_n 2, 1) := by decide +kernel
theorem dX0_cuts_8 : decode cX0_cuts 8 = .ok (.iconst 0, 1) := by decide +kernel
theorem dX0_cuts_9 : decode cX0_cuts 9 = .ok (.bipush 47, 2) := by decide +kernel
theorem dX0_cuts_11 : decode cX0_cuts 11 = .ok (.invokestatic 28, 3) := by decide +kernel
theorem dX0_cuts_14 : decode cX0_cuts 14 = .ok (.aload_n 0, 1) := by decide +kernel
theorem dX0_cuts_15 : decode cX0_cuts 15 = .ok (.getfield 13, 3) := by decide +kernel
theorem dX0_cuts_18 : decode cX0_cuts 18 = .ok (.iload_n 1, 1) := by decide +kernel
theorem dX0_cuts_19 : decode cX0_cuts 19 = .ok (.invokestatic 54, 3) := by decide +kernel
theorem dX0_cuts_22 : decode cX0_cuts 22 = .ok (.lstore_n 3, 1) := by decide +kernel
theorem dX0_cuts_23 : decode cX0_cuts 23 = .ok (.aload_n 0, 1) := by decide +kernel
theorem dX0_cuts_24 : decode cX0_cuts 24 = .ok (.getfield 17, 3) := by decide +kernel
theorem dX0_cuts_27 : decode cX0_cuts 27 = .ok (.iload_n 2, 1) := by decide +kernel
theorem dX0_cuts_28 : decode cX0_cuts 28 = .ok (.invokestatic 54, 3) := by decide +kernel
theorem dX0_cuts_31 : decode cX0_cuts 31 = .ok (.lstore 5, 2) := by decide +kernel
theorem dX0_cuts_33 : decode cX0_cuts 33 = .ok (.iconst 0, 1) := by decide +kernel
theorem dX0_cuts_34 : decode cX0_cuts 34 = .ok (.istore 7, 2) := by decide +kernel
theorem dX0_cuts_36 : decode cX0_cuts 36 = .ok (.iconst 0, 1) := by decide +kernel
theorem dX0_cuts_37 : decode cX0_cuts 37 = .ok (.istore 8, 2) := by decide +kernel
theorem dX0_cuts_39 : decode cX0_cuts 39 = .ok (.iload 8, 2) := by decide +kernel
theorem dX0_cuts_41 : decode cX0_cuts 41 = .ok (.bipush 12, 2) := by decide +kernel
theorem dX0_cuts_43 : decode cX0_cuts 43 = .ok (.if_icmp .gt 43, 3) := by decide +kernel
theorem dX0_cuts_46 : decode cX0_cuts 46 = .ok (.lload_n 3, 1) := by decide +kernel
theorem dX0_cuts_47 : decode cX0_cuts 47 = .ok (.iconst 0, 1) := by decide +kernel
theorem dX0_cuts_48 : decode cX0_cuts 48 = .ok (.iload 8, 2) := by decide +kernel
theorem dX0_cuts_50 : decode cX0_cuts 50 = .ok (.invokestatic 77, 3) := by decide +kernel
theorem dX0_cuts_53 : decode cX0_cuts 53 = .ok (.lload 5, 2) := by decide +kernel
theorem dX0_cuts_55 : decode cX0_cuts 55 = .ok (.iconst 0, 1) := by decide +kernel
theorem dX0_cuts_56 : decode cX0_cuts 56 = .ok (.bipush 12, 2) := by decide +kernel
theorem dX0_cuts_58 : decode cX0_cuts 58 = .ok (.iload 8, 2) := by decide +kernel
theorem dX0_cuts_60 : decode cX0_cuts 60 = .ok (.isub, 1) := by decide +kernel
theorem dX0_cuts_61 : decode cX0_cuts 61 = .ok (.invokestatic 77, 3) := by decide +kernel
theorem dX0_cuts_64 : decode cX0_cuts 64 = .ok (.ior, 1) := by decide +kernel
theorem dX0_cuts_65 : decode cX0_cuts 65 = .ok (.sipush 4095, 3) := by decide +kernel
theorem dX0_cuts_68 : decode cX0_cuts 68 = .ok (.if_icmp .ne 12, 3) := by decide +kernel
theorem dX0_cuts_71 : decode cX0_cuts 71 = .ok (.iload 7, 2) := by decide +kernel
theorem dX0_cuts_73 : decode cX0_cuts 73 = .ok (.iconst 1, 1) := by decide +kernel
theorem dX0_cuts_74 : decode cX0_cuts 74 = .ok (.iload 8, 2) := by decide +kernel
theorem dX0_cuts_76 : decode cX0_cuts 76 = .ok (.ishl, 1) := by decide +kernel
theorem dX0_cuts_77 : decode cX0_cuts 77 = .ok (.ior, 1) := by decide +kernel
theorem dX0_cuts_78 : decode cX0_cuts 78 = .ok (.istore 7, 2) := by decide +kernel
theorem dX0_cuts_80 : decode cX0_cuts 80 = .ok (.iinc 8 1, 3) := by decide +kernel
theorem dX0_cuts_83 : decode cX0_cuts 83 = .ok (.goto (-44), 3) := by decide +kernel
theorem dX0_cuts_86 : decode cX0_cuts 86 = .ok (.iload 7, 2) := by decide +kernel
theorem dX0_cuts_88 : decode cX0_cuts 88 = .ok (.ireturn, 1) := by decide +kernel
theorem dX0_write_0 : decode cX0_write 0 = .ok (.iload_n 1, 1) := by decide +kernel
theorem dX0_write_1 : decode cX0_write 1 = .ok (.iconst 0, 1) := by decide +kernel
theorem dX0_write_2 : decode cX0_write 2 = .ok (.bipush 11, 2) := by decide +kernel
theorem dX0_write_4 : decode cX0_write 4 = .ok (.invokestatic 28, 3) := by decide +kernel
theorem dX0_write_7 : decode cX0_write 7 = .ok (.aload_n 0, 1) := by decide +kernel
theorem dX0_write_8 : decode cX0_write 8 = .ok (.iload_n 1, 1) := by decide +kernel
theorem dX0_write_9 : decode cX0_write 9 = .ok (.invokevirtual 103, 3) := by decide +kernel
theorem dX0_write_12 : decode cX0_write 12 = .ok (.ifCond .eq 13, 3) := by decide +kernel
theorem dX0_write_15 : decode cX0_write 15 = .ok (.new 107, 3) := by decide +kernel
theorem dX0_write_18 : decode cX0_write 18 = .ok (.dup, 1) := by decide +kernel
theorem dX0_write_19 : decode cX0_write 19 = .ok (.ldc 109, 2) := by decide +kernel
theorem dX0_write_21 : decode cX0_write 21 = .ok (.invokespecial 111, 3) := by decide +kernel
theorem dX0_write_24 : decode cX0_write 24 = .ok (.athrow, 1) := by decide +kernel
theorem dX0_write_25 : decode cX0_write 25 = .ok (.aload_n 0, 1) := by decide +kernel
theorem dX0_write_26 : decode cX0_write 26 = .ok (.aload_n 0, 1) := by decide +kernel
theorem dX0_write_27 : decode cX0_write 27 = .ok (.getfield 114, 3) := by decide +kernel
theorem dX0_write_30 : decode cX0_write 30 = .ok (.aload_n 0, 1) := by decide +kernel
theorem dX0_write_31 : decode cX0_write 31 = .ok (.getfield 117, 3) := by decide +kernel
theorem dX0_write_34 : decode cX0_write 34 = .ok (.iload_n 1, 1) := by decide +kernel
theorem dX0_write_35 : decode cX0_write 35 = .ok (.invokestatic 9, 3) := by decide +kernel
theorem dX0_write_38 : decode cX0_write 38 = .ok (.putfield 114, 3) := by decide +kernel
theorem dX0_write_41 : decode cX0_write 41 = .ok (.aload_n 0, 1) := by decide +kernel
theorem dX0_write_42 : decode cX0_write 42 = .ok (.dup, 1) := by decide +kernel
theorem dX0_write_43 : decode cX0_write 43 = .ok (.getfield 117, 3) := by decide +kernel
theorem dX0_write_46 : decode cX0_write 46 = .ok (.iconst 1, 1) := by decide +kernel
theorem dX0_write_47 : decode cX0_write 47 = .ok (.iadd, 1) := by decide +kernel
theorem dX0_write_48 : decode cX0_write 48 = .ok (.putfield 117, 3) := by decide +kernel
theorem dX0_write_51 : decode cX0_write 51 = .ok (.aload_n 0, 1) := by decide +kernel
theorem dX0_write_52 : decode cX0_write 52 = .ok (.getfield 117, 3) := by decide +kernel
theorem dX0_write_55 : decode cX0_write 55 = .ok (.ireturn, 1) := by decide +kernel
theorem dX0_erase_0 : decode cX0_erase 0 = .ok (.aload_n 0, 1) := by decide +kernel
theorem dX0_erase_1 : decode cX0_erase 1 = .ok (.getfield 117, 3) := by decide +kernel
theorem dX0_erase_4 : decode cX0_erase 4 = .ok (.istore_n 1, 1) := by decide +kernel
theorem dX0_erase_5 : decode cX0_erase 5 = .ok (.aload_n 0, 1) := by decide +kernel
theorem dX0_erase_6 : decode cX0_erase 6 = .ok (.lconst 0, 1) := by decide +kernel
theorem dX0_erase_7 : decode cX0_erase 7 = .ok (.putfield 114, 3) := by decide +kernel
theorem dX0_erase_10 : decode cX0_erase 10 = .ok (.aload_n 0, 1) := by decide +kernel
theorem dX0_erase_11 : decode cX0_erase 11 = .ok (.iconst 0, 1) := by decide +kernel
theorem dX0_erase_12 : decode cX0_erase 12 = .ok (.putfield 117, 3) := by decide +kernel
theorem dX0_erase_15 : decode cX0_erase 15 = .ok (.iload_n 1, 1) := by decide +kernel
theorem dX0_erase_16 : decode cX0_erase 16 = .ok (.ireturn, 1) := by decide +kernel
theorem dX0_formsWithPhrase_0 : decode cX0_formsWithPhrase 0 = .ok (.iload_n 1, 1) := by decide +kernel
theorem dX0_formsWithPhrase_1 : decode cX0_formsWithPhrase 1 = .ok (.invokestatic 20, 3) := by decide +kernel
theorem dX0_formsWithPhrase_4 : decode cX0_formsWithPhrase 4 = .ok (.aload_n 0, 1) := by decide +kernel
theorem dX0_formsWithPhrase_5 : decode cX0_formsWithPhrase 5 = .ok (.getfield 117, 3) := by decide +kernel
theorem dX0_formsWithPhrase_8 : decode cX0_formsWithPhrase 8 = .ok (.ifCond .ne 7, 3) := by decide +kernel
theorem dX0_formsWithPhrase_11 : decode cX0_formsWithPhrase 11 = .ok (.ldc2_w 121, 3) := by decide +kernel
theorem dX0_formsWithPhrase_14 : decode cX0_formsWithPhrase 14 = .ok (.lreturn, 1) := by decide +kernel
theorem dX0_formsWithPhrase_15 : decode cX0_formsWithPhrase 15 = .ok (.aload_n 0, 1) := by decide +kernel
theorem dX0_formsWithPhrase_16 : decode cX0_formsWithPhrase 16 = .ok (.iload_n 1, 1) := by decide +kernel
theorem dX0_formsWithPhrase_17 : decode cX0_formsWithPhrase 17 = .ok (.invokevirtual 32, 3) := by decide +kernel
theorem dX0_formsWithPhrase_20 : decode cX0_formsWithPhrase 20 = .ok (.lstore_n 2, 1) := by decide +kernel
theorem dX0_formsWithPhrase_21 : decode cX0_formsWithPhrase 21 = .ok (.lconst 0, 1) := by decide +kernel
theorem dX0_formsWithPhrase_22 : decode cX0_formsWithPhrase 22 = .ok (.lstore 4, 2) := by decide +kernel
theorem dX0_formsWithPhrase_24 : decode cX0_formsWithPhrase 24 = .ok (.iconst 0, 1) := by decide +kernel
theorem dX0_formsWithPhrase_25 : decode cX0_formsWithPhrase 25 = .ok (.istore 6, 2) := by decide +kernel
theorem dX0_formsWithPhrase_27 : decode cX0_formsWithPhrase 27 = .ok (.iload 6, 2) := by decide +kernel
theorem dX0_formsWithPhrase_29 : decode cX0_formsWithPhrase 29 = .ok (.bipush 48, 2) := by decide +kernel
theorem dX0_formsWithPhrase_31 : decode cX0_formsWithPhrase 31 = .ok (.if_icmp .ge 32, 3) := by decide +kernel
theorem dX0_formsWithPhrase_34 : decode cX0_formsWithPhrase 34 = .ok (.aload_n 0, 1) := by decide +kernel
theorem dX0_formsWithPhrase_35 : decode cX0_formsWithPhrase 35 = .ok (.lload_n 2, 1) := by decide +kernel
theorem dX0_formsWithPhrase_36 : decode cX0_formsWithPhrase 36 = .ok (.iload 6, 2) := by decide +kernel
theorem dX0_formsWithPhrase_38 : decode cX0_formsWithPhrase 38 = .ok (.invokestatic 54, 3) := by decide +kernel
theorem dX0_formsWithPhrase_41 : decode cX0_formsWithPhrase 41 = .ok (.invokevirtual 123, 3) := by decide +kernel
theorem dX0_formsWithPhrase_44 : decode cX0_formsWithPhrase 44 = .ok (.iconst (-1), 1) := by decide +kernel
theorem dX0_formsWithPhrase_45 : decode cX0_formsWithPhrase 45 = .ok (.if_icmp .eq 12, 3) := by decide +kernel
theorem dX0_formsWithPhrase_48 : decode cX0_formsWithPhrase 48 = .ok (.lload 4, 2) := by decide +kernel
theorem dX0_formsWithPhrase_50 : decode cX0_formsWithPhrase 50 = .ok (.lconst 1, 1) := by decide +kernel
theorem dX0_formsWithPhrase_51 : decode cX0_formsWithPhrase 51 = .ok (.iload 6, 2) := by decide +kernel
theorem dX0_formsWithPhrase_53 : decode cX0_formsWithPhrase 53 = .ok (.lshl, 1) := by decide +kernel
theorem dX0_formsWithPhrase_54 : decode cX0_formsWithPhrase 54 = .ok (.lor, 1) := by decide +kernel
theorem dX0_formsWithPhrase_55 : decode cX0_formsWithPhrase 55 = .ok (.lstore 4, 2) := by decide +kernel
theorem dX0_formsWithPhrase_57 : decode cX0_formsWithPhrase 57 = .ok (.iinc 6 1, 3) := by decide +kernel
theorem dX0_formsWithPhrase_60 : decode cX0_formsWithPhrase 60 = .ok (.goto (-33), 3) := by decide +kernel
theorem dX0_formsWithPhrase_63 : decode cX0_formsWithPhrase 63 = .ok (.lload 4, 2) := by decide +kernel
theorem dX0_formsWithPhrase_65 : decode cX0_formsWithPhrase 65 = .ok (.lreturn, 1) := by decide +kernel
theorem dX0_placeOfPhrase_0 : decode cX0_placeOfPhrase 0 = .ok (.iload_n 1, 1) := by decide +kernel
theorem dX0_placeOfPhrase_1 : decode cX0_placeOfPhrase 1 = .ok (.invokestatic 20, 3) := by decide +kernel
theorem dX0_placeOfPhrase_4 : decode cX0_placeOfPhrase 4 = .ok (.iload_n 2, 1) := by decide +kernel
theorem dX0_placeOfPhrase_5 : decode cX0_placeOfPhrase 5 = .ok (.iconst 0, 1) := by decide +kernel
theorem dX0_placeOfPhrase_6 : decode cX0_placeOfPhrase 6 = .ok (.bipush 47, 2) := by decide +kernel
theorem dX0_placeOfPhrase_8 : decode cX0_placeOfPhrase 8 = .ok (.invokestatic 28, 3) := by decide +kernel
theorem dX0_placeOfPhrase_11 : decode cX0_placeOfPhrase 11 = .ok (.aload_n 0, 1) := by decide +kernel
theorem dX0_placeOfPhrase_12 : decode cX0_placeOfPhrase 12 = .ok (.getfield 117, 3) := by decide +kernel
theorem dX0_placeOfPhrase_15 : decode cX0_placeOfPhrase 15 = .ok (.ifCond .ne 7, 3) := by decide +kernel
theorem dX0_placeOfPhrase_18 : decode cX0_placeOfPhrase 18 = .ok (.iconst (-1), 1) := by decide +kernel
theorem dX0_placeOfPhrase_19 : decode cX0_placeOfPhrase 19 = .ok (.goto 16, 3) := by decide +kernel
theorem dX0_placeOfPhrase_22 : decode cX0_placeOfPhrase 22 = .ok (.aload_n 0, 1) := by decide +kernel
theorem dX0_placeOfPhrase_23 : decode cX0_placeOfPhrase 23 = .ok (.aload_n 0, 1) := by decide +kernel
theorem dX0_placeOfPhrase_24 : decode cX0_placeOfPhrase 24 = .ok (.iload_n 1, 1) := by decide +kernel
theorem dX0_placeOfPhrase_25 : decode cX0_placeOfPhrase 25 = .ok (.invokevirtual 32, 3) := by decide +kernel
theorem dX0_placeOfPhrase_28 : decode cX0_placeOfPhrase 28 = .ok (.iload_n 2, 1) := by decide +kernel
theorem dX0_placeOfPhrase_29 : decode cX0_placeOfPhrase 29 = .ok (.invokestatic 54, 3) := by decide +kernel
theorem dX0_placeOfPhrase_32 : decode cX0_placeOfPhrase 32 = .ok (.invokevirtual 123, 3) := by decide +kernel
theorem dX0_placeOfPhrase_35 : decode cX0_placeOfPhrase 35 = .ok (.ireturn, 1) := by decide +kernel
theorem dX0_complete_0 : decode cX0_complete 0 = .ok (.iload_n 1, 1) := by decide +kernel
theorem dX0_complete_1 : decode cX0_complete 1 = .ok (.invokestatic 20, 3) := by decide +kernel
theorem dX0_complete_4 : decode cX0_complete 4 = .ok (.aload_n 0, 1) := by decide +kernel
theorem dX0_complete_5 : decode cX0_complete 5 = .ok (.iload_n 1, 1) := by decide +kernel
theorem dX0_complete_6 : decode cX0_complete 6 = .ok (.invokevirtual 32, 3) := by decide +kernel
theorem dX0_complete_9 : decode cX0_complete 9 = .ok (.lstore_n 2, 1) := by decide +kernel
theorem dX0_complete_10 : decode cX0_complete 10 = .ok (.aload_n 0, 1) := by decide +kernel
theorem dX0_complete_11 : decode cX0_complete 11 = .ok (.getfield 114, 3) := by decide +kernel
theorem dX0_complete_14 : decode cX0_complete 14 = .ok (.lstore 4, 2) := by decide +kernel
theorem dX0_complete_16 : decode cX0_complete 16 = .ok (.aload_n 0, 1) := by decide +kernel
theorem dX0_complete_17 : decode cX0_complete 17 = .ok (.getfield 117, 3) := by decide +kernel
theorem dX0_complete_20 : decode cX0_complete 20 = .ok (.istore 6, 2) := by decide +kernel
theorem dX0_complete_22 : decode cX0_complete 22 = .ok (.iconst 0, 1) := by decide +kernel
theorem dX0_complete_23 : decode cX0_complete 23 = .ok (.istore 7, 2) := by decide +kernel
theorem dX0_complete_25 : decode cX0_complete 25 = .ok (.iload 7, 2) := by decide +kernel
theorem dX0_complete_27 : decode cX0_complete 27 = .ok (.bipush 12, 2) := by decide +kernel
theorem dX0_complete_29 : decode cX0_complete 29 = .ok (.if_icmp .ge 40, 3) := by decide +kernel
theorem dX0_complete_32 : decode cX0_complete 32 = .ok (.lload_n 2, 1) := by decide +kernel
theorem dX0_complete_33 : decode cX0_complete 33 = .ok (.iload 7, 2) := by decide +kernel
theorem dX0_complete_35 : decode cX0_complete 35 = .ok (.invokestatic 36, 3) := by decide +kernel
theorem dX0_complete_38 : decode cX0_complete 38 = .ok (.istore 8, 2) := by decide +kernel
theorem dX0_complete_40 : decode cX0_complete 40 = .ok (.aload_n 0, 1) := by decide +kernel
theorem dX0_complete_41 : decode cX0_complete 41 = .ok (.iload 8, 2) := by decide +kernel
theorem dX0_complete_43 : decode cX0_complete 43 = .ok (.invokevirtual 103, 3) := by decide +kernel
theorem dX0_complete_46 : decode cX0_complete 46 = .ok (.ifCond .ne 17, 3) := by decide +kernel
theorem dX0_complete_49 : decode cX0_complete 49 = .ok (.lload 4, 2) := by decide +kernel
theorem dX0_complete_51 : decode cX0_complete 51 = .ok (.iload 6, 2) := by decide +kernel
theorem dX0_complete_53 : decode cX0_complete 53 = .ok (.iload 8, 2) := by decide +kernel
theorem dX0_complete_55 : decode cX0_complete 55 = .ok (.invokestatic 9, 3) := by decide +kernel
theorem dX0_complete_58 : decode cX0_complete 58 = .ok (.lstore 4, 2) := by decide +kernel
theorem dX0_complete_60 : decode cX0_complete 60 = .ok (.iinc 6 1, 3) := by decide +kernel
theorem dX0_complete_63 : decode cX0_complete 63 = .ok (.iinc 7 1, 3) := by decide +kernel
theorem dX0_complete_66 : decode cX0_complete 66 = .ok (.goto (-41), 3) := by decide +kernel
theorem dX0_complete_69 : decode cX0_complete 69 = .ok (.aload_n 0, 1) := by decide +kernel
theorem dX0_complete_70 : decode cX0_complete 70 = .ok (.iload_n 1, 1) := by decide +kernel
theorem dX0_complete_71 : decode cX0_complete 71 = .ok (.lload 4, 2) := by decide +kernel
theorem dX0_complete_73 : decode cX0_complete 73 = .ok (.invokevirtual 58, 3) := by decide +kernel
theorem dX0_complete_76 : decode cX0_complete 76 = .ok (.ireturn, 1) := by decide +kernel
theorem dX0_requireRow_0 : decode cX0_requireRow 0 = .ok (.iload_n 0, 1) := by decide +kernel
theorem dX0_requireRow_1 : decode cX0_requireRow 1 = .ok (.ifCond .eq 18, 3) := by decide +kernel
theorem dX0_requireRow_4 : decode cX0_requireRow 4 = .ok (.iload_n 0, 1) := by decide +kernel
theorem dX0_requireRow_5 : decode cX0_requireRow 5 = .ok (.iconst 1, 1) := by decide +kernel
theorem dX0_requireRow_6 : decode cX0_requireRow 6 = .ok (.if_icmp .eq 13, 3) := by decide +kernel
theorem dX0_requireRow_9 : decode cX0_requireRow 9 = .ok (.new 127, 3) := by decide +kernel
theorem dX0_requireRow_12 : decode cX0_requireRow 12 = .ok (.dup, 1) := by decide +kernel
theorem dX0_requireRow_13 : decode cX0_requireRow 13 = .ok (.ldc 129, 2) := by decide +kernel
theorem dX0_requireRow_15 : decode cX0_requireRow 15 = .ok (.invokespecial 131, 3) := by decide +kernel
theorem dX0_requireRow_18 : decode cX0_requireRow 18 = .ok (.athrow, 1) := by decide +kernel
theorem dX0_requireRow_19 : decode cX0_requireRow 19 = .ok (.return_, 1) := by decide +kernel
theorem dX0_requirePlace_0 : decode cX0_requirePlace 0 = .ok (.iload_n 0, 1) := by decide +kernel
theorem dX0_requirePlace_1 : decode cX0_requirePlace 1 = .ok (.ifCond .lt 8, 3) := by decide +kernel
theorem dX0_requirePlace_4 : decode cX0_requirePlace 4 = .ok (.iload_n 0, 1) := by decide +kernel
theorem dX0_requirePlace_5 : decode cX0_requirePlace 5 = .ok (.iload_n 1, 1) := by decide +kernel
theorem dX0_requirePlace_6 : decode cX0_requirePlace 6 = .ok (.if_icmp .le 13, 3) := by decide +kernel
theorem dX0_requirePlace_9 : decode cX0_requirePlace 9 = .ok (.new 127, 3) := by decide +kernel
theorem dX0_requirePlace_12 : decode cX0_requirePlace 12 = .ok (.dup, 1) := by decide +kernel
theorem dX0_requirePlace_13 : decode cX0_requirePlace 13 = .ok (.ldc 132, 2) := by decide +kernel
theorem dX0_requirePlace_15 : decode cX0_requirePlace 15 = .ok (.invokespecial 131, 3) := by decide +kernel
theorem dX0_requirePlace_18 : decode cX0_requirePlace 18 = .ok (.athrow, 1) := by decide +kernel
theorem dX0_requirePlace_19 : decode cX0_requirePlace 19 = .ok (.return_, 1) := by decide +kernel
theorem dX0_requireRange_0 : decode cX0_requireRange 0 = .ok (.iload_n 0, 1) := by decide +kernel
theorem dX0_requireRange_1 : decode cX0_requireRange 1 = .ok (.iload_n 1, 1) := by decide +kernel
theorem dX0_requireRange_2 : decode cX0_requireRange 2 = .ok (.if_icmp .lt 8, 3) := by decide +kernel
theorem dX0_requireRange_5 : decode cX0_requireRange 5 = .ok (.iload_n 0, 1) := by decide +kernel
theorem dX0_requireRange_6 : decode cX0_requireRange 6 = .ok (.iload_n 2, 1) := by decide +kernel
theorem dX0_requireRange_7 : decode cX0_requireRange 7 = .ok (.if_icmp .le 13, 3) := by decide +kernel
theorem dX0_requireRange_10 : decode cX0_requireRange 10 = .ok (.new 134, 3) := by decide +kernel
theorem dX0_requireRange_13 : decode cX0_requireRange 13 = .ok (.dup, 1) := by decide +kernel
theorem dX0_requireRange_14 : decode cX0_requireRange 14 = .ok (.ldc 136, 2) := by decide +kernel
theorem dX0_requireRange_16 : decode cX0_requireRange 16 = .ok (.invokespecial 138, 3) := by decide +kernel
theorem dX0_requireRange_19 : decode cX0_requireRange 19 = .ok (.athrow, 1) := by decide +kernel
theorem dX0_requireRange_20 : decode cX0_requireRange 20 = .ok (.return_, 1) := by decide +kernel
theorem dX0_requireForm_0 : decode cX0_requireForm 0 = .ok (.iload_n 0, 1) := by decide +kernel
theorem dX0_requireForm_1 : decode cX0_requireForm 1 = .ok (.iconst 0, 1) := by decide +kernel
theorem dX0_requireForm_2 : decode cX0_requireForm 2 = .ok (.iconst 3, 1) := by decide +kernel
theorem dX0_requireForm_3 : decode cX0_requireForm 3 = .ok (.invokestatic 28, 3) := by decide +kernel
theorem dX0_requireForm_6 : decode cX0_requireForm 6 = .ok (.iload_n 1, 1) := by decide +kernel
theorem dX0_requireForm_7 : decode cX0_requireForm 7 = .ok (.iconst 0, 1) := by decide +kernel
theorem dX0_requireForm_8 : decode cX0_requireForm 8 = .ok (.bipush 11, 2) := by decide +kernel
theorem dX0_requireForm_10 : decode cX0_requireForm 10 = .ok (.invokestatic 28, 3) := by decide +kernel
theorem dX0_requireForm_13 : decode cX0_requireForm 13 = .ok (.return_, 1) := by decide +kernel
theorem dX0_requireFactor_0 : decode cX0_requireFactor 0 = .ok (.iload_n 0, 1) := by decide +kernel
theorem dX0_requireFactor_1 : decode cX0_requireFactor 1 = .ok (.iconst 1, 1) := by decide +kernel
theorem dX0_requireFactor_2 : decode cX0_requireFactor 2 = .ok (.if_icmp .eq 30, 3) := by decide +kernel
theorem dX0_requireFactor_5 : decode cX0_requireFactor 5 = .ok (.iload_n 0, 1) := by decide +kernel
theorem dX0_requireFactor_6 : decode cX0_requireFactor 6 = .ok (.iconst 5, 1) := by decide +kernel
theorem dX0_requireFactor_7 : decode cX0_requireFactor 7 = .ok (.if_icmp .eq 25, 3) := by decide +kernel
theorem dX0_requireFactor_10 : decode cX0_requireFactor 10 = .ok (.iload_n 0, 1) := by decide +kernel
theorem dX0_requireFactor_11 : decode cX0_requireFactor 11 = .ok (.bipush 7, 2) := by decide +kernel
theorem dX0_requireFactor_13 : decode cX0_requireFactor 13 = .ok (.if_icmp .eq 19, 3) := by decide +kernel
theorem dX0_requireFactor_16 : decode cX0_requireFactor 16 = .ok (.iload_n 0, 1) := by decide +kernel
theorem dX0_requireFactor_17 : decode cX0_requireFactor 17 = .ok (.bipush 11, 2) := by decide +kernel
theorem dX0_requireFactor_19 : decode cX0_requireFactor 19 = .ok (.if_icmp .eq 13, 3) := by decide +kernel
theorem dX0_requireFactor_22 : decode cX0_requireFactor 22 = .ok (.new 134, 3) := by decide +kernel
theorem dX0_requireFactor_25 : decode cX0_requireFactor 25 = .ok (.dup, 1) := by decide +kernel
theorem dX0_requireFactor_26 : decode cX0_requireFactor 26 = .ok (.ldc 139, 2) := by decide +kernel
theorem dX0_requireFactor_28 : decode cX0_requireFactor 28 = .ok (.invokespecial 138, 3) := by decide +kernel
theorem dX0_requireFactor_31 : decode cX0_requireFactor 31 = .ok (.athrow, 1) := by decide +kernel
theorem dX0_requireFactor_32 : decode cX0_requireFactor 32 = .ok (.return_, 1) := by decide +kernel
theorem dX0_requireSize_0 : decode cX0_requireSize 0 = .ok (.iload_n 0, 1) := by decide +kernel
theorem dX0_requireSize_1 : decode cX0_requireSize 1 = .ok (.iconst 1, 1) := by decide +kernel
theorem dX0_requireSize_2 : decode cX0_requireSize 2 = .ok (.if_icmp .eq 40, 3) := by decide +kernel
theorem dX0_requireSize_5 : decode cX0_requireSize 5 = .ok (.iload_n 0, 1) := by decide +kernel
theorem dX0_requireSize_6 : decode cX0_requireSize 6 = .ok (.iconst 2, 1) := by decide +kernel
theorem dX0_requireSize_7 : decode cX0_requireSize 7 = .ok (.if_icmp .eq 35, 3) := by decide +kernel
theorem dX0_requireSize_10 : decode cX0_requireSize 10 = .ok (.iload_n 0, 1) := by decide +kernel
theorem dX0_requireSize_11 : decode cX0_requireSize 11 = .ok (.iconst 3, 1) := by decide +kernel
theorem dX0_requireSize_12 : decode cX0_requireSize 12 = .ok (.if_icmp .eq 30, 3) := by decide +kernel
theorem dX0_requireSize_15 : decode cX0_requireSize 15 = .ok (.iload_n 0, 1) := by decide +kernel
theorem dX0_requireSize_16 : decode cX0_requireSize 16 = .ok (.iconst 4, 1) := by decide +kernel
theorem dX0_requireSize_17 : decode cX0_requireSize 17 = .ok (.if_icmp .eq 25, 3) := by decide +kernel
theorem dX0_requireSize_20 : decode cX0_requireSize 20 = .ok (.iload_n 0, 1) := by decide +kernel
theorem dX0_requireSize_21 : decode cX0_requireSize 21 = .ok (.bipush 6, 2) := by decide +kernel
theorem dX0_requireSize_23 : decode cX0_requireSize 23 = .ok (.if_icmp .eq 19, 3) := by decide +kernel
theorem dX0_requireSize_26 : decode cX0_requireSize 26 = .ok (.iload_n 0, 1) := by decide +kernel
theorem dX0_requireSize_27 : decode cX0_requireSize 27 = .ok (.bipush 12, 2) := by decide +kernel
theorem dX0_requireSize_29 : decode cX0_requireSize 29 = .ok (.if_icmp .eq 13, 3) := by decide +kernel
theorem dX0_requireSize_32 : decode cX0_requireSize 32 = .ok (.new 134, 3) := by decide +kernel
theorem dX0_requireSize_35 : decode cX0_requireSize 35 = .ok (.dup, 1) := by decide +kernel
theorem dX0_requireSize_36 : decode cX0_requireSize 36 = .ok (.ldc 141, 2) := by decide +kernel
theorem dX0_requireSize_38 : decode cX0_requireSize 38 = .ok (.invokespecial 138, 3) := by decide +kernel
theorem dX0_requireSize_41 : decode cX0_requireSize 41 = .ok (.athrow, 1) := by decide +kernel
theorem dX0_requireSize_42 : decode cX0_requireSize 42 = .ok (.return_, 1) := by decide +kernel
theorem dX0_rowAt_0 : decode cX0_rowAt 0 = .ok (.iload_n 1, 1) := by decide +kernel
theorem dX0_rowAt_1 : decode cX0_rowAt 1 = .ok (.ifCond .ne 10, 3) := by decide +kernel
theorem dX0_rowAt_4 : decode cX0_rowAt 4 = .ok (.aload_n 0, 1) := by decide +kernel
theorem dX0_rowAt_5 : decode cX0_rowAt 5 = .ok (.getfield 13, 3) := by decide +kernel
theorem dX0_rowAt_8 : decode cX0_rowAt 8 = .ok (.goto 7, 3) := by decide +kernel
theorem dX0_rowAt_11 : decode cX0_rowAt 11 = .ok (.aload_n 0, 1) := by decide +kernel
theorem dX0_rowAt_12 : decode cX0_rowAt 12 = .ok (.getfield 17, 3) := by decide +kernel
theorem dX0_rowAt_15 : decode cX0_rowAt 15 = .ok (.lreturn, 1) := by decide +kernel
theorem dX0_setRow_0 : decode cX0_setRow 0 = .ok (.iload_n 1, 1) := by decide +kernel
theorem dX0_setRow_1 : decode cX0_setRow 1 = .ok (.ifCond .ne 11, 3) := by decide +kernel
theorem dX0_setRow_4 : decode cX0_setRow 4 = .ok (.aload_n 0, 1) := by decide +kernel
theorem dX0_setRow_5 : decode cX0_setRow 5 = .ok (.lload_n 2, 1) := by decide +kernel
theorem dX0_setRow_6 : decode cX0_setRow 6 = .ok (.putfield 13, 3) := by decide +kernel
theorem dX0_setRow_9 : decode cX0_setRow 9 = .ok (.goto 8, 3) := by decide +kernel
theorem dX0_setRow_12 : decode cX0_setRow 12 = .ok (.aload_n 0, 1) := by decide +kernel
theorem dX0_setRow_13 : decode cX0_setRow 13 = .ok (.lload_n 2, 1) := by decide +kernel
theorem dX0_setRow_14 : decode cX0_setRow 14 = .ok (.putfield 17, 3) := by decide +kernel
theorem dX0_setRow_17 : decode cX0_setRow 17 = .ok (.return_, 1) := by decide +kernel
theorem dX0_replaceRow_0 : decode cX0_replaceRow 0 = .ok (.aload_n 0, 1) := by decide +kernel
theorem dX0_replaceRow_1 : decode cX0_replaceRow 1 = .ok (.iload_n 1, 1) := by decide +kernel
theorem dX0_replaceRow_2 : decode cX0_replaceRow 2 = .ok (.lload_n 2, 1) := by decide +kernel
theorem dX0_replaceRow_3 : decode cX0_replaceRow 3 = .ok (.invokevirtual 43, 3) := by decide +kernel
theorem dX0_replaceRow_6 : decode cX0_replaceRow 6 = .ok (.lload_n 2, 1) := by decide +kernel
theorem dX0_replaceRow_7 : decode cX0_replaceRow 7 = .ok (.iconst 0, 1) := by decide +kernel
theorem dX0_replaceRow_8 : decode cX0_replaceRow 8 = .ok (.invokestatic 36, 3) := by decide +kernel
theorem dX0_replaceRow_11 : decode cX0_replaceRow 11 = .ok (.ireturn, 1) := by decide +kernel
theorem dX0_phraseHas_0 : decode cX0_phraseHas 0 = .ok (.aload_n 0, 1) := by decide +kernel
theorem dX0_phraseHas_1 : decode cX0_phraseHas 1 = .ok (.getfield 114, 3) := by decide +kernel
theorem dX0_phraseHas_4 : decode cX0_phraseHas 4 = .ok (.iconst 0, 1) := by decide +kernel
theorem dX0_phraseHas_5 : decode cX0_phraseHas 5 = .ok (.aload_n 0, 1) := by decide +kernel
theorem dX0_phraseHas_6 : decode cX0_phraseHas 6 = .ok (.getfield 117, 3) := by decide +kernel
theorem dX0_phraseHas_9 : decode cX0_phraseHas 9 = .ok (.invokestatic 77, 3) := by decide +kernel
theorem dX0_phraseHas_12 : decode cX0_phraseHas 12 = .ok (.iload_n 1, 1) := by decide +kernel
theorem dX0_phraseHas_13 : decode cX0_phraseHas 13 = .ok (.ishr, 1) := by decide +kernel
theorem dX0_phraseHas_14 : decode cX0_phraseHas 14 = .ok (.iconst 1, 1) := by decide +kernel
theorem dX0_phraseHas_15 : decode cX0_phraseHas 15 = .ok (.iand, 1) := by decide +kernel
theorem dX0_phraseHas_16 : decode cX0_phraseHas 16 = .ok (.ifCond .eq 7, 3) := by decide +kernel
theorem dX0_phraseHas_19 : decode cX0_phraseHas 19 = .ok (.iconst 1, 1) := by decide +kernel
theorem dX0_phraseHas_20 : decode cX0_phraseHas 20 = .ok (.goto 4, 3) := by decide +kernel
theorem dX0_phraseHas_23 : decode cX0_phraseHas 23 = .ok (.iconst 0, 1) := by decide +kernel
theorem dX0_phraseHas_24 : decode cX0_phraseHas 24 = .ok (.ireturn, 1) := by decide +kernel
theorem dX0_phraseBegin_0 : decode cX0_phraseBegin 0 = .ok (.lload_n 1, 1) := by decide +kernel
theorem dX0_phraseBegin_1 : decode cX0_phraseBegin 1 = .ok (.aload_n 0, 1) := by decide +kernel
theorem dX0_phraseBegin_2 : decode cX0_phraseBegin 2 = .ok (.getfield 114, 3) := by decide +kernel
theorem dX0_phraseBegin_5 : decode cX0_phraseBegin 5 = .ok (.iconst 0, 1) := by decide +kernel
theorem dX0_phraseBegin_6 : decode cX0_phraseBegin 6 = .ok (.invokestatic 36, 3) := by decide +kernel
theorem dX0_phraseBegin_9 : decode cX0_phraseBegin 9 = .ok (.invokestatic 40, 3) := by decide +kernel
theorem dX0_phraseBegin_12 : decode cX0_phraseBegin 12 = .ok (.istore_n 3, 1) := by decide +kernel
theorem dX0_phraseBegin_13 : decode cX0_phraseBegin 13 = .ok (.iload_n 3, 1) := by decide +kernel
theorem dX0_phraseBegin_14 : decode cX0_phraseBegin 14 = .ok (.aload_n 0, 1) := by decide +kernel
theorem dX0_phraseBegin_15 : decode cX0_phraseBegin 15 = .ok (.getfield 117, 3) := by decide +kernel
theorem dX0_phraseBegin_18 : decode cX0_phraseBegin 18 = .ok (.iadd, 1) := by decide +kernel
theorem dX0_phraseBegin_19 : decode cX0_phraseBegin 19 = .ok (.bipush 12, 2) := by decide +kernel
theorem dX0_phraseBegin_21 : decode cX0_phraseBegin 21 = .ok (.if_icmp .le 5, 3) := by decide +kernel
theorem dX0_phraseBegin_24 : decode cX0_phraseBegin 24 = .ok (.iconst (-1), 1) := by decide +kernel
theorem dX0_phraseBegin_25 : decode cX0_phraseBegin 25 = .ok (.ireturn, 1) := by decide +kernel
theorem dX0_phraseBegin_26 : decode cX0_phraseBegin 26 = .ok (.iconst 1, 1) := by decide +kernel
theorem dX0_phraseBegin_27 : decode cX0_phraseBegin 27 = .ok (.istore 4, 2) := by decide +kernel
theorem dX0_phraseBegin_29 : decode cX0_phraseBegin 29 = .ok (.iload 4, 2) := by decide +kernel
theorem dX0_phraseBegin_31 : decode cX0_phraseBegin 31 = .ok (.aload_n 0, 1) := by decide +kernel
theorem dX0_phraseBegin_32 : decode cX0_phraseBegin 32 = .ok (.getfield 117, 3) := by decide +kernel
theorem dX0_phraseBegin_35 : decode cX0_phraseBegin 35 = .ok (.if_icmp .ge 31, 3) := by decide +kernel
theorem dX0_phraseBegin_38 : decode cX0_phraseBegin 38 = .ok (.lload_n 1, 1) := by decide +kernel
theorem dX0_phraseBegin_39 : decode cX0_phraseBegin 39 = .ok (.iload_n 3, 1) := by decide +kernel
theorem dX0_phraseBegin_40 : decode cX0_phraseBegin 40 = .ok (.iload 4, 2) := by decide +kernel
theorem dX0_phraseBegin_42 : decode cX0_phraseBegin 42 = .ok (.iadd, 1) := by decide +kernel
theorem dX0_phraseBegin_43 : decode cX0_phraseBegin 43 = .ok (.invokestatic 36, 3) := by decide +kernel
theorem dX0_phraseBegin_46 : decode cX0_phraseBegin 46 = .ok (.aload_n 0, 1) := by decide +kernel
theorem dX0_phraseBegin_47 : decode cX0_phraseBegin 47 = .ok (.getfield 114, 3) := by decide +kernel
theorem dX0_phraseBegin_50 : decode cX0_phraseBegin 50 = .ok (.iload 4, 2) := by decide +kernel
theorem dX0_phraseBegin_52 : decode cX0_phraseBegin 52 = .ok (.invokestatic 36, 3) := by decide +kernel
theorem dX0_phraseBegin_55 : decode cX0_phraseBegin 55 = .ok (.if_icmp .eq 5, 3) := by decide +kernel
theorem dX0_phraseBegin_58 : decode cX0_phraseBegin 58 = .ok (.iconst (-1), 1) := by decide +kernel
theorem dX0_phraseBegin_59 : decode cX0_phraseBegin 59 = .ok (.ireturn, 1) := by decide +kernel
theorem dX0_phraseBegin_60 : decode cX0_phraseBegin 60 = .ok (.iinc 4 1, 3) := by decide +kernel
theorem dX0_phraseBegin_63 : decode cX0_phraseBegin 63 = .ok (.goto (-34), 3) := by decide +kernel
theorem dX0_phraseBegin_66 : decode cX0_phraseBegin 66 = .ok (.iload_n 3, 1) := by decide +kernel
theorem dX0_phraseBegin_67 : decode cX0_phraseBegin 67 = .ok (.ireturn, 1) := by decide +kernel
theorem dX0_entryAt_0 : decode cX0_entryAt 0 = .ok (.lload_n 0, 1) := by decide +kernel
theorem dX0_entryAt_1 : decode cX0_entryAt 1 = .ok (.iconst 4, 1) := by decide +kernel
theorem dX0_entryAt_2 : decode cX0_entryAt 2 = .ok (.iload_n 2, 1) := by decide +kernel
theorem dX0_entryAt_3 : decode cX0_entryAt 3 = .ok (.imul, 1) := by decide +kernel
theorem dX0_entryAt_4 : decode cX0_entryAt 4 = .ok (.lushr, 1) := by decide +kernel
theorem dX0_entryAt_5 : decode cX0_entryAt 5 = .ok (.ldc2_w 143, 3) := by decide +kernel
theorem dX0_entryAt_8 : decode cX0_entryAt 8 = .ok (.land, 1) := by decide +kernel
theorem dX0_entryAt_9 : decode cX0_entryAt 9 = .ok (.l2i, 1) := by decide +kernel
theorem dX0_entryAt_10 : decode cX0_entryAt 10 = .ok (.ireturn, 1) := by decide +kernel
theorem dX0_withEntry_0 : decode cX0_withEntry 0 = .ok (.iconst 4, 1) := by decide +kernel
theorem dX0_withEntry_1 : decode cX0_withEntry 1 = .ok (.iload_n 2, 1) := by decide +kernel
theorem dX0_withEntry_2 : decode cX0_withEntry 2 = .ok (.imul, 1) := by decide +kernel
theorem dX0_withEntry_3 : decode cX0_withEntry 3 = .ok (.istore 4, 2) := by decide +kernel
theorem dX0_withEntry_5 : decode cX0_withEntry 5 = .ok (.lload_n 0, 1) := by decide +kernel
theorem dX0_withEntry_6 : decode cX0_withEntry 6 = .ok (.ldc2_w 143, 3) := by decide +kernel
theorem dX0_withEntry_9 : decode cX0_withEntry 9 = .ok (.iload 4, 2) := by decide +kernel
theorem dX0_withEntry_11 : decode cX0_withEntry 11 = .ok (.lshl, 1) := by decide +kernel
theorem dX0_withEntry_12 : decode cX0_withEntry 12 = .ok (.ldc2_w 145, 3) := by decide +kernel
theorem dX0_withEntry_15 : decode cX0_withEntry 15 = .ok (.lxor, 1) := by decide +kernel
theorem dX0_withEntry_16 : decode cX0_withEntry 16 = .ok (.land, 1) := by decide +kernel
theorem dX0_withEntry_17 : decode cX0_withEntry 17 = .ok (.iload_n 3, 1) := by decide +kernel
theorem dX0_withEntry_18 : decode cX0_withEntry 18 = .ok (.i2l, 1) := by decide +kernel
theorem dX0_withEntry_19 : decode cX0_withEntry 19 = .ok (.iload 4, 2) := by decide +kernel
theorem dX0_withEntry_21 : decode cX0_withEntry 21 = .ok (.lshl, 1) := by decide +kernel
theorem dX0_withEntry_22 : decode cX0_withEntry 22 = .ok (.lor, 1) := by decide +kernel
theorem dX0_withEntry_23 : decode cX0_withEntry 23 = .ok (.lreturn, 1) := by decide +kernel
theorem dX0_wrap_0 : decode cX0_wrap 0 = .ok (.iload_n 0, 1) := by decide +kernel
theorem dX0_wrap_1 : decode cX0_wrap 1 = .ok (.bipush 12, 2) := by decide +kernel
theorem dX0_wrap_3 : decode cX0_wrap 3 = .ok (.invokestatic 147, 3) := by decide +kernel
theorem dX0_wrap_6 : decode cX0_wrap 6 = .ok (.ireturn, 1) := by decide +kernel
theorem dX0_intervalAt_0 : decode cX0_intervalAt 0 = .ok (.lload_n 0, 1) := by decide +kernel
theorem dX0_intervalAt_1 : decode cX0_intervalAt 1 = .ok (.iload_n 2, 1) := by decide +kernel
theorem dX0_intervalAt_2 : decode cX0_intervalAt 2 = .ok (.iconst 1, 1) := by decide +kernel
theorem dX0_intervalAt_3 : decode cX0_intervalAt 3 = .ok (.iadd, 1) := by decide +kernel
theorem dX0_intervalAt_4 : decode cX0_intervalAt 4 = .ok (.invokestatic 36, 3) := by decide +kernel
theorem dX0_intervalAt_7 : decode cX0_intervalAt 7 = .ok (.lload_n 0, 1) := by decide +kernel
theorem dX0_intervalAt_8 : decode cX0_intervalAt 8 = .ok (.iload_n 2, 1) := by decide +kernel
theorem dX0_intervalAt_9 : decode cX0_intervalAt 9 = .ok (.invokestatic 36, 3) := by decide +kernel
theorem dX0_intervalAt_12 : decode cX0_intervalAt 12 = .ok (.isub, 1) := by decide +kernel
theorem dX0_intervalAt_13 : decode cX0_intervalAt 13 = .ok (.invokestatic 65, 3) := by decide +kernel
theorem dX0_intervalAt_16 : decode cX0_intervalAt 16 = .ok (.ireturn, 1) := by decide +kernel
theorem dX0_placeIn_0 : decode cX0_placeIn 0 = .ok (.iconst 0, 1) := by decide +kernel
theorem dX0_placeIn_1 : decode cX0_placeIn 1 = .ok (.istore_n 3, 1) := by decide +kernel
theorem dX0_placeIn_2 : decode cX0_placeIn 2 = .ok (.iload_n 3, 1) := by decide +kernel
theorem dX0_placeIn_3 : decode cX0_placeIn 3 = .ok (.bipush 12, 2) := by decide +kernel
theorem dX0_placeIn_5 : decode cX0_placeIn 5 = .ok (.if_icmp .ge 20, 3) := by decide +kernel
theorem dX0_placeIn_8 : decode cX0_placeIn 8 = .ok (.lload_n 0, 1) := by decide +kernel
theorem dX0_placeIn_9 : decode cX0_placeIn 9 = .ok (.iload_n 3, 1) := by decide +kernel
theorem dX0_placeIn_10 : decode cX0_placeIn 10 = .ok (.invokestatic 36, 3) := by decide +kernel
theorem dX0_placeIn_13 : decode cX0_placeIn 13 = .ok (.iload_n 2, 1) := by decide +kernel
theorem dX0_placeIn_14 : decode cX0_placeIn 14 = .ok (.if_icmp .ne 5, 3) := by decide +kernel
theorem dX0_placeIn_17 : decode cX0_placeIn 17 = .ok (.iload_n 3, 1) := by decide +kernel
theorem dX0_placeIn_18 : decode cX0_placeIn 18 = .ok (.ireturn, 1) := by decide +kernel
theorem dX0_placeIn_19 : decode cX0_placeIn 19 = .ok (.iinc 3 1, 3) := by decide +kernel
theorem dX0_placeIn_22 : decode cX0_placeIn 22 = .ok (.goto (-20), 3) := by decide +kernel
theorem dX0_placeIn_25 : decode cX0_placeIn 25 = .ok (.iconst (-1), 1) := by decide +kernel
theorem dX0_placeIn_26 : decode cX0_placeIn 26 = .ok (.ireturn, 1) := by decide +kernel
theorem dX0_codeOf_0 : decode cX0_codeOf 0 = .ok (.bipush 12, 2) := by decide +kernel
theorem dX0_codeOf_2 : decode cX0_codeOf 2 = .ok (.iload_n 0, 1) := by decide +kernel
theorem dX0_codeOf_3 : decode cX0_codeOf 3 = .ok (.imul, 1) := by decide +kernel
theorem dX0_codeOf_4 : decode cX0_codeOf 4 = .ok (.iload_n 1, 1) := by decide +kernel
theorem dX0_codeOf_5 : decode cX0_codeOf 5 = .ok (.iadd, 1) := by decide +kernel
theorem dX0_codeOf_6 : decode cX0_codeOf 6 = .ok (.ireturn, 1) := by decide +kernel
theorem dX0_formWith_0 : decode cX0_formWith 0 = .ok (.iload_n 2, 1) := by decide +kernel
theorem dX0_formWith_1 : decode cX0_formWith 1 = .ok (.bipush 12, 2) := by decide +kernel
theorem dX0_formWith_3 : decode cX0_formWith 3 = .ok (.idiv, 1) := by decide +kernel
theorem dX0_formWith_4 : decode cX0_formWith 4 = .ok (.istore_n 3, 1) := by decide +kernel
theorem dX0_formWith_5 : decode cX0_formWith 5 = .ok (.iload_n 2, 1) := by decide +kernel
theorem dX0_formWith_6 : decode cX0_formWith 6 = .ok (.bipush 12, 2) := by decide +kernel
theorem dX0_formWith_8 : decode cX0_formWith 8 = .ok (.irem, 1) := by decide +kernel
theorem dX0_formWith_9 : decode cX0_formWith 9 = .ok (.istore 4, 2) := by decide +kernel
theorem dX0_formWith_11 : decode cX0_formWith 11 = .ok (.iload_n 3, 1) := by decide +kernel
theorem dX0_formWith_12 : decode cX0_formWith 12 = .ok (.iconst 1, 1) := by decide +kernel
theorem dX0_formWith_13 : decode cX0_formWith 13 = .ok (.if_icmp .eq 8, 3) := by decide +kernel
theorem dX0_formWith_16 : decode cX0_formWith 16 = .ok (.iload_n 3, 1) := by decide +kernel
theorem dX0_formWith_17 : decode cX0_formWith 17 = .ok (.iconst 3, 1) := by decide +kernel
theorem dX0_formWith_18 : decode cX0_formWith 18 = .ok (.if_icmp .ne 7, 3) := by decide +kernel
theorem dX0_formWith_21 : decode cX0_formWith 21 = .ok (.iconst 1, 1) := by decide +kernel
theorem dX0_formWith_22 : decode cX0_formWith 22 = .ok (.goto 4, 3) := by decide +kernel
theorem dX0_formWith_25 : decode cX0_formWith 25 = .ok (.iconst 0, 1) := by decide +kernel
theorem dX0_formWith_26 : decode cX0_formWith 26 = .ok (.istore 5, 2) := by decide +kernel
theorem dX0_formWith_28 : decode cX0_formWith 28 = .ok (.iload_n 3, 1) := by decide +kernel
theorem dX0_formWith_29 : decode cX0_formWith 29 = .ok (.iconst 2, 1) := by decide +kernel
theorem dX0_formWith_30 : decode cX0_formWith 30 = .ok (.if_icmp .eq 8, 3) := by decide +kernel
theorem dX0_formWith_33 : decode cX0_formWith 33 = .ok (.iload_n 3, 1) := by decide +kernel
theorem dX0_formWith_34 : decode cX0_formWith 34 = .ok (.iconst 3, 1) := by decide +kernel
theorem dX0_formWith_35 : decode cX0_formWith 35 = .ok (.if_icmp .ne 7, 3) := by decide +kernel
theorem dX0_formWith_38 : decode cX0_formWith 38 = .ok (.iconst 1, 1) := by decide +kernel
theorem dX0_formWith_39 : decode cX0_formWith 39 = .ok (.goto 4, 3) := by decide +kernel
theorem dX0_formWith_42 : decode cX0_formWith 42 = .ok (.iconst 0, 1) := by decide +kernel
theorem dX0_formWith_43 : decode cX0_formWith 43 = .ok (.istore 6, 2) := by decide +kernel
theorem dX0_formWith_45 : decode cX0_formWith 45 = .ok (.lload_n 0, 1) := by decide +kernel
theorem dX0_formWith_46 : decode cX0_formWith 46 = .ok (.iconst 0, 1) := by decide +kernel
theorem dX0_formWith_47 : decode cX0_formWith 47 = .ok (.invokestatic 36, 3) := by decide +kernel
theorem dX0_formWith_50 : decode cX0_formWith 50 = .ok (.istore 7, 2) := by decide +kernel
theorem dX0_formWith_52 : decode cX0_formWith 52 = .ok (.lconst 0, 1) := by decide +kernel
theorem dX0_formWith_53 : decode cX0_formWith 53 = .ok (.lstore 8, 2) := by decide +kernel
theorem dX0_formWith_55 : decode cX0_formWith 55 = .ok (.iconst 0, 1) := by decide +kernel
theorem dX0_formWith_56 : decode cX0_formWith 56 = .ok (.istore 10, 2) := by decide +kernel
theorem dX0_formWith_58 : decode cX0_formWith 58 = .ok (.iload 10, 2) := by decide +kernel
theorem dX0_formWith_60 : decode cX0_formWith 60 = .ok (.bipush 12, 2) := by decide +kernel
theorem dX0_formWith_62 : decode cX0_formWith 62 = .ok (.if_icmp .ge 67, 3) := by decide +kernel
theorem dX0_formWith_65 : decode cX0_formWith 65 = .ok (.lload_n 0, 1) := by decide +kernel
theorem dX0_formWith_66 : decode cX0_formWith 66 = .ok (.iload 10, 2) := by decide +kernel
theorem dX0_formWith_68 : decode cX0_formWith 68 = .ok (.invokestatic 36, 3) := by decide +kernel
theorem dX0_formWith_71 : decode cX0_formWith 71 = .ok (.iload 7, 2) := by decide +kernel
theorem dX0_formWith_73 : decode cX0_formWith 73 = .ok (.isub, 1) := by decide +kernel
theorem dX0_formWith_74 : decode cX0_formWith 74 = .ok (.istore 11, 2) := by decide +kernel
theorem dX0_formWith_76 : decode cX0_formWith 76 = .ok (.iload 5, 2) := by decide +kernel
theorem dX0_formWith_78 : decode cX0_formWith 78 = .ok (.ifCond .eq 11, 3) := by decide +kernel
theorem dX0_formWith_81 : decode cX0_formWith 81 = .ok (.iload 4, 2) := by decide +kernel
theorem dX0_formWith_83 : decode cX0_formWith 83 = .ok (.iload 11, 2) := by decide +kernel
theorem dX0_formWith_85 : decode cX0_formWith 85 = .ok (.isub, 1) := by decide +kernel
theorem dX0_formWith_86 : decode cX0_formWith 86 = .ok (.goto 8, 3) := by decide +kernel
theorem dX0_formWith_89 : decode cX0_formWith 89 = .ok (.iload 4, 2) := by decide +kernel
theorem dX0_formWith_91 : decode cX0_formWith 91 = .ok (.iload 11, 2) := by decide +kernel
theorem dX0_formWith_93 : decode cX0_formWith 93 = .ok (.iadd, 1) := by decide +kernel
theorem dX0_formWith_94 : decode cX0_formWith 94 = .ok (.invokestatic 65, 3) := by decide +kernel
theorem dX0_formWith_97 : decode cX0_formWith 97 = .ok (.istore 12, 2) := by decide +kernel
theorem dX0_formWith_99 : decode cX0_formWith 99 = .ok (.lload 8, 2) := by decide +kernel
theorem dX0_formWith_101 : decode cX0_formWith 101 = .ok (.iload 6, 2) := by decide +kernel
theorem dX0_formWith_103 : decode cX0_formWith 103 = .ok (.ifCond .eq 11, 3) := by decide +kernel
theorem dX0_formWith_106 : decode cX0_formWith 106 = .ok (.bipush 11, 2) := by decide +kernel
theorem dX0_formWith_108 : decode cX0_formWith 108 = .ok (.iload 10, 2) := by decide +kernel
theorem dX0_formWith_110 : decode cX0_formWith 110 = .ok (.isub, 1) := by decide +kernel
theorem dX0_formWith_111 : decode cX0_formWith 111 = .ok (.goto 5, 3) := by decide +kernel
theorem dX0_formWith_114 : decode cX0_formWith 114 = .ok (.iload 10, 2) := by decide +kernel
theorem dX0_formWith_116 : decode cX0_formWith 116 = .ok (.iload 12, 2) := by decide +kernel
theorem dX0_formWith_118 : decode cX0_formWith 118 = .ok (.invokestatic 9, 3) := by decide +kernel
theorem dX0_formWith_121 : decode cX0_formWith 121 = .ok (.lstore 8, 2) := by decide +kernel
theorem dX0_formWith_123 : decode cX0_formWith 123 = .ok (.iinc 10 1, 3) := by decide +kernel
theorem dX0_formWith_126 : decode cX0_formWith 126 = .ok (.goto (-68), 3) := by decide +kernel
theorem dX0_formWith_129 : decode cX0_formWith 129 = .ok (.lload 8, 2) := by decide +kernel
theorem dX0_formWith_131 : decode cX0_formWith 131 = .ok (.lreturn, 1) := by decide +kernel
theorem dX0_setOf_0 : decode cX0_setOf 0 = .ok (.iconst 0, 1) := by decide +kernel
theorem dX0_setOf_1 : decode cX0_setOf 1 = .ok (.istore 4, 2) := by decide +kernel
theorem dX0_setOf_3 : decode cX0_setOf 3 = .ok (.iconst 0, 1) := by decide +kernel
theorem dX0_setOf_4 : decode cX0_setOf 4 = .ok (.istore 5, 2) := by decide +kernel
theorem dX0_setOf_6 : decode cX0_setOf 6 = .ok (.iload 5, 2) := by decide +kernel
theorem dX0_setOf_8 : decode cX0_setOf 8 = .ok (.iload_n 3, 1) := by decide +kernel
theorem dX0_setOf_9 : decode cX0_setOf 9 = .ok (.if_icmp .ge 24, 3) := by decide +kernel
theorem dX0_setOf_12 : decode cX0_setOf 12 = .ok (.iload 4, 2) := by decide +kernel
theorem dX0_setOf_14 : decode cX0_setOf 14 = .ok (.iconst 1, 1) := by decide +kernel
theorem dX0_setOf_15 : decode cX0_setOf 15 = .ok (.lload_n 0, 1) := by decide +kernel
theorem dX0_setOf_16 : decode cX0_setOf 16 = .ok (.iload_n 2, 1) := by decide +kernel
theorem dX0_setOf_17 : decode cX0_setOf 17 = .ok (.iload 5, 2) := by decide +kernel
theorem dX0_setOf_19 : decode cX0_setOf 19 = .ok (.iadd, 1) := by decide +kernel
theorem dX0_setOf_20 : decode cX0_setOf 20 = .ok (.invokestatic 36, 3) := by decide +kernel
theorem dX0_setOf_23 : decode cX0_setOf 23 = .ok (.ishl, 1) := by decide +kernel
theorem dX0_setOf_24 : decode cX0_setOf 24 = .ok (.ior, 1) := by decide +kernel
theorem dX0_setOf_25 : decode cX0_setOf 25 = .ok (.istore 4, 2) := by decide +kernel
theorem dX0_setOf_27 : decode cX0_setOf 27 = .ok (.iinc 5 1, 3) := by decide +kernel
theorem dX0_setOf_30 : decode cX0_setOf 30 = .ok (.goto (-24), 3) := by decide +kernel
theorem dX0_setOf_33 : decode cX0_setOf 33 = .ok (.iload 4, 2) := by decide +kernel
theorem dX0_setOf_35 : decode cX0_setOf 35 = .ok (.ireturn, 1) := by decide +kernel
theorem dX0_transposed_0 : decode cX0_transposed 0 = .ok (.iload_n 0, 1) := by decide +kernel
theorem dX0_transposed_1 : decode cX0_transposed 1 = .ok (.iload_n 1, 1) := by decide +kernel
theorem dX0_transposed_2 : decode cX0_transposed 2 = .ok (.ishl, 1) := by decide +kernel
theorem dX0_transposed_3 : decode cX0_transposed 3 = .ok (.iload_n 0, 1) := by decide +kernel
theorem dX0_transposed_4 : decode cX0_transposed 4 = .ok (.bipush 12, 2) := by decide +kernel
theorem dX0_transposed_6 : decode cX0_transposed 6 = .ok (.iload_n 1, 1) := by decide +kernel
theorem dX0_transposed_7 : decode cX0_transposed 7 = .ok (.isub, 1) := by decide +kernel
theorem dX0_transposed_8 : decode cX0_transposed 8 = .ok (.iushr, 1) := by decide +kernel
theorem dX0_transposed_9 : decode cX0_transposed 9 = .ok (.ior, 1) := by decide +kernel
theorem dX0_transposed_10 : decode cX0_transposed 10 = .ok (.sipush 4095, 3) := by decide +kernel
theorem dX0_transposed_13 : decode cX0_transposed 13 = .ok (.iand, 1) := by decide +kernel
theorem dX0_transposed_14 : decode cX0_transposed 14 = .ok (.ireturn, 1) := by decide +kernel
theorem dX0_inverted_0 : decode cX0_inverted 0 = .ok (.iconst 0, 1) := by decide +kernel
theorem dX0_inverted_1 : decode cX0_inverted 1 = .ok (.istore_n 1, 1) := by decide +kernel
theorem dX0_inverted_2 : decode cX0_inverted 2 = .ok (.iconst 0, 1) := by decide +kernel
theorem dX0_inverted_3 : decode cX0_inverted 3 = .ok (.istore_n 2, 1) := by decide +kernel
theorem dX0_inverted_4 : decode cX0_inverted 4 = .ok (.iload_n 2, 1) := by decide +kernel
theorem dX0_inverted_5 : decode cX0_inverted 5 = .ok (.bipush 12, 2) := by decide +kernel
theorem dX0_inverted_7 : decode cX0_inverted 7 = .ok (.if_icmp .ge 23, 3) := by decide +kernel
theorem dX0_inverted_10 : decode cX0_inverted 10 = .ok (.iload_n 1, 1) := by decide +kernel
theorem dX0_inverted_11 : decode cX0_inverted 11 = .ok (.iload_n 0, 1) := by decide +kernel
theorem dX0_inverted_12 : decode cX0_inverted 12 = .ok (.iload_n 2, 1) := by decide +kernel
theorem dX0_inverted_13 : decode cX0_inverted 13 = .ok (.ishr, 1) := by decide +kernel
theorem dX0_inverted_14 : decode cX0_inverted 14 = .ok (.iconst 1, 1) := by decide +kernel
theorem dX0_inverted_15 : decode cX0_inverted 15 = .ok (.iand, 1) := by decide +kernel
theorem dX0_inverted_16 : decode cX0_inverted 16 = .ok (.iload_n 2, 1) := by decide +kernel
theorem dX0_inverted_17 : decode cX0_inverted 17 = .ok (.ineg, 1) := by decide +kernel
theorem dX0_inverted_18 : decode cX0_inverted 18 = .ok (.invokestatic 65, 3) := by decide +kernel
theorem dX0_inverted_21 : decode cX0_inverted 21 = .ok (.ishl, 1) := by decide +kernel
theorem dX0_inverted_22 : decode cX0_inverted 22 = .ok (.ior, 1) := by decide +kernel
theorem dX0_inverted_23 : decode cX0_inverted 23 = .ok (.istore_n 1, 1) := by decide +kernel
theorem dX0_inverted_24 : decode cX0_inverted 24 = .ok (.iinc 2 1, 3) := by decide +kernel
theorem dX0_inverted_27 : decode cX0_inverted 27 = .ok (.goto (-23), 3) := by decide +kernel
theorem dX0_inverted_30 : decode cX0_inverted 30 = .ok (.iload_n 1, 1) := by decide +kernel
theorem dX0_inverted_31 : decode cX0_inverted 31 = .ok (.ireturn, 1) := by decide +kernel
theorem dX0_leastLike_0 : decode cX0_leastLike 0 = .ok (.iload_n 0, 1) := by decide +kernel
theorem dX0_leastLike_1 : decode cX0_leastLike 1 = .ok (.invokestatic 150, 3) := by decide +kernel
theorem dX0_leastLike_4 : decode cX0_leastLike 4 = .ok (.istore_n 1, 1) := by decide +kernel
theorem dX0_leastLike_5 : decode cX0_leastLike 5 = .ok (.iload_n 0, 1) := by decide +kernel
theorem dX0_leastLike_6 : decode cX0_leastLike 6 = .ok (.istore_n 2, 1) := by decide +kernel
theorem dX0_leastLike_7 : decode cX0_leastLike 7 = .ok (.iconst 0, 1) := by decide +kernel
theorem dX0_leastLike_8 : decode cX0_leastLike 8 = .ok (.istore_n 3, 1) := by decide +kernel
theorem dX0_leastLike_9 : decode cX0_leastLike 9 = .ok (.iload_n 3, 1) := by decide +kernel
theorem dX0_leastLike_10 : decode cX0_leastLike 10 = .ok (.bipush 12, 2) := by decide +kernel
theorem dX0_leastLike_12 : decode cX0_leastLike 12 = .ok (.if_icmp .ge 27, 3) := by decide +kernel
theorem dX0_leastLike_15 : decode cX0_leastLike 15 = .ok (.iload_n 2, 1) := by decide +kernel
theorem dX0_leastLike_16 : decode cX0_leastLike 16 = .ok (.iload_n 0, 1) := by decide +kernel
theorem dX0_leastLike_17 : decode cX0_leastLike 17 = .ok (.iload_n 3, 1) := by decide +kernel
theorem dX0_leastLike_18 : decode cX0_leastLike 18 = .ok (.invokestatic 84, 3) := by decide +kernel
theorem dX0_leastLike_21 : decode cX0_leastLike 21 = .ok (.iload_n 1, 1) := by decide +kernel
theorem dX0_leastLike_22 : decode cX0_leastLike 22 = .ok (.iload_n 3, 1) := by decide +kernel
theorem dX0_leastLike_23 : decode cX0_leastLike 23 = .ok (.invokestatic 84, 3) := by decide +kernel
theorem dX0_leastLike_26 : decode cX0_leastLike 26 = .ok (.invokestatic 153, 3) := by decide +kernel
theorem dX0_leastLike_29 : decode cX0_leastLike 29 = .ok (.invokestatic 153, 3) := by decide +kernel
theorem dX0_leastLike_32 : decode cX0_leastLike 32 = .ok (.istore_n 2, 1) := by decide +kernel
theorem dX0_leastLike_33 : decode cX0_leastLike 33 = .ok (.iinc 3 1, 3) := by decide +kernel
theorem dX0_leastLike_36 : decode cX0_leastLike 36 = .ok (.goto (-27), 3) := by decide +kernel
theorem dX0_leastLike_39 : decode cX0_leastLike 39 = .ok (.iload_n 2, 1) := by decide +kernel
theorem dX0_leastLike_40 : decode cX0_leastLike 40 = .ok (.ireturn, 1) := by decide +kernel
theorem dX0_placesOf_0 : decode cX0_placesOf 0 = .ok (.lconst 0, 1) := by decide +kernel
theorem dX0_placesOf_1 : decode cX0_placesOf 1 = .ok (.lstore 4, 2) := by decide +kernel
theorem dX0_placesOf_3 : decode cX0_placesOf 3 = .ok (.iconst 0, 1) := by decide +kernel
theorem dX0_placesOf_4 : decode cX0_placesOf 4 = .ok (.istore 6, 2) := by decide +kernel
theorem dX0_placesOf_6 : decode cX0_placesOf 6 = .ok (.iload 6, 2) := by decide +kernel
theorem dX0_placesOf_8 : decode cX0_placesOf 8 = .ok (.bipush 12, 2) := by decide +kernel
theorem dX0_placesOf_10 : decode cX0_placesOf 10 = .ok (.if_icmp .ge 28, 3) := by decide +kernel
theorem dX0_placesOf_13 : decode cX0_placesOf 13 = .ok (.lload 4, 2) := by decide +kernel
theorem dX0_placesOf_15 : decode cX0_placesOf 15 = .ok (.iload 6, 2) := by decide +kernel
theorem dX0_placesOf_17 : decode cX0_placesOf 17 = .ok (.lload_n 2, 1) := by decide +kernel
theorem dX0_placesOf_18 : decode cX0_placesOf 18 = .ok (.lload_n 0, 1) := by decide +kernel
theorem dX0_placesOf_19 : decode cX0_placesOf 19 = .ok (.iload 6, 2) := by decide +kernel
theorem dX0_placesOf_21 : decode cX0_placesOf 21 = .ok (.invokestatic 36, 3) := by decide +kernel
theorem dX0_placesOf_24 : decode cX0_placesOf 24 = .ok (.invokestatic 40, 3) := by decide +kernel
theorem dX0_placesOf_27 : decode cX0_placesOf 27 = .ok (.invokestatic 9, 3) := by decide +kernel
theorem dX0_placesOf_30 : decode cX0_placesOf 30 = .ok (.lstore 4, 2) := by decide +kernel
theorem dX0_placesOf_32 : decode cX0_placesOf 32 = .ok (.iinc 6 1, 3) := by decide +kernel
theorem dX0_placesOf_35 : decode cX0_placesOf 35 = .ok (.goto (-29), 3) := by decide +kernel
theorem dX0_placesOf_38 : decode cX0_placesOf 38 = .ok (.lload 4, 2) := by decide +kernel
theorem dX0_placesOf_40 : decode cX0_placesOf 40 = .ok (.lreturn, 1) := by decide +kernel
theorem dX0_countKept_0 : decode cX0_countKept 0 = .ok (.lload_n 0, 1) := by decide +kernel
theorem dX0_countKept_1 : decode cX0_countKept 1 = .ok (.lload_n 2, 1) := by decide +kernel
theorem dX0_countKept_2 : decode cX0_countKept 2 = .ok (.invokestatic 94, 3) := by decide +kernel
theorem dX0_countKept_5 : decode cX0_countKept 5 = .ok (.lstore 5, 2) := by decide +kernel
theorem dX0_countKept_7 : decode cX0_countKept 7 = .ok (.iconst 0, 1) := by decide +kernel
theorem dX0_countKept_8 : decode cX0_countKept 8 = .ok (.istore 7, 2) := by decide +kernel
theorem dX0_countKept_10 : decode cX0_countKept 10 = .ok (.iconst 0, 1) := by decide +kernel
theorem dX0_countKept_11 : decode cX0_countKept 11 = .ok (.istore 8, 2) := by decide +kernel
theorem dX0_countKept_13 : decode cX0_countKept 13 = .ok (.iload 8, 2) := by decide +kernel
theorem dX0_countKept_15 : decode cX0_countKept 15 = .ok (.iload 4, 2) := by decide +kernel
theorem dX0_countKept_17 : decode cX0_countKept 17 = .ok (.iadd, 1) := by decide +kernel
theorem dX0_countKept_18 : decode cX0_countKept 18 = .ok (.bipush 12, 2) := by decide +kernel
theorem dX0_countKept_20 : decode cX0_countKept 20 = .ok (.if_icmp .gt 24, 3) := by decide +kernel
theorem dX0_countKept_23 : decode cX0_countKept 23 = .ok (.lload 5, 2) := by decide +kernel
theorem dX0_countKept_25 : decode cX0_countKept 25 = .ok (.iload 8, 2) := by decide +kernel
theorem dX0_countKept_27 : decode cX0_countKept 27 = .ok (.iload 4, 2) := by decide +kernel
theorem dX0_countKept_29 : decode cX0_countKept 29 = .ok (.invokestatic 156, 3) := by decide +kernel
theorem dX0_countKept_32 : decode cX0_countKept 32 = .ok (.ifCond .eq 6, 3) := by decide +kernel
theorem dX0_countKept_35 : decode cX0_countKept 35 = .ok (.iinc 7 1, 3) := by decide +kernel
theorem dX0_countKept_38 : decode cX0_countKept 38 = .ok (.iinc 8 1, 3) := by decide +kernel
theorem dX0_countKept_41 : decode cX0_countKept 41 = .ok (.goto (-28), 3) := by decide +kernel
theorem dX0_countKept_44 : decode cX0_countKept 44 = .ok (.iload 7, 2) := by decide +kernel
theorem dX0_countKept_46 : decode cX0_countKept 46 = .ok (.ireturn, 1) := by decide +kernel
theorem dX0_areNeighbours_0 : decode cX0_areNeighbours 0 = .ok (.bipush 12, 2) := by decide +kernel
theorem dX0_areNeighbours_2 : decode cX0_areNeighbours 2 = .ok (.istore 4, 2) := by decide +kernel
theorem dX0_areNeighbours_4 : decode cX0_areNeighbours 4 = .ok (.iconst (-1), 1) := by decide +kernel
theorem dX0_areNeighbours_5 : decode cX0_areNeighbours 5 = .ok (.istore 5, 2) := by decide +kernel
theorem dX0_areNeighbours_7 : decode cX0_areNeighbours 7 = .ok (.iload_n 2, 1) := by decide +kernel
theorem dX0_areNeighbours_8 : decode cX0_areNeighbours 8 = .ok (.istore 6, 2) := by decide +kernel
theorem dX0_areNeighbours_10 : decode cX0_areNeighbours 10 = .ok (.iload 6, 2) := by decide +kernel
theorem dX0_areNeighbours_12 : decode cX0_areNeighbours 12 = .ok (.iload_n 2, 1) := by decide +kernel
theorem dX0_areNeighbours_13 : decode cX0_areNeighbours 13 = .ok (.iload_n 3, 1) := by decide +kernel
theorem dX0_areNeighbours_14 : decode cX0_areNeighbours 14 = .ok (.iadd, 1) := by decide +kernel
theorem dX0_areNeighbours_15 : decode cX0_areNeighbours 15 = .ok (.if_icmp .ge 35, 3) := by decide +kernel
theorem dX0_areNeighbours_18 : decode cX0_areNeighbours 18 = .ok (.iload 4, 2) := by decide +kernel
theorem dX0_areNeighbours_20 : decode cX0_areNeighbours 20 = .ok (.lload_n 0, 1) := by decide +kernel
theorem dX0_areNeighbours_21 : decode cX0_areNeighbours 21 = .ok (.iload 6, 2) := by decide +kernel
theorem dX0_areNeighbours_23 : decode cX0_areNeighbours 23 = .ok (.invokestatic 36, 3) := by decide +kernel
theorem dX0_areNeighbours_26 : decode cX0_areNeighbours 26 = .ok (.invokestatic 153, 3) := by decide +kernel
theorem dX0_areNeighbours_29 : decode cX0_areNeighbours 29 = .ok (.istore 4, 2) := by decide +kernel
theorem dX0_areNeighbours_31 : decode cX0_areNeighbours 31 = .ok (.iload 5, 2) := by decide +kernel
theorem dX0_areNeighbours_33 : decode cX0_areNeighbours 33 = .ok (.lload_n 0, 1) := by decide +kernel
theorem dX0_areNeighbours_34 : decode cX0_areNeighbours 34 = .ok (.iload 6, 2) := by decide +kernel
theorem dX0_areNeighbours_36 : decode cX0_areNeighbours 36 = .ok (.invokestatic 36, 3) := by decide +kernel
theorem dX0_areNeighbours_39 : decode cX0_areNeighbours 39 = .ok (.invokestatic 98, 3) := by decide +kernel
theorem dX0_areNeighbours_42 : decode cX0_areNeighbours 42 = .ok (.istore 5, 2) := by decide +kernel
theorem dX0_areNeighbours_44 : decode cX0_areNeighbours 44 = .ok (.iinc 6 1, 3) := by decide +kernel
theorem dX0_areNeighbours_47 : decode cX0_areNeighbours 47 = .ok (.goto (-37), 3) := by decide +kernel
theorem dX0_areNeighbours_50 : decode cX0_areNeighbours 50 = .ok (.iload 5, 2) := by decide +kernel
theorem dX0_areNeighbours_52 : decode cX0_areNeighbours 52 = .ok (.iload 4, 2) := by decide +kernel
theorem dX0_areNeighbours_54 : decode cX0_areNeighbours 54 = .ok (.isub, 1) := by decide +kernel
theorem dX0_areNeighbours_55 : decode cX0_areNeighbours 55 = .ok (.iload_n 3, 1) := by decide +kernel
theorem dX0_areNeighbours_56 : decode cX0_areNeighbours 56 = .ok (.iconst 1, 1) := by decide +kernel
theorem dX0_areNeighbours_57 : decode cX0_areNeighbours 57 = .ok (.isub, 1) := by decide +kernel
theorem dX0_areNeighbours_58 : decode cX0_areNeighbours 58 = .ok (.if_icmp .ne 7, 3) := by decide +kernel
theorem dX0_areNeighbours_61 : decode cX0_areNeighbours 61 = .ok (.iconst 1, 1) := by decide +kernel
theorem dX0_areNeighbours_62 : decode cX0_areNeighbours 62 = .ok (.goto 4, 3) := by decide +kernel
theorem dX0_areNeighbours_65 : decode cX0_areNeighbours 65 = .ok (.iconst 0, 1) := by decide +kernel
theorem dX0_areNeighbours_66 : decode cX0_areNeighbours 66 = .ok (.ireturn, 1) := by decide +kernel
theorem dJ6_bitCount_0f7a4_0 : decode cJ6_bitCount_0f7a4 0 = .ok (.iload_n 0, 1) := by decide +kernel
theorem dJ6_bitCount_0f7a4_1 : decode cJ6_bitCount_0f7a4 1 = .ok (.iload_n 0, 1) := by decide +kernel
theorem dJ6_bitCount_0f7a4_2 : decode cJ6_bitCount_0f7a4 2 = .ok (.iconst 1, 1) := by decide +kernel
theorem dJ6_bitCount_0f7a4_3 : decode cJ6_bitCount_0f7a4 3 = .ok (.iushr, 1) := by decide +kernel
theorem dJ6_bitCount_0f7a4_4 : decode cJ6_bitCount_0f7a4 4 = .ok (.ldc_w 265, 3) := by decide +kernel
theorem dJ6_bitCount_0f7a4_7 : decode cJ6_bitCount_0f7a4 7 = .ok (.iand, 1) := by decide +kernel
theorem dJ6_bitCount_0f7a4_8 : decode cJ6_bitCount_0f7a4 8 = .ok (.isub, 1) := by decide +kernel
theorem dJ6_bitCount_0f7a4_9 : decode cJ6_bitCount_0f7a4 9 = .ok (.istore_n 0, 1) := by decide +kernel
theorem dJ6_bitCount_0f7a4_10 : decode cJ6_bitCount_0f7a4 10 = .ok (.iload_n 0, 1) := by decide +kernel
theorem dJ6_bitCount_0f7a4_11 : decode cJ6_bitCount_0f7a4 11 = .ok (.ldc_w 266, 3) := by decide +kernel
theorem dJ6_bitCount_0f7a4_14 : decode cJ6_bitCount_0f7a4 14 = .ok (.iand, 1) := by decide +kernel
theorem dJ6_bitCount_0f7a4_15 : decode cJ6_bitCount_0f7a4 15 = .ok (.iload_n 0, 1) := by decide +kernel
theorem dJ6_bitCount_0f7a4_16 : decode cJ6_bitCount_0f7a4 16 = .ok (.iconst 2, 1) := by decide +kernel
theorem dJ6_bitCount_0f7a4_17 : decode cJ6_bitCount_0f7a4 17 = .ok (.iushr, 1) := by decide +kernel
theorem dJ6_bitCount_0f7a4_18 : decode cJ6_bitCount_0f7a4 18 = .ok (.ldc_w 266, 3) := by decide +kernel
theorem dJ6_bitCount_0f7a4_21 : decode cJ6_bitCount_0f7a4 21 = .ok (.iand, 1) := by decide +kernel
theorem dJ6_bitCount_0f7a4_22 : decode cJ6_bitCount_0f7a4 22 = .ok (.iadd, 1) := by decide +kernel
theorem dJ6_bitCount_0f7a4_23 : decode cJ6_bitCount_0f7a4 23 = .ok (.istore_n 0, 1) := by decide +kernel
theorem dJ6_bitCount_0f7a4_24 : decode cJ6_bitCount_0f7a4 24 = .ok (.iload_n 0, 1) := by decide +kernel
theorem dJ6_bitCount_0f7a4_25 : decode cJ6_bitCount_0f7a4 25 = .ok (.iload_n 0, 1) := by decide +kernel
theorem dJ6_bitCount_0f7a4_26 : decode cJ6_bitCount_0f7a4 26 = .ok (.iconst 4, 1) := by decide +kernel
theorem dJ6_bitCount_0f7a4_27 : decode cJ6_bitCount_0f7a4 27 = .ok (.iushr, 1) := by decide +kernel
theorem dJ6_bitCount_0f7a4_28 : decode cJ6_bitCount_0f7a4 28 = .ok (.iadd, 1) := by decide +kernel
theorem dJ6_bitCount_0f7a4_29 : decode cJ6_bitCount_0f7a4 29 = .ok (.ldc_w 267, 3) := by decide +kernel
theorem dJ6_bitCount_0f7a4_32 : decode cJ6_bitCount_0f7a4 32 = .ok (.iand, 1) := by decide +kernel
theorem dJ6_bitCount_0f7a4_33 : decode cJ6_bitCount_0f7a4 33 = .ok (.istore_n 0, 1) := by decide +kernel
theorem dJ6_bitCount_0f7a4_34 : decode cJ6_bitCount_0f7a4 34 = .ok (.iload_n 0, 1) := by decide +kernel
theorem dJ6_bitCount_0f7a4_35 : decode cJ6_bitCount_0f7a4 35 = .ok (.iload_n 0, 1) := by decide +kernel
theorem dJ6_bitCount_0f7a4_36 : decode cJ6_bitCount_0f7a4 36 = .ok (.bipush 8, 2) := by decide +kernel
theorem dJ6_bitCount_0f7a4_38 : decode cJ6_bitCount_0f7a4 38 = .ok (.iushr, 1) := by decide +kernel
theorem dJ6_bitCount_0f7a4_39 : decode cJ6_bitCount_0f7a4 39 = .ok (.iadd, 1) := by decide +kernel
theorem dJ6_bitCount_0f7a4_40 : decode cJ6_bitCount_0f7a4 40 = .ok (.istore_n 0, 1) := by decide +kernel
theorem dJ6_bitCount_0f7a4_41 : decode cJ6_bitCount_0f7a4 41 = .ok (.iload_n 0, 1) := by decide +kernel
theorem dJ6_bitCount_0f7a4_42 : decode cJ6_bitCount_0f7a4 42 = .ok (.iload_n 0, 1) := by decide +kernel
theorem dJ6_bitCount_0f7a4_43 : decode cJ6_bitCount_0f7a4 43 = .ok (.bipush 16, 2) := by decide +kernel
theorem dJ6_bitCount_0f7a4_45 : decode cJ6_bitCount_0f7a4 45 = .ok (.iushr, 1) := by decide +kernel
theorem dJ6_bitCount_0f7a4_46 : decode cJ6_bitCount_0f7a4 46 = .ok (.iadd, 1) := by decide +kernel
theorem dJ6_bitCount_0f7a4_47 : decode cJ6_bitCount_0f7a4 47 = .ok (.istore_n 0, 1) := by decide +kernel
theorem dJ6_bitCount_0f7a4_48 : decode cJ6_bitCount_0f7a4 48 = .ok (.iload_n 0, 1) := by decide +kernel
theorem dJ6_bitCount_0f7a4_49 : decode cJ6_bitCount_0f7a4 49 = .ok (.bipush 63, 2) := by decide +kernel
theorem dJ6_bitCount_0f7a4_51 : decode cJ6_bitCount_0f7a4 51 = .ok (.iand, 1) := by decide +kernel
theorem dJ6_bitCount_0f7a4_52 : decode cJ6_bitCount_0f7a4 52 = .ok (.ireturn, 1) := by decide +kernel
theorem dJ9_floorMod_7cf53_0 : decode cJ9_floorMod_7cf53 0 = .ok (.iload_n 0, 1) := by decide +kernel
theorem dJ9_floorMod_7cf53_1 : decode cJ9_floorMod_7cf53 1 = .ok (.iload_n 1, 1) := by decide +kernel
theorem dJ9_floorMod_7cf53_2 : decode cJ9_floorMod_7cf53 2 = .ok (.irem, 1) := by decide +kernel
theorem dJ9_floorMod_7cf53_3 : decode cJ9_floorMod_7cf53 3 = .ok (.istore_n 2, 1) := by decide +kernel
theorem dJ9_floorMod_7cf53_4 : decode cJ9_floorMod_7cf53 4 = .ok (.iload_n 0, 1) := by decide +kernel
theorem dJ9_floorMod_7cf53_5 : decode cJ9_floorMod_7cf53 5 = .ok (.iload_n 1, 1) := by decide +kernel
theorem dJ9_floorMod_7cf53_6 : decode cJ9_floorMod_7cf53 6 = .ok (.ixor, 1) := by decide +kernel
theorem dJ9_floorMod_7cf53_7 : decode cJ9_floorMod_7cf53 7 = .ok (.ifCond .ge 11, 3) := by decide +kernel
theorem dJ9_floorMod_7cf53_10 : decode cJ9_floorMod_7cf53 10 = .ok (.iload_n 2, 1) := by decide +kernel
theorem dJ9_floorMod_7cf53_11 : decode cJ9_floorMod_7cf53 11 = .ok (.ifCond .eq 7, 3) := by decide +kernel
theorem dJ9_floorMod_7cf53_14 : decode cJ9_floorMod_7cf53 14 = .ok (.iload_n 2, 1) := by decide +kernel
theorem dJ9_floorMod_7cf53_15 : decode cJ9_floorMod_7cf53 15 = .ok (.iload_n 1, 1) := by decide +kernel
theorem dJ9_floorMod_7cf53_16 : decode cJ9_floorMod_7cf53 16 = .ok (.iadd, 1) := by decide +kernel
theorem dJ9_floorMod_7cf53_17 : decode cJ9_floorMod_7cf53 17 = .ok (.ireturn, 1) := by decide +kernel
theorem dJ9_floorMod_7cf53_18 : decode cJ9_floorMod_7cf53 18 = .ok (.iload_n 2, 1) := by decide +kernel
theorem dJ9_floorMod_7cf53_19 : decode cJ9_floorMod_7cf53 19 = .ok (.ireturn, 1) := by decide +kernel
theorem dJ9_max_7cf53_0 : decode cJ9_max_7cf53 0 = .ok (.iload_n 0, 1) := by decide +kernel
theorem dJ9_max_7cf53_1 : decode cJ9_max_7cf53 1 = .ok (.iload_n 1, 1) := by decide +kernel
theorem dJ9_max_7cf53_2 : decode cJ9_max_7cf53 2 = .ok (.if_icmp .lt 7, 3) := by decide +kernel
theorem dJ9_max_7cf53_5 : decode cJ9_max_7cf53 5 = .ok (.iload_n 0, 1) := by decide +kernel
theorem dJ9_max_7cf53_6 : decode cJ9_max_7cf53 6 = .ok (.goto 4, 3) := by decide +kernel
theorem dJ9_max_7cf53_9 : decode cJ9_max_7cf53 9 = .ok (.iload_n 1, 1) := by decide +kernel
theorem dJ9_max_7cf53_10 : decode cJ9_max_7cf53 10 = .ok (.ireturn, 1) := by decide +kernel
theorem dJ9_min_7cf53_0 : decode cJ9_min_7cf53 0 = .ok (.iload_n 0, 1) := by decide +kernel
theorem dJ9_min_7cf53_1 : decode cJ9_min_7cf53 1 = .ok (.iload_n 1, 1) := by decide +kernel
theorem dJ9_min_7cf53_2 : decode cJ9_min_7cf53 2 = .ok (.if_icmp .gt 7, 3) := by decide +kernel
theorem dJ9_min_7cf53_5 : decode cJ9_min_7cf53 5 = .ok (.iload_n 0, 1) := by decide +kernel
theorem dJ9_min_7cf53_6 : decode cJ9_min_7cf53 6 = .ok (.goto 4, 3) := by decide +kernel
theorem dJ9_min_7cf53_9 : decode cJ9_min_7cf53 9 = .ok (.iload_n 1, 1) := by decide +kernel
theorem dJ9_min_7cf53_10 : decode cJ9_min_7cf53 10 = .ok (.ireturn, 1) := by decide +kernel
end
section
set_option maxRecDepth 20000 in
theorem ggX0_init_X0_withEntry : GoodIn wsX0_init wsX0_withEntry := goodIn_r _ [9, 10, 11] (by decide +kernel) (by decide +kernel)
set_option maxRecDepth 20000 in
theorem gX0_init_X0_withEntry : GoodIn wsX0_init (va_wsS RX0 9 yX0_withEntry wsX0_withEntry) := goodIn_app (goodIn_of _ (by decide +kernel)) ggX0_init_X0_withEntry
set_option maxRecDepth 20000 in
theorem ggX0_put_X0_requireRow : GoodIn wsX0_put wsX0_requireRow := goodIn_ca (goodIn_r _ [4, 5, 6] (by decide +kernel) (by decide +kernel)) (goodIn_sub (fun _ h => List.mem_cons_of_mem _ (List.mem_append_left _ (List.mem_append_right _ h))) (by decide +kernel))
set_option maxRecDepth 20000 in
theorem gX0_put_X0_requireRow : GoodIn wsX0_put (va_wsS RX0 20 yX0_requireRow wsX0_requireRow) := goodIn_app (goodIn_of _ (by decide +kernel)) ggX0_put_X0_requireRow
set_option maxRecDepth 20000 in
theorem ggX0_put_X0_requirePlace : GoodIn wsX0_put wsX0_requirePlace := goodIn_ca (goodIn_r _ [9, 5, 6] (by decide +kernel) (by decide +kernel)) (goodIn_sub (fun _ h => List.mem_cons_of_mem _ (List.mem_append_left _ (List.mem_append_right _ h))) (by decide +kernel))
set_option maxRecDepth 20000 in
theorem gX0_put_X0_requirePlace : GoodIn wsX0_put (va_wsS RX0 24 yX0_requirePlace wsX0_requirePlace) := goodIn_app (goodIn_of _ (by decide +kernel)) ggX0_put_X0_requirePlace
set_option maxRecDepth 20000 in
theorem ggX0_put_X0_requireRange : GoodIn wsX0_put wsX0_requireRange := goodIn_ca (goodIn_r _ [12, 13, 14] (by decide +kernel) (by decide +kernel)) (goodIn_sub (fun _ h => List.mem_cons_of_mem _ (List.mem_append_right _ h)) (by decide +kernel))
set_option maxRecDepth 20000 in
theorem gX0_put_X0_requireRange : GoodIn wsX0_put (va_wsS RX0 28 yX0_requireRange wsX0_requireRange) := goodIn_app (goodIn_of _ (by decide +kernel)) ggX0_put_X0_requireRange
set_option maxRecDepth 20000 in
theorem ggX0_put_X0_rowAt : GoodIn wsX0_put wsX0_rowAt := goodIn_r _ [18, 19, 20, 36, 37, 38, 39] (by decide +kernel) (by decide +kernel)
set_option maxRecDepth 20000 in
theorem gX0_put_X0_rowAt : GoodIn wsX0_put (wsV RX0 32 RX0 yX0_rowAt wsX0_rowAt) := goodIn_app (goodIn_of _ (by decide +kernel)) ggX0_put_X0_rowAt
set_option maxRecDepth 20000 in
theorem ggX0_put_X0_entryAt : GoodIn wsX0_put wsX0_entryAt := goodIn_r _ [23, 24] (by decide +kernel) (by decide +kernel)
set_option maxRecDepth 20000 in
theorem gX0_put_X0_entryAt : GoodIn wsX0_put (va_wsS RX0 36 yX0_entryAt wsX0_entryAt) := goodIn_app (goodIn_of _ (by decide +kernel)) ggX0_put_X0_entryAt
set_option maxRecDepth 20000 in
theorem ggX0_put_X0_placeIn : GoodIn wsX0_put wsX0_placeIn := goodIn_r _ [27, 21, 22, 3, 23, 24] (by decide +kernel) (by decide +kernel)
set_option maxRecDepth 20000 in
theorem gX0_put_X0_placeIn : GoodIn wsX0_put (va_wsS RX0 40 yX0_placeIn wsX0_placeIn) := goodIn_app (goodIn_of _ (by decide +kernel)) ggX0_put_X0_placeIn
set_option maxRecDepth 20000 in
theorem ggX0_put_X0_withEntry : GoodIn wsX0_put wsX0_withEntry := goodIn_r _ [30, 24, 31] (by decide +kernel) (by decide +kernel)
set_option maxRecDepth 20000 in
theorem gX0_put_X0_withEntry : GoodIn wsX0_put (va_wsS RX0 9 yX0_withEntry wsX0_withEntry) := goodIn_app (goodIn_of _ (by decide +kernel)) ggX0_put_X0_withEntry
set_option maxRecDepth 20000 in
theorem ggX0_put_X0_setRow : GoodIn wsX0_put wsX0_setRow := goodIn_r _ [35, 19, 20, 36, 37, 38, 39] (by decide +kernel) (by decide +kernel)
set_option maxRecDepth 20000 in
theorem gX0_put_X0_setRow : GoodIn wsX0_put (wsV RX0 43 RX0 yX0_setRow wsX0_setRow) := goodIn_app (goodIn_of _ (by decide +kernel)) ggX0_put_X0_setRow
set_option maxRecDepth 20000 in
theorem ggX0_take_X0_requireRow : GoodIn wsX0_take wsX0_requireRow := goodIn_ca (goodIn_r _ [4, 5, 6] (by decide +kernel) (by decide +kernel)) (goodIn_sub (fun _ h => List.mem_cons_of_mem _ (List.mem_append_left _ (List.mem_append_right _ h))) (by decide +kernel))
set_option maxRecDepth 20000 in
theorem gX0_take_X0_requireRow : GoodIn wsX0_take (va_wsS RX0 20 yX0_requireRow wsX0_requireRow) := goodIn_app (goodIn_of _ (by decide +kernel)) ggX0_take_X0_requireRow
set_option maxRecDepth 20000 in
theorem ggX0_take_X0_requireForm : GoodIn wsX0_take wsX0_requireForm := goodIn_ca (goodIn_r _ [9, 10, 11, 3, 12, 13, 14] (by decide +kernel) (by decide +kernel)) (goodIn_sub (fun _ h => List.mem_cons_of_mem _ (List.mem_append_right _ h)) (by decide +kernel))
set_option maxRecDepth 20000 in
theorem gX0_take_X0_requireForm : GoodIn wsX0_take (va_wsS RX0 47 yX0_requireForm wsX0_requireForm) := goodIn_app (goodIn_of _ (by decide +kernel)) ggX0_take_X0_requireForm
set_option maxRecDepth 20000 in
theorem ggX0_take_X0_rowAt : GoodIn wsX0_take wsX0_rowAt := goodIn_r _ [18, 19, 20, 50, 51, 52, 53] (by decide +kernel) (by decide +kernel)
set_option maxRecDepth 20000 in
theorem gX0_take_X0_rowAt : GoodIn wsX0_take (wsV RX0 32 RX0 yX0_rowAt wsX0_rowAt) := goodIn_app (goodIn_of _ (by decide +kernel)) ggX0_take_X0_rowAt
set_option maxRecDepth 20000 in
theorem ggX0_take_X0_codeOf : GoodIn wsX0_take wsX0_codeOf := goodIn_r _ [23] (by decide +kernel) (by decide +kernel)
set_option maxRecDepth 20000 in
theorem gX0_take_X0_codeOf : GoodIn wsX0_take (va_wsS RX0 50 yX0_codeOf wsX0_codeOf) := goodIn_app (goodIn_of _ (by decide +kernel)) ggX0_take_X0_codeOf
set_option maxRecDepth 20000 in
theorem ggX0_take_X0_formWith : GoodIn wsX0_take wsX0_formWith := goodIn_r _ [26, 27, 28, 3, 29, 30, 31, 32, 33, 34, 35, 36, 37, 38, 39, 40, 41] (by decide +kernel) (by decide +kernel)
set_option maxRecDepth 20000 in
theorem gX0_take_X0_formWith : GoodIn wsX0_take (va_wsS RX0 54 yX0_formWith wsX0_formWith) := goodIn_app (goodIn_of _ (by decide +kernel)) ggX0_take_X0_formWith
set_option maxRecDepth 20000 in
theorem ggX0_take_X0_replaceRow : GoodIn wsX0_take wsX0_replaceRow := goodIn_r _ [45, 46, 47, 48, 3, 49, 19, 20, 27, 28, 29, 30, 50, 51, 52, 53] (by decide +kernel) (by decide +kernel)
set_option maxRecDepth 20000 in
theorem gX0_take_X0_replaceRow : GoodIn wsX0_take (wsV RX0 58 RX0 yX0_replaceRow wsX0_replaceRow) := goodIn_app (goodIn_of _ (by decide +kernel)) ggX0_take_X0_replaceRow
set_option maxRecDepth 20000 in
theorem ggX0_multiply_X0_requireRow : GoodIn wsX0_multiply wsX0_requireRow := goodIn_ca (goodIn_r _ [4, 5, 6] (by decide +kernel) (by decide +kernel)) (goodIn_sub (fun _ h => List.mem_cons_of_mem _ (List.mem_append_left _ (List.mem_append_right _ h))) (by decide +kernel))
set_option maxRecDepth 20000 in
theorem gX0_multiply_X0_requireRow : GoodIn wsX0_multiply (va_wsS RX0 20 yX0_requireRow wsX0_requireRow) := goodIn_app (goodIn_of _ (by decide +kernel)) ggX0_multiply_X0_requireRow
set_option maxRecDepth 20000 in
theorem ggX0_multiply_X0_requireFactor : GoodIn wsX0_multiply wsX0_requireFactor := goodIn_ca (goodIn_r _ [9, 10, 11] (by decide +kernel) (by decide +kernel)) (goodIn_sub (fun _ h => List.mem_cons_of_mem _ (List.mem_append_right _ h)) (by decide +kernel))
set_option maxRecDepth 20000 in
theorem gX0_multiply_X0_requireFactor : GoodIn wsX0_multiply (va_wsS RX0 62 yX0_requireFactor wsX0_requireFactor) := goodIn_app (goodIn_of _ (by decide +kernel)) ggX0_multiply_X0_requireFactor
set_option maxRecDepth 20000 in
theorem ggX0_multiply_X0_rowAt : GoodIn wsX0_multiply wsX0_rowAt := goodIn_r _ [15, 16, 17, 41, 42, 43, 44] (by decide +kernel) (by decide +kernel)
set_option maxRecDepth 20000 in
theorem gX0_multiply_X0_rowAt : GoodIn wsX0_multiply (wsV RX0 32 RX0 yX0_rowAt wsX0_rowAt) := goodIn_app (goodIn_of _ (by decide +kernel)) ggX0_multiply_X0_rowAt
set_option maxRecDepth 20000 in
theorem ggX0_multiply_X0_entryAt : GoodIn wsX0_multiply wsX0_entryAt := goodIn_r _ [20, 21] (by decide +kernel) (by decide +kernel)
set_option maxRecDepth 20000 in
theorem gX0_multiply_X0_entryAt : GoodIn wsX0_multiply (va_wsS RX0 36 yX0_entryAt wsX0_entryAt) := goodIn_app (goodIn_of _ (by decide +kernel)) ggX0_multiply_X0_entryAt
set_option maxRecDepth 20000 in
theorem ggX0_multiply_X0_wrap : GoodIn wsX0_multiply wsX0_wrap := goodIn_r _ [24, 25, 26, 27, 28] (by decide +kernel) (by decide +kernel)
set_option maxRecDepth 20000 in
theorem gX0_multiply_X0_wrap : GoodIn wsX0_multiply (va_wsS RX0 65 yX0_wrap wsX0_wrap) := goodIn_app (goodIn_of _ (by decide +kernel)) ggX0_multiply_X0_wrap
set_option maxRecDepth 20000 in
theorem ggX0_multiply_X0_withEntry : GoodIn wsX0_multiply wsX0_withEntry := goodIn_r _ [31, 21, 32] (by decide +kernel) (by decide +kernel)
set_option maxRecDepth 20000 in
theorem gX0_multiply_X0_withEntry : GoodIn wsX0_multiply (va_wsS RX0 9 yX0_withEntry wsX0_withEntry) := goodIn_app (goodIn_of _ (by decide +kernel)) ggX0_multiply_X0_withEntry
set_option maxRecDepth 20000 in
theorem ggX0_multiply_X0_replaceRow : GoodIn wsX0_multiply wsX0_replaceRow := goodIn_r _ [36, 37, 38, 39, 3, 40, 16, 17, 18, 19, 20, 21, 41, 42, 43, 44] (by decide +kernel) (by decide +kernel)
set_option maxRecDepth 20000 in
theorem gX0_multiply_X0_replaceRow : GoodIn wsX0_multiply (wsV RX0 58 RX0 yX0_replaceRow wsX0_replaceRow) := goodIn_app (goodIn_of _ (by decide +kernel)) ggX0_multiply_X0_replaceRow
set_option maxRecDepth 20000 in
theorem ggX0_rotate_X0_requireRow : GoodIn wsX0_rotate wsX0_requireRow := goodIn_ca (goodIn_r _ [4, 5, 6] (by decide +kernel) (by decide +kernel)) (goodIn_sub (fun _ h => List.mem_cons_of_mem _ (List.mem_append_left _ (List.mem_append_right _ h))) (by decide +kernel))
set_option maxRecDepth 20000 in
theorem gX0_rotate_X0_requireRow : GoodIn wsX0_rotate (va_wsS RX0 20 yX0_requireRow wsX0_requireRow) := goodIn_app (goodIn_of _ (by decide +kernel)) ggX0_rotate_X0_requireRow
set_option maxRecDepth 20000 in
theorem ggX0_rotate_X0_requireRange : GoodIn wsX0_rotate wsX0_requireRange := goodIn_ca (goodIn_r _ [9, 10, 11] (by decide +kernel) (by decide +kernel)) (goodIn_sub (fun _ h => List.mem_cons_of_mem _ (List.mem_append_right _ h)) (by decide +kernel))
set_option maxRecDepth 20000 in
theorem gX0_rotate_X0_requireRange : GoodIn wsX0_rotate (va_wsS RX0 28 yX0_requireRange wsX0_requireRange) := goodIn_app (goodIn_of _ (by decide +kernel)) ggX0_rotate_X0_requireRange
set_option maxRecDepth 20000 in
theorem ggX0_rotate_X0_rowAt : GoodIn wsX0_rotate wsX0_rowAt := goodIn_r _ [15, 16, 17, 41, 42, 43, 44] (by decide +kernel) (by decide +kernel)
set_option maxRecDepth 20000 in
theorem gX0_rotate_X0_rowAt : GoodIn wsX0_rotate (wsV RX0 32 RX0 yX0_rowAt wsX0_rowAt) := goodIn_app (goodIn_of _ (by decide +kernel)) ggX0_rotate_X0_rowAt
set_option maxRecDepth 20000 in
theorem ggX0_rotate_X0_wrap : GoodIn wsX0_rotate wsX0_wrap := goodIn_r _ [20, 21, 22, 23, 24] (by decide +kernel) (by decide +kernel)
set_option maxRecDepth 20000 in
theorem gX0_rotate_X0_wrap : GoodIn wsX0_rotate (va_wsS RX0 65 yX0_wrap wsX0_wrap) := goodIn_app (goodIn_of _ (by decide +kernel)) ggX0_rotate_X0_wrap
set_option maxRecDepth 20000 in
theorem ggX0_rotate_X0_entryAt : GoodIn wsX0_rotate wsX0_entryAt := goodIn_r _ [27, 28] (by decide +kernel) (by decide +kernel)
set_option maxRecDepth 20000 in
theorem gX0_rotate_X0_entryAt : GoodIn wsX0_rotate (va_wsS RX0 36 yX0_entryAt wsX0_entryAt) := goodIn_app (goodIn_of _ (by decide +kernel)) ggX0_rotate_X0_entryAt
set_option maxRecDepth 20000 in
theorem ggX0_rotate_X0_withEntry : GoodIn wsX0_rotate wsX0_withEntry := goodIn_r _ [31, 28, 32] (by decide +kernel) (by decide +kernel)
set_option maxRecDepth 20000 in
theorem gX0_rotate_X0_withEntry : GoodIn wsX0_rotate (va_wsS RX0 9 yX0_withEntry wsX0_withEntry) := goodIn_app (goodIn_of _ (by decide +kernel)) ggX0_rotate_X0_withEntry
set_option maxRecDepth 20000 in
theorem ggX0_rotate_X0_replaceRow : GoodIn wsX0_rotate wsX0_replaceRow := goodIn_r _ [36, 37, 38, 39, 3, 40, 16, 17, 25, 26, 27, 28, 41, 42, 43, 44] (by decide +kernel) (by decide +kernel)
set_option maxRecDepth 20000 in
theorem gX0_rotate_X0_replaceRow : GoodIn wsX0_rotate (wsV RX0 58 RX0 yX0_replaceRow wsX0_replaceRow) := goodIn_app (goodIn_of _ (by decide +kernel)) ggX0_rotate_X0_replaceRow
set_option maxRecDepth 20000 in
theorem ggX0_tone_X0_requireRow : GoodIn wsX0_tone wsX0_requireRow := goodIn_ca (goodIn_r _ [4, 5, 6] (by decide +kernel) (by decide +kernel)) (goodIn_sub (fun _ h => List.mem_cons_of_mem _ (List.mem_append_right _ h)) (by decide +kernel))
set_option maxRecDepth 20000 in
theorem gX0_tone_X0_requireRow : GoodIn wsX0_tone (va_wsS RX0 20 yX0_requireRow wsX0_requireRow) := goodIn_app (goodIn_of _ (by decide +kernel)) ggX0_tone_X0_requireRow
set_option maxRecDepth 20000 in
theorem ggX0_tone_X0_requirePlace : GoodIn wsX0_tone wsX0_requirePlace := goodIn_ca (goodIn_r _ [9, 5, 6] (by decide +kernel) (by decide +kernel)) (goodIn_sub (fun _ h => List.mem_cons_of_mem _ (List.mem_append_right _ h)) (by decide +kernel))
set_option maxRecDepth 20000 in
theorem gX0_tone_X0_requirePlace : GoodIn wsX0_tone (va_wsS RX0 24 yX0_requirePlace wsX0_requirePlace) := goodIn_app (goodIn_of _ (by decide +kernel)) ggX0_tone_X0_requirePlace
set_option maxRecDepth 20000 in
theorem ggX0_tone_X0_rowAt : GoodIn wsX0_tone wsX0_rowAt := goodIn_r _ [13, 14, 15, 20, 21, 22, 23] (by decide +kernel) (by decide +kernel)
set_option maxRecDepth 20000 in
theorem gX0_tone_X0_rowAt : GoodIn wsX0_tone (wsV RX0 32 RX0 yX0_rowAt wsX0_rowAt) := goodIn_app (goodIn_of _ (by decide +kernel)) ggX0_tone_X0_rowAt
set_option maxRecDepth 20000 in
theorem ggX0_tone_X0_entryAt : GoodIn wsX0_tone wsX0_entryAt := goodIn_r _ [18, 19] (by decide +kernel) (by decide +kernel)
set_option maxRecDepth 20000 in
theorem gX0_tone_X0_entryAt : GoodIn wsX0_tone (va_wsS RX0 36 yX0_entryAt wsX0_entryAt) := goodIn_app (goodIn_of _ (by decide +kernel)) ggX0_tone_X0_entryAt
set_option maxRecDepth 20000 in
theorem ggX0_interval_X0_requireRow : GoodIn wsX0_interval wsX0_requireRow := goodIn_ca (goodIn_r _ [4, 5, 6] (by decide +kernel) (by decide +kernel)) (goodIn_sub (fun _ h => List.mem_cons_of_mem _ (List.mem_append_right _ h)) (by decide +kernel))
set_option maxRecDepth 20000 in
theorem gX0_interval_X0_requireRow : GoodIn wsX0_interval (va_wsS RX0 20 yX0_requireRow wsX0_requireRow) := goodIn_app (goodIn_of _ (by decide +kernel)) ggX0_interval_X0_requireRow
set_option maxRecDepth 20000 in
theorem ggX0_interval_X0_requirePlace : GoodIn wsX0_interval wsX0_requirePlace := goodIn_ca (goodIn_r _ [9, 5, 6] (by decide +kernel) (by decide +kernel)) (goodIn_sub (fun _ h => List.mem_cons_of_mem _ (List.mem_append_right _ h)) (by decide +kernel))
set_option maxRecDepth 20000 in
theorem gX0_interval_X0_requirePlace : GoodIn wsX0_interval (va_wsS RX0 24 yX0_requirePlace wsX0_requirePlace) := goodIn_app (goodIn_of _ (by decide +kernel)) ggX0_interval_X0_requirePlace
set_option maxRecDepth 20000 in
theorem ggX0_interval_X0_rowAt : GoodIn wsX0_interval wsX0_rowAt := goodIn_r _ [13, 14, 15, 30, 31, 32, 33] (by decide +kernel) (by decide +kernel)
set_option maxRecDepth 20000 in
theorem gX0_interval_X0_rowAt : GoodIn wsX0_interval (wsV RX0 32 RX0 yX0_rowAt wsX0_rowAt) := goodIn_app (goodIn_of _ (by decide +kernel)) ggX0_interval_X0_rowAt
set_option maxRecDepth 20000 in
theorem ggX0_interval_X0_intervalAt : GoodIn wsX0_interval wsX0_intervalAt := goodIn_r _ [18, 19, 20, 3, 21, 22, 23, 24, 25, 26, 27, 28, 29] (by decide +kernel) (by decide +kernel)
set_option maxRecDepth 20000 in
theorem gX0_interval_X0_intervalAt : GoodIn wsX0_interval (va_wsS RX0 69 yX0_intervalAt wsX0_intervalAt) := goodIn_app (goodIn_of _ (by decide +kernel)) ggX0_interval_X0_intervalAt
set_option maxRecDepth 20000 in
theorem ggX0_hasAllIntervals_X0_requireRow : GoodIn wsX0_hasAllIntervals wsX0_requireRow := goodIn_ca (goodIn_r _ [4, 5, 6] (by decide +kernel) (by decide +kernel)) (goodIn_sub (fun _ h => List.mem_cons_of_mem _ (List.mem_append_right _ h)) (by decide +kernel))
set_option maxRecDepth 20000 in
theorem gX0_hasAllIntervals_X0_requireRow : GoodIn wsX0_hasAllIntervals (va_wsS RX0 20 yX0_requireRow wsX0_requireRow) := goodIn_app (goodIn_of _ (by decide +kernel)) ggX0_hasAllIntervals_X0_requireRow
set_option maxRecDepth 20000 in
theorem ggX0_hasAllIntervals_X0_rowAt : GoodIn wsX0_hasAllIntervals wsX0_rowAt := goodIn_r _ [10, 11, 12, 34, 35, 36, 37] (by decide +kernel) (by decide +kernel)
set_option maxRecDepth 20000 in
theorem gX0_hasAllIntervals_X0_rowAt : GoodIn wsX0_hasAllIntervals (wsV RX0 32 RX0 yX0_rowAt wsX0_rowAt) := goodIn_app (goodIn_of _ (by decide +kernel)) ggX0_hasAllIntervals_X0_rowAt
set_option maxRecDepth 20000 in
theorem ggX0_hasAllIntervals_X0_intervalAt : GoodIn wsX0_hasAllIntervals wsX0_intervalAt := goodIn_r _ [15, 16, 17, 3, 18, 19, 20, 21, 22, 23, 24, 25, 26] (by decide +kernel) (by decide +kernel)
set_option maxRecDepth 20000 in
theorem gX0_hasAllIntervals_X0_intervalAt : GoodIn wsX0_hasAllIntervals (va_wsS RX0 69 yX0_intervalAt wsX0_intervalAt) := goodIn_app (goodIn_of _ (by decide +kernel)) ggX0_hasAllIntervals_X0_intervalAt
set_option maxRecDepth 20000 in
theorem ggX0_hasAllIntervals_J6_bitCount_0f7a4 : GoodIn wsX0_hasAllIntervals wsJ6_bitCount_0f7a4 := goodIn_r _ [30, 31, 32, 33] (by decide +kernel) (by decide +kernel)
set_option maxRecDepth 20000 in
theorem gX0_hasAllIntervals_J6_bitCount_0f7a4 : GoodIn wsX0_hasAllIntervals (va_wsS RX0 72 yJ6_bitCount_0f7a4 wsJ6_bitCount_0f7a4) := goodIn_app (goodIn_of _ (by decide +kernel)) ggX0_hasAllIntervals_J6_bitCount_0f7a4
set_option maxRecDepth 20000 in
theorem ggX0_toneOf_X0_requireRow : GoodIn wsX0_toneOf wsX0_requireRow := goodIn_ca (goodIn_r _ [4, 5, 6] (by decide +kernel) (by decide +kernel)) (goodIn_sub (fun _ h => List.mem_cons_of_mem _ (List.mem_append_left _ (List.mem_append_right _ h))) (by decide +kernel))
set_option maxRecDepth 20000 in
theorem gX0_toneOf_X0_requireRow : GoodIn wsX0_toneOf (va_wsS RX0 20 yX0_requireRow wsX0_requireRow) := goodIn_app (goodIn_of _ (by decide +kernel)) ggX0_toneOf_X0_requireRow
set_option maxRecDepth 20000 in
theorem ggX0_toneOf_X0_requirePlace : GoodIn wsX0_toneOf wsX0_requirePlace := goodIn_ca (goodIn_r _ [9, 5, 6] (by decide +kernel) (by decide +kernel)) (goodIn_sub (fun _ h => List.mem_cons_of_mem _ (List.mem_append_left _ (List.mem_append_right _ h))) (by decide +kernel))
set_option maxRecDepth 20000 in
theorem gX0_toneOf_X0_requirePlace : GoodIn wsX0_toneOf (va_wsS RX0 24 yX0_requirePlace wsX0_requirePlace) := goodIn_app (goodIn_of _ (by decide +kernel)) ggX0_toneOf_X0_requirePlace
set_option maxRecDepth 20000 in
theorem ggX0_toneOf_X0_requireForm : GoodIn wsX0_toneOf wsX0_requireForm := goodIn_ca (goodIn_r _ [12, 13, 14, 3, 15, 16, 17] (by decide +kernel) (by decide +kernel)) (goodIn_sub (fun _ h => List.mem_cons_of_mem _ (List.mem_append_right _ h)) (by decide +kernel))
set_option maxRecDepth 20000 in
theorem gX0_toneOf_X0_requireForm : GoodIn wsX0_toneOf (va_wsS RX0 47 yX0_requireForm wsX0_requireForm) := goodIn_app (goodIn_of _ (by decide +kernel)) ggX0_toneOf_X0_requireForm
set_option maxRecDepth 20000 in
theorem ggX0_toneOf_X0_rowAt : GoodIn wsX0_toneOf wsX0_rowAt := goodIn_r _ [21, 22, 23, 45, 46, 47, 48] (by decide +kernel) (by decide +kernel)
set_option maxRecDepth 20000 in
theorem gX0_toneOf_X0_rowAt : GoodIn wsX0_toneOf (wsV RX0 32 RX0 yX0_rowAt wsX0_rowAt) := goodIn_app (goodIn_of _ (by decide +kernel)) ggX0_toneOf_X0_rowAt
set_option maxRecDepth 20000 in
theorem ggX0_toneOf_X0_codeOf : GoodIn wsX0_toneOf wsX0_codeOf := goodIn_r _ [26] (by decide +kernel) (by decide +kernel)
set_option maxRecDepth 20000 in
theorem gX0_toneOf_X0_codeOf : GoodIn wsX0_toneOf (va_wsS RX0 50 yX0_codeOf wsX0_codeOf) := goodIn_app (goodIn_of _ (by decide +kernel)) ggX0_toneOf_X0_codeOf
set_option maxRecDepth 20000 in
theorem ggX0_toneOf_X0_formWith : GoodIn wsX0_toneOf wsX0_formWith := goodIn_r _ [29, 30, 31, 3, 32, 33, 34, 35, 36, 37, 38, 39, 40, 41, 42, 43, 44] (by decide +kernel) (by decide +kernel)
set_option maxRecDepth 20000 in
theorem gX0_toneOf_X0_formWith : GoodIn wsX0_toneOf (va_wsS RX0 54 yX0_formWith wsX0_formWith) := goodIn_app (goodIn_of _ (by decide +kernel)) ggX0_toneOf_X0_formWith
set_option maxRecDepth 20000 in
theorem ggX0_toneOf_X0_entryAt : GoodIn wsX0_toneOf wsX0_entryAt := goodIn_r _ [32, 33] (by decide +kernel) (by decide +kernel)
set_option maxRecDepth 20000 in
theorem gX0_toneOf_X0_entryAt : GoodIn wsX0_toneOf (va_wsS RX0 36 yX0_entryAt wsX0_entryAt) := goodIn_app (goodIn_of _ (by decide +kernel)) ggX0_toneOf_X0_entryAt
set_option maxRecDepth 20000 in
theorem ggX0_matrix_X0_requireRow : GoodIn wsX0_matrix wsX0_requireRow := goodIn_ca (goodIn_r _ [4, 5, 6] (by decide +kernel) (by decide +kernel)) (goodIn_sub (fun _ h => List.mem_cons_of_mem _ (List.mem_append_right _ h)) (by decide +kernel))
set_option maxRecDepth 20000 in
theorem gX0_matrix_X0_requireRow : GoodIn wsX0_matrix (va_wsS RX0 20 yX0_requireRow wsX0_requireRow) := goodIn_app (goodIn_of _ (by decide +kernel)) ggX0_matrix_X0_requireRow
set_option maxRecDepth 20000 in
theorem ggX0_matrix_X0_requirePlace : GoodIn wsX0_matrix wsX0_requirePlace := goodIn_ca (goodIn_r _ [9, 5, 6] (by decide +kernel) (by decide +kernel)) (goodIn_sub (fun _ h => List.mem_cons_of_mem _ (List.mem_append_right _ h)) (by decide +kernel))
set_option maxRecDepth 20000 in
theorem gX0_matrix_X0_requirePlace : GoodIn wsX0_matrix (va_wsS RX0 24 yX0_requirePlace wsX0_requirePlace) := goodIn_app (goodIn_of _ (by decide +kernel)) ggX0_matrix_X0_requirePlace
set_option maxRecDepth 20000 in
theorem ggX0_matrix_X0_rowAt : GoodIn wsX0_matrix wsX0_rowAt := goodIn_r _ [13, 14, 15, 27, 28, 29, 30] (by decide +kernel) (by decide +kernel)
set_option maxRecDepth 20000 in
theorem gX0_matrix_X0_rowAt : GoodIn wsX0_matrix (wsV RX0 32 RX0 yX0_rowAt wsX0_rowAt) := goodIn_app (goodIn_of _ (by decide +kernel)) ggX0_matrix_X0_rowAt
set_option maxRecDepth 20000 in
theorem ggX0_matrix_X0_entryAt : GoodIn wsX0_matrix wsX0_entryAt := goodIn_r _ [18, 19] (by decide +kernel) (by decide +kernel)
set_option maxRecDepth 20000 in
theorem gX0_matrix_X0_entryAt : GoodIn wsX0_matrix (va_wsS RX0 36 yX0_entryAt wsX0_entryAt) := goodIn_app (goodIn_of _ (by decide +kernel)) ggX0_matrix_X0_entryAt
set_option maxRecDepth 20000 in
theorem ggX0_matrix_X0_wrap : GoodIn wsX0_matrix wsX0_wrap := goodIn_r _ [22, 23, 24, 25, 26] (by decide +kernel) (by decide +kernel)
set_option maxRecDepth 20000 in
theorem gX0_matrix_X0_wrap : GoodIn wsX0_matrix (va_wsS RX0 65 yX0_wrap wsX0_wrap) := goodIn_app (goodIn_of _ (by decide +kernel)) ggX0_matrix_X0_wrap
set_option maxRecDepth 20000 in
theorem ggX0_differentForms_X0_requireRow : GoodIn wsX0_differentForms wsX0_requireRow := goodIn_ca (goodIn_r _ [4, 5, 6] (by decide +kernel) (by decide +kernel)) (goodIn_sub (fun _ h => List.mem_cons_of_mem _ (List.mem_append_right _ h)) (by decide +kernel))
set_option maxRecDepth 20000 in
theorem gX0_differentForms_X0_requireRow : GoodIn wsX0_differentForms (va_wsS RX0 20 yX0_requireRow wsX0_requireRow) := goodIn_app (goodIn_of _ (by decide +kernel)) ggX0_differentForms_X0_requireRow
set_option maxRecDepth 20000 in
theorem ggX0_differentForms_X0_rowAt : GoodIn wsX0_differentForms wsX0_rowAt := goodIn_r _ [10, 11, 12, 34, 35, 36, 37] (by decide +kernel) (by decide +kernel)
set_option maxRecDepth 20000 in
theorem gX0_differentForms_X0_rowAt : GoodIn wsX0_differentForms (wsV RX0 32 RX0 yX0_rowAt wsX0_rowAt) := goodIn_app (goodIn_of _ (by decide +kernel)) ggX0_differentForms_X0_rowAt
set_option maxRecDepth 20000 in
theorem ggX0_differentForms_X0_codeOf : GoodIn wsX0_differentForms wsX0_codeOf := goodIn_r _ [15] (by decide +kernel) (by decide +kernel)
set_option maxRecDepth 20000 in
theorem gX0_differentForms_X0_codeOf : GoodIn wsX0_differentForms (va_wsS RX0 50 yX0_codeOf wsX0_codeOf) := goodIn_app (goodIn_of _ (by decide +kernel)) ggX0_differentForms_X0_codeOf
set_option maxRecDepth 20000 in
theorem ggX0_differentForms_X0_formWith : GoodIn wsX0_differentForms wsX0_formWith := goodIn_r _ [18, 19, 20, 3, 21, 22, 23, 24, 25, 26, 27, 28, 29, 30, 31, 32, 33] (by decide +kernel) (by decide +kernel)
set_option maxRecDepth 20000 in
theorem gX0_differentForms_X0_formWith : GoodIn wsX0_differentForms (va_wsS RX0 54 yX0_formWith wsX0_formWith) := goodIn_app (goodIn_of _ (by decide +kernel)) ggX0_differentForms_X0_formWith
set_option maxRecDepth 20000 in
theorem ggX0_formOfOther_X0_requireRow : GoodIn wsX0_formOfOther wsX0_requireRow := goodIn_ca (goodIn_r _ [4, 5, 6] (by decide +kernel) (by decide +kernel)) (goodIn_sub (fun _ h => List.mem_cons_of_mem _ (List.mem_append_right _ h)) (by decide +kernel))
set_option maxRecDepth 20000 in
theorem gX0_formOfOther_X0_requireRow : GoodIn wsX0_formOfOther (va_wsS RX0 20 yX0_requireRow wsX0_requireRow) := goodIn_app (goodIn_of _ (by decide +kernel)) ggX0_formOfOther_X0_requireRow
set_option maxRecDepth 20000 in
theorem ggX0_formOfOther_X0_rowAt : GoodIn wsX0_formOfOther wsX0_rowAt := goodIn_r _ [10, 11, 12, 31, 32, 33, 34] (by decide +kernel) (by decide +kernel)
set_option maxRecDepth 20000 in
theorem gX0_formOfOther_X0_rowAt : GoodIn wsX0_formOfOther (wsV RX0 32 RX0 yX0_rowAt wsX0_rowAt) := goodIn_app (goodIn_of _ (by decide +kernel)) ggX0_formOfOther_X0_rowAt
set_option maxRecDepth 20000 in
theorem ggX0_formOfOther_X0_formWith : GoodIn wsX0_formOfOther wsX0_formWith := goodIn_r _ [15, 16, 17, 3, 18, 19, 20, 21, 22, 23, 24, 25, 26, 27, 28, 29, 30] (by decide +kernel) (by decide +kernel)
set_option maxRecDepth 20000 in
theorem gX0_formOfOther_X0_formWith : GoodIn wsX0_formOfOther (va_wsS RX0 54 yX0_formWith wsX0_formWith) := goodIn_app (goodIn_of _ (by decide +kernel)) ggX0_formOfOther_X0_formWith
set_option maxRecDepth 20000 in
theorem ggX0_segment_X0_requireRow : GoodIn wsX0_segment wsX0_requireRow := goodIn_ca (goodIn_r _ [4, 5, 6] (by decide +kernel) (by decide +kernel)) (goodIn_sub (fun _ h => List.mem_cons_of_mem _ (List.mem_append_left _ (List.mem_append_right _ h))) (by decide +kernel))
set_option maxRecDepth 20000 in
theorem gX0_segment_X0_requireRow : GoodIn wsX0_segment (va_wsS RX0 20 yX0_requireRow wsX0_requireRow) := goodIn_app (goodIn_of _ (by decide +kernel)) ggX0_segment_X0_requireRow
set_option maxRecDepth 20000 in
theorem ggX0_segment_X0_requirePlace : GoodIn wsX0_segment wsX0_requirePlace := goodIn_ca (goodIn_r _ [9, 5, 6] (by decide +kernel) (by decide +kernel)) (goodIn_sub (fun _ h => List.mem_cons_of_mem _ (List.mem_append_left _ (List.mem_append_right _ h))) (by decide +kernel))
set_option maxRecDepth 20000 in
theorem gX0_segment_X0_requirePlace : GoodIn wsX0_segment (va_wsS RX0 24 yX0_requirePlace wsX0_requirePlace) := goodIn_app (goodIn_of _ (by decide +kernel)) ggX0_segment_X0_requirePlace
set_option maxRecDepth 20000 in
theorem ggX0_segment_X0_requireRange : GoodIn wsX0_segment wsX0_requireRange := goodIn_ca (goodIn_r _ [12, 13, 14] (by decide +kernel) (by decide +kernel)) (goodIn_sub (fun _ h => List.mem_cons_of_mem _ (List.mem_append_right _ h)) (by decide +kernel))
set_option maxRecDepth 20000 in
theorem gX0_segment_X0_requireRange : GoodIn wsX0_segment (va_wsS RX0 28 yX0_requireRange wsX0_requireRange) := goodIn_app (goodIn_of _ (by decide +kernel)) ggX0_segment_X0_requireRange
set_option maxRecDepth 20000 in
theorem ggX0_segment_X0_rowAt : GoodIn wsX0_segment wsX0_rowAt := goodIn_r _ [18, 19, 20, 28, 29, 30, 31] (by decide +kernel) (by decide +kernel)
set_option maxRecDepth 20000 in
theorem gX0_segment_X0_rowAt : GoodIn wsX0_segment (wsV RX0 32 RX0 yX0_rowAt wsX0_rowAt) := goodIn_app (goodIn_of _ (by decide +kernel)) ggX0_segment_X0_rowAt
set_option maxRecDepth 20000 in
theorem ggX0_segment_X0_setOf : GoodIn wsX0_segment wsX0_setOf := goodIn_r _ [23, 24, 25, 3, 26, 27] (by decide +kernel) (by decide +kernel)
set_option maxRecDepth 20000 in
theorem gX0_segment_X0_setOf : GoodIn wsX0_segment (va_wsS RX0 77 yX0_setOf wsX0_setOf) := goodIn_app (goodIn_of _ (by decide +kernel)) ggX0_segment_X0_setOf
set_option maxRecDepth 20000 in
theorem ggX0_classOf_X0_requireRange : GoodIn wsX0_classOf wsX0_requireRange := goodIn_ca (goodIn_r _ [4, 5, 6] (by decide +kernel) (by decide +kernel)) (goodIn_sub (fun _ h => List.mem_cons_of_mem _ (List.mem_append_right _ h)) (by decide +kernel))
set_option maxRecDepth 20000 in
theorem gX0_classOf_X0_requireRange : GoodIn wsX0_classOf (va_wsS RX0 28 yX0_requireRange wsX0_requireRange) := goodIn_app (goodIn_of _ (by decide +kernel)) ggX0_classOf_X0_requireRange
set_option maxRecDepth 20000 in
theorem ggX0_classOf_X0_leastLike : GoodIn wsX0_classOf wsX0_leastLike := goodIn_r _ [9, 10, 11, 12, 13, 14, 15, 3, 16, 17, 18, 19, 20, 21, 22, 23, 24, 25, 26] (by decide +kernel) (by decide +kernel)
set_option maxRecDepth 20000 in
theorem gX0_classOf_X0_leastLike : GoodIn wsX0_classOf (va_wsS RX0 81 yX0_leastLike wsX0_leastLike) := goodIn_app (goodIn_of _ (by decide +kernel)) ggX0_classOf_X0_leastLike
set_option maxRecDepth 20000 in
theorem ggX0_pairs_X0_requireRange : GoodIn wsX0_pairs wsX0_requireRange := goodIn_ca (goodIn_r _ [4, 5, 6] (by decide +kernel) (by decide +kernel)) (goodIn_sub (fun _ h => List.mem_cons_of_mem _ (List.mem_append_right _ h)) (by decide +kernel))
set_option maxRecDepth 20000 in
theorem gX0_pairs_X0_requireRange : GoodIn wsX0_pairs (va_wsS RX0 28 yX0_requireRange wsX0_requireRange) := goodIn_app (goodIn_of _ (by decide +kernel)) ggX0_pairs_X0_requireRange
set_option maxRecDepth 20000 in
theorem ggX0_pairs_X0_transposed : GoodIn wsX0_pairs wsX0_transposed := goodIn_r _ [9] (by decide +kernel) (by decide +kernel)
set_option maxRecDepth 20000 in
theorem gX0_pairs_X0_transposed : GoodIn wsX0_pairs (va_wsS RX0 84 yX0_transposed wsX0_transposed) := goodIn_app (goodIn_of _ (by decide +kernel)) ggX0_pairs_X0_transposed
set_option maxRecDepth 20000 in
theorem ggX0_pairs_J6_bitCount_0f7a4 : GoodIn wsX0_pairs wsJ6_bitCount_0f7a4 := goodIn_r _ [13, 14, 15, 16] (by decide +kernel) (by decide +kernel)
set_option maxRecDepth 20000 in
theorem gX0_pairs_J6_bitCount_0f7a4 : GoodIn wsX0_pairs (va_wsS RX0 72 yJ6_bitCount_0f7a4 wsJ6_bitCount_0f7a4) := goodIn_app (goodIn_of _ (by decide +kernel)) ggX0_pairs_J6_bitCount_0f7a4
set_option maxRecDepth 20000 in
theorem ggX0_combining_X0_requireRow : GoodIn wsX0_combining wsX0_requireRow := goodIn_ca (goodIn_r _ [4, 5, 6] (by decide +kernel) (by decide +kernel)) (goodIn_sub (fun _ h => List.mem_cons_of_mem _ (List.mem_append_right _ h)) (by decide +kernel))
set_option maxRecDepth 20000 in
theorem gX0_combining_X0_requireRow : GoodIn wsX0_combining (va_wsS RX0 20 yX0_requireRow wsX0_requireRow) := goodIn_app (goodIn_of _ (by decide +kernel)) ggX0_combining_X0_requireRow
set_option maxRecDepth 20000 in
theorem ggX0_combining_X0_rowAt : GoodIn wsX0_combining wsX0_rowAt := goodIn_r _ [10, 11, 12, 34, 35, 36, 37] (by decide +kernel) (by decide +kernel)
set_option maxRecDepth 20000 in
theorem gX0_combining_X0_rowAt : GoodIn wsX0_combining (wsV RX0 32 RX0 yX0_rowAt wsX0_rowAt) := goodIn_app (goodIn_of _ (by decide +kernel)) ggX0_combining_X0_rowAt
set_option maxRecDepth 20000 in
theorem ggX0_combining_X0_setOf : GoodIn wsX0_combining wsX0_setOf := goodIn_r _ [15, 16, 17, 3, 18, 19] (by decide +kernel) (by decide +kernel)
set_option maxRecDepth 20000 in
theorem gX0_combining_X0_setOf : GoodIn wsX0_combining (va_wsS RX0 77 yX0_setOf wsX0_setOf) := goodIn_app (goodIn_of _ (by decide +kernel)) ggX0_combining_X0_setOf
set_option maxRecDepth 20000 in
theorem ggX0_combining_X0_formWith : GoodIn wsX0_combining wsX0_formWith := goodIn_r _ [22, 16, 17, 3, 18, 19, 23, 24, 25, 26, 27, 28, 29, 30, 31, 32, 33] (by decide +kernel) (by decide +kernel)
set_option maxRecDepth 20000 in
theorem gX0_combining_X0_formWith : GoodIn wsX0_combining (va_wsS RX0 54 yX0_formWith wsX0_formWith) := goodIn_app (goodIn_of _ (by decide +kernel)) ggX0_combining_X0_formWith
set_option maxRecDepth 20000 in
theorem ggX0_isDerived_X0_requireRow : GoodIn wsX0_isDerived wsX0_requireRow := goodIn_ca (goodIn_r _ [4, 5, 6] (by decide +kernel) (by decide +kernel)) (goodIn_sub (fun _ h => List.mem_cons_of_mem _ (List.mem_append_left _ (List.mem_append_right _ h))) (by decide +kernel))
set_option maxRecDepth 20000 in
theorem gX0_isDerived_X0_requireRow : GoodIn wsX0_isDerived (va_wsS RX0 20 yX0_requireRow wsX0_requireRow) := goodIn_app (goodIn_of _ (by decide +kernel)) ggX0_isDerived_X0_requireRow
set_option maxRecDepth 20000 in
theorem ggX0_isDerived_X0_requireSize : GoodIn wsX0_isDerived wsX0_requireSize := goodIn_ca (goodIn_r _ [9, 10, 11] (by decide +kernel) (by decide +kernel)) (goodIn_sub (fun _ h => List.mem_cons_of_mem _ (List.mem_append_right _ h)) (by decide +kernel))
set_option maxRecDepth 20000 in
theorem gX0_isDerived_X0_requireSize : GoodIn wsX0_isDerived (va_wsS RX0 87 yX0_requireSize wsX0_requireSize) := goodIn_app (goodIn_of _ (by decide +kernel)) ggX0_isDerived_X0_requireSize
set_option maxRecDepth 20000 in
theorem ggX0_isDerived_X0_rowAt : GoodIn wsX0_isDerived wsX0_rowAt := goodIn_r _ [15, 16, 17, 45, 46, 47, 48] (by decide +kernel) (by decide +kernel)
set_option maxRecDepth 20000 in
theorem gX0_isDerived_X0_rowAt : GoodIn wsX0_isDerived (wsV RX0 32 RX0 yX0_rowAt wsX0_rowAt) := goodIn_app (goodIn_of _ (by decide +kernel)) ggX0_isDerived_X0_rowAt
set_option maxRecDepth 20000 in
theorem ggX0_isDerived_X0_setOf : GoodIn wsX0_isDerived wsX0_setOf := goodIn_r _ [20, 21, 22, 3, 23, 24] (by decide +kernel) (by decide +kernel)
set_option maxRecDepth 20000 in
theorem gX0_isDerived_X0_setOf : GoodIn wsX0_isDerived (va_wsS RX0 77 yX0_setOf wsX0_setOf) := goodIn_app (goodIn_of _ (by decide +kernel)) ggX0_isDerived_X0_setOf
set_option maxRecDepth 20000 in
theorem ggX0_isDerived_X0_leastLike : GoodIn wsX0_isDerived wsX0_leastLike := goodIn_r _ [27, 28, 29, 30, 31, 32, 33, 3, 34, 35, 36, 37, 38, 39, 40, 41, 42, 43, 44] (by decide +kernel) (by decide +kernel)
set_option maxRecDepth 20000 in
theorem gX0_isDerived_X0_leastLike : GoodIn wsX0_isDerived (va_wsS RX0 81 yX0_leastLike wsX0_leastLike) := goodIn_app (goodIn_of _ (by decide +kernel)) ggX0_isDerived_X0_leastLike
set_option maxRecDepth 20000 in
theorem ggX0_keptSets_X0_requireRow : GoodIn wsX0_keptSets wsX0_requireRow := goodIn_ca (goodIn_r _ [4, 5, 6] (by decide +kernel) (by decide +kernel)) (goodIn_sub (fun _ h => List.mem_cons_of_mem _ (List.mem_append_left _ (List.mem_append_right _ h))) (by decide +kernel))
set_option maxRecDepth 20000 in
theorem gX0_keptSets_X0_requireRow : GoodIn wsX0_keptSets (va_wsS RX0 20 yX0_requireRow wsX0_requireRow) := goodIn_app (goodIn_of _ (by decide +kernel)) ggX0_keptSets_X0_requireRow
set_option maxRecDepth 20000 in
theorem ggX0_keptSets_X0_requireForm : GoodIn wsX0_keptSets wsX0_requireForm := goodIn_ca (goodIn_r _ [9, 10, 11, 3, 12, 13, 14] (by decide +kernel) (by decide +kernel)) (goodIn_sub (fun _ h => List.mem_cons_of_mem _ (List.mem_append_right _ h)) (by decide +kernel))
set_option maxRecDepth 20000 in
theorem gX0_keptSets_X0_requireForm : GoodIn wsX0_keptSets (va_wsS RX0 47 yX0_requireForm wsX0_requireForm) := goodIn_app (goodIn_of _ (by decide +kernel)) ggX0_keptSets_X0_requireForm
set_option maxRecDepth 20000 in
theorem ggX0_keptSets_X0_requireRange : GoodIn wsX0_keptSets wsX0_requireRange := goodIn_ca (goodIn_r _ [12, 13, 14] (by decide +kernel) (by decide +kernel)) (goodIn_sub (fun _ h => List.mem_cons_of_mem _ (List.mem_append_right _ h)) (by decide +kernel))
set_option maxRecDepth 20000 in
theorem gX0_keptSets_X0_requireRange : GoodIn wsX0_keptSets (va_wsS RX0 28 yX0_requireRange wsX0_requireRange) := goodIn_app (goodIn_of _ (by decide +kernel)) ggX0_keptSets_X0_requireRange
set_option maxRecDepth 20000 in
theorem ggX0_keptSets_X0_rowAt : GoodIn wsX0_keptSets wsX0_rowAt := goodIn_r _ [18, 19, 20, 61, 62, 63, 64] (by decide +kernel) (by decide +kernel)
set_option maxRecDepth 20000 in
theorem gX0_keptSets_X0_rowAt : GoodIn wsX0_keptSets (wsV RX0 32 RX0 yX0_rowAt wsX0_rowAt) := goodIn_app (goodIn_of _ (by decide +kernel)) ggX0_keptSets_X0_rowAt
set_option maxRecDepth 20000 in
theorem ggX0_keptSets_X0_codeOf : GoodIn wsX0_keptSets wsX0_codeOf := goodIn_r _ [23] (by decide +kernel) (by decide +kernel)
set_option maxRecDepth 20000 in
theorem gX0_keptSets_X0_codeOf : GoodIn wsX0_keptSets (va_wsS RX0 50 yX0_codeOf wsX0_codeOf) := goodIn_app (goodIn_of _ (by decide +kernel)) ggX0_keptSets_X0_codeOf
set_option maxRecDepth 20000 in
theorem ggX0_keptSets_X0_formWith : GoodIn wsX0_keptSets wsX0_formWith := goodIn_r _ [26, 27, 28, 3, 29, 30, 31, 32, 33, 34, 35, 36, 37, 38, 39, 40, 41] (by decide +kernel) (by decide +kernel)
set_option maxRecDepth 20000 in
theorem gX0_keptSets_X0_formWith : GoodIn wsX0_keptSets (va_wsS RX0 54 yX0_formWith wsX0_formWith) := goodIn_app (goodIn_of _ (by decide +kernel)) ggX0_keptSets_X0_formWith
set_option maxRecDepth 20000 in
theorem ggX0_keptSets_X0_countKept : GoodIn wsX0_keptSets wsX0_countKept := goodIn_r _ [44, 45, 46, 3, 47, 27, 28, 29, 30, 48, 49, 50, 38, 39, 40, 41, 51, 52, 53, 54, 55, 56, 57, 58, 59, 60] (by decide +kernel) (by decide +kernel)
set_option maxRecDepth 20000 in
theorem gX0_keptSets_X0_countKept : GoodIn wsX0_keptSets (va_wsS RX0 90 yX0_countKept wsX0_countKept) := goodIn_app (goodIn_of _ (by decide +kernel)) ggX0_keptSets_X0_countKept
set_option maxRecDepth 20000 in
theorem ggX0_longestKept_X0_requireRow : GoodIn wsX0_longestKept wsX0_requireRow := goodIn_ca (goodIn_r _ [8, 9, 10] (by decide +kernel) (by decide +kernel)) (goodIn_sub (fun _ h => List.mem_cons_of_mem _ (List.mem_append_left _ (List.mem_append_right _ h))) (by decide +kernel))
set_option maxRecDepth 20000 in
theorem gX0_longestKept_X0_requireRow : GoodIn wsX0_longestKept (va_wsS RX0 20 yX0_requireRow wsX0_requireRow) := goodIn_app (goodIn_of _ (by decide +kernel)) ggX0_longestKept_X0_requireRow
set_option maxRecDepth 20000 in
theorem ggX0_longestKept_X0_requireForm : GoodIn wsX0_longestKept wsX0_requireForm := goodIn_ca (goodIn_r _ [13, 14, 15, 7, 16, 17, 18] (by decide +kernel) (by decide +kernel)) (goodIn_sub (fun _ h => List.mem_cons_of_mem _ (List.mem_append_right _ h)) (by decide +kernel))
set_option maxRecDepth 20000 in
theorem gX0_longestKept_X0_requireForm : GoodIn wsX0_longestKept (va_wsS RX0 47 yX0_requireForm wsX0_requireForm) := goodIn_app (goodIn_of _ (by decide +kernel)) ggX0_longestKept_X0_requireForm
set_option maxRecDepth 20000 in
theorem ggX0_longestKept_X0_rowAt : GoodIn wsX0_longestKept wsX0_rowAt := goodIn_r _ [22, 23, 24, 52, 53, 54, 55] (by decide +kernel) (by decide +kernel)
set_option maxRecDepth 20000 in
theorem gX0_longestKept_X0_rowAt : GoodIn wsX0_longestKept (wsV RX0 32 RX0 yX0_rowAt wsX0_rowAt) := goodIn_app (goodIn_of _ (by decide +kernel)) ggX0_longestKept_X0_rowAt
set_option maxRecDepth 20000 in
theorem ggX0_longestKept_X0_codeOf : GoodIn wsX0_longestKept wsX0_codeOf := goodIn_r _ [27] (by decide +kernel) (by decide +kernel)
set_option maxRecDepth 20000 in
theorem gX0_longestKept_X0_codeOf : GoodIn wsX0_longestKept (va_wsS RX0 50 yX0_codeOf wsX0_codeOf) := goodIn_app (goodIn_of _ (by decide +kernel)) ggX0_longestKept_X0_codeOf
set_option maxRecDepth 20000 in
theorem ggX0_longestKept_X0_formWith : GoodIn wsX0_longestKept wsX0_formWith := goodIn_r _ [30, 31, 32, 7, 33, 34, 35, 36, 37, 38, 39, 40, 41, 42, 43, 44, 45] (by decide +kernel) (by decide +kernel)
set_option maxRecDepth 20000 in
theorem gX0_longestKept_X0_formWith : GoodIn wsX0_longestKept (va_wsS RX0 54 yX0_formWith wsX0_formWith) := goodIn_app (goodIn_of _ (by decide +kernel)) ggX0_longestKept_X0_formWith
set_option maxRecDepth 20000 in
theorem ggX0_longestKept_X0_placesOf : GoodIn wsX0_longestKept wsX0_placesOf := goodIn_r _ [48, 31, 32, 7, 33, 34, 49, 50, 51, 42, 43, 44, 45] (by decide +kernel) (by decide +kernel)
set_option maxRecDepth 20000 in
theorem gX0_longestKept_X0_placesOf : GoodIn wsX0_longestKept (va_wsS RX0 94 yX0_placesOf wsX0_placesOf) := goodIn_app (goodIn_of _ (by decide +kernel)) ggX0_longestKept_X0_placesOf
set_option maxRecDepth 20000 in
theorem ggX0_longestKept_X0_entryAt : GoodIn wsX0_longestKept wsX0_entryAt := goodIn_r _ [33, 34] (by decide +kernel) (by decide +kernel)
set_option maxRecDepth 20000 in
theorem gX0_longestKept_X0_entryAt : GoodIn wsX0_longestKept (va_wsS RX0 36 yX0_entryAt wsX0_entryAt) := goodIn_app (goodIn_of _ (by decide +kernel)) ggX0_longestKept_X0_entryAt
set_option maxRecDepth 20000 in
theorem ggX0_mostKept_X0_requireRow : GoodIn wsX0_mostKept wsX0_requireRow := goodIn_ca (goodIn_r _ [4, 5, 6] (by decide +kernel) (by decide +kernel)) (goodIn_sub (fun _ h => List.mem_cons_of_mem _ (List.mem_append_left _ (List.mem_append_right _ h))) (by decide +kernel))
set_option maxRecDepth 20000 in
theorem gX0_mostKept_X0_requireRow : GoodIn wsX0_mostKept (va_wsS RX0 20 yX0_requireRow wsX0_requireRow) := goodIn_app (goodIn_of _ (by decide +kernel)) ggX0_mostKept_X0_requireRow
set_option maxRecDepth 20000 in
theorem ggX0_mostKept_X0_requireRange : GoodIn wsX0_mostKept wsX0_requireRange := goodIn_ca (goodIn_r _ [9, 10, 11] (by decide +kernel) (by decide +kernel)) (goodIn_sub (fun _ h => List.mem_cons_of_mem _ (List.mem_append_right _ h)) (by decide +kernel))
set_option maxRecDepth 20000 in
theorem gX0_mostKept_X0_requireRange : GoodIn wsX0_mostKept (va_wsS RX0 28 yX0_requireRange wsX0_requireRange) := goodIn_app (goodIn_of _ (by decide +kernel)) ggX0_mostKept_X0_requireRange
set_option maxRecDepth 20000 in
theorem ggX0_mostKept_X0_rowAt : GoodIn wsX0_mostKept wsX0_rowAt := goodIn_r _ [15, 16, 17, 58, 59, 60, 61] (by decide +kernel) (by decide +kernel)
set_option maxRecDepth 20000 in
theorem gX0_mostKept_X0_rowAt : GoodIn wsX0_mostKept (wsV RX0 32 RX0 yX0_rowAt wsX0_rowAt) := goodIn_app (goodIn_of _ (by decide +kernel)) ggX0_mostKept_X0_rowAt
set_option maxRecDepth 20000 in
theorem ggX0_mostKept_X0_entryAt : GoodIn wsX0_mostKept wsX0_entryAt := goodIn_r _ [20, 21] (by decide +kernel) (by decide +kernel)
set_option maxRecDepth 20000 in
theorem gX0_mostKept_X0_entryAt : GoodIn wsX0_mostKept (va_wsS RX0 36 yX0_entryAt wsX0_entryAt) := goodIn_app (goodIn_of _ (by decide +kernel)) ggX0_mostKept_X0_entryAt
set_option maxRecDepth 20000 in
theorem ggX0_mostKept_X0_codeOf : GoodIn wsX0_mostKept wsX0_codeOf := goodIn_r _ [24] (by decide +kernel) (by decide +kernel)
set_option maxRecDepth 20000 in
theorem gX0_mostKept_X0_codeOf : GoodIn wsX0_mostKept (va_wsS RX0 50 yX0_codeOf wsX0_codeOf) := goodIn_app (goodIn_of _ (by decide +kernel)) ggX0_mostKept_X0_codeOf
set_option maxRecDepth 20000 in
theorem ggX0_mostKept_X0_formWith : GoodIn wsX0_mostKept wsX0_formWith := goodIn_r _ [27, 18, 19, 3, 20, 21, 28, 29, 30, 31, 32, 33, 34, 35, 36, 37, 38] (by decide +kernel) (by decide +kernel)
set_option maxRecDepth 20000 in
theorem gX0_mostKept_X0_formWith : GoodIn wsX0_mostKept (va_wsS RX0 54 yX0_formWith wsX0_formWith) := goodIn_app (goodIn_of _ (by decide +kernel)) ggX0_mostKept_X0_formWith
set_option maxRecDepth 20000 in
theorem ggX0_mostKept_X0_countKept : GoodIn wsX0_mostKept wsX0_countKept := goodIn_r _ [41, 42, 43, 3, 44, 18, 19, 20, 21, 45, 46, 47, 35, 36, 37, 38, 48, 49, 50, 51, 52, 53, 54, 55, 56, 57] (by decide +kernel) (by decide +kernel)
set_option maxRecDepth 20000 in
theorem gX0_mostKept_X0_countKept : GoodIn wsX0_mostKept (va_wsS RX0 90 yX0_countKept wsX0_countKept) := goodIn_app (goodIn_of _ (by decide +kernel)) ggX0_mostKept_X0_countKept
set_option maxRecDepth 20000 in
theorem ggX0_cuts_X0_requireRange : GoodIn wsX0_cuts wsX0_requireRange := goodIn_ca (goodIn_r _ [6, 7, 8] (by decide +kernel) (by decide +kernel)) (goodIn_sub (fun _ h => List.mem_cons_of_mem _ (List.mem_append_right _ h)) (by decide +kernel))
set_option maxRecDepth 20000 in
theorem gX0_cuts_X0_requireRange : GoodIn wsX0_cuts (va_wsS RX0 28 yX0_requireRange wsX0_requireRange) := goodIn_app (goodIn_of _ (by decide +kernel)) ggX0_cuts_X0_requireRange
set_option maxRecDepth 20000 in
theorem ggX0_cuts_X0_formWith : GoodIn wsX0_cuts wsX0_formWith := goodIn_r _ [11, 12, 13, 5, 14, 15, 16, 17, 18, 19, 20, 21, 22, 23, 24, 25, 26] (by decide +kernel) (by decide +kernel)
set_option maxRecDepth 20000 in
theorem gX0_cuts_X0_formWith : GoodIn wsX0_cuts (va_wsS RX0 54 yX0_formWith wsX0_formWith) := goodIn_app (goodIn_of _ (by decide +kernel)) ggX0_cuts_X0_formWith
set_option maxRecDepth 20000 in
theorem ggX0_cuts_X0_setOf : GoodIn wsX0_cuts wsX0_setOf := goodIn_r _ [29, 12, 13, 5, 14, 15] (by decide +kernel) (by decide +kernel)
set_option maxRecDepth 20000 in
theorem gX0_cuts_X0_setOf : GoodIn wsX0_cuts (va_wsS RX0 77 yX0_setOf wsX0_setOf) := goodIn_app (goodIn_of _ (by decide +kernel)) ggX0_cuts_X0_setOf
set_option maxRecDepth 20000 in
theorem ggX0_write_X0_requireRange : GoodIn wsX0_write wsX0_requireRange := goodIn_ca (goodIn_r _ [8, 9, 10] (by decide +kernel) (by decide +kernel)) (goodIn_sub (fun _ h => List.mem_cons_of_mem _ (List.mem_append_right _ h)) (by decide +kernel))
set_option maxRecDepth 20000 in
theorem gX0_write_X0_requireRange : GoodIn wsX0_write (va_wsS RX0 28 yX0_requireRange wsX0_requireRange) := goodIn_app (goodIn_of _ (by decide +kernel)) ggX0_write_X0_requireRange
set_option maxRecDepth 20000 in
theorem ggX0_write_X0_phraseHas : GoodIn wsX0_write wsX0_phraseHas := goodIn_r _ [14, 3, 4, 15, 16, 7, 17, 18, 19, 20, 21, 26, 27, 28, 29] (by decide +kernel) (by decide +kernel)
set_option maxRecDepth 20000 in
theorem gX0_write_X0_phraseHas : GoodIn wsX0_write (wsV RX0 103 RX0 yX0_phraseHas wsX0_phraseHas) := goodIn_app (goodIn_of _ (by decide +kernel)) ggX0_write_X0_phraseHas
set_option maxRecDepth 20000 in
theorem ggX0_write_X0_withEntry : GoodIn wsX0_write wsX0_withEntry := goodIn_r _ [24, 21, 25] (by decide +kernel) (by decide +kernel)
set_option maxRecDepth 20000 in
theorem gX0_write_X0_withEntry : GoodIn wsX0_write (va_wsS RX0 9 yX0_withEntry wsX0_withEntry) := goodIn_app (goodIn_of _ (by decide +kernel)) ggX0_write_X0_withEntry
set_option maxRecDepth 20000 in
theorem ggX0_formsWithPhrase_X0_requireRow : GoodIn wsX0_formsWithPhrase wsX0_requireRow := goodIn_ca (goodIn_r _ [6, 7, 8] (by decide +kernel) (by decide +kernel)) (goodIn_sub (fun _ h => List.mem_cons_of_mem _ (List.mem_append_right _ h)) (by decide +kernel))
set_option maxRecDepth 20000 in
theorem gX0_formsWithPhrase_X0_requireRow : GoodIn wsX0_formsWithPhrase (va_wsS RX0 20 yX0_requireRow wsX0_requireRow) := goodIn_app (goodIn_of _ (by decide +kernel)) ggX0_formsWithPhrase_X0_requireRow
set_option maxRecDepth 20000 in
theorem ggX0_formsWithPhrase_X0_rowAt : GoodIn wsX0_formsWithPhrase wsX0_rowAt := goodIn_r _ [12, 13, 14, 41, 42, 43, 44] (by decide +kernel) (by decide +kernel)
set_option maxRecDepth 20000 in
theorem gX0_formsWithPhrase_X0_rowAt : GoodIn wsX0_formsWithPhrase (wsV RX0 32 RX0 yX0_rowAt wsX0_rowAt) := goodIn_app (goodIn_of _ (by decide +kernel)) ggX0_formsWithPhrase_X0_rowAt
set_option maxRecDepth 20000 in
theorem ggX0_formsWithPhrase_X0_formWith : GoodIn wsX0_formsWithPhrase wsX0_formWith := goodIn_r _ [17, 18, 19, 5, 20, 21, 22, 23, 24, 25, 26, 27, 28, 29, 30, 31, 32] (by decide +kernel) (by decide +kernel)
set_option maxRecDepth 20000 in
theorem gX0_formsWithPhrase_X0_formWith : GoodIn wsX0_formsWithPhrase (va_wsS RX0 54 yX0_formWith wsX0_formWith) := goodIn_app (goodIn_of _ (by decide +kernel)) ggX0_formsWithPhrase_X0_formWith
set_option maxRecDepth 20000 in
theorem ggX0_formsWithPhrase_X0_phraseBegin : GoodIn wsX0_formsWithPhrase wsX0_phraseBegin := goodIn_r _ [36, 37, 1, 18, 19, 5, 20, 21, 38, 39, 40, 41, 42, 43, 44] (by decide +kernel) (by decide +kernel)
set_option maxRecDepth 20000 in
theorem gX0_formsWithPhrase_X0_phraseBegin : GoodIn wsX0_formsWithPhrase (wsV RX0 123 RX0 yX0_phraseBegin wsX0_phraseBegin) := goodIn_app (goodIn_of _ (by decide +kernel)) ggX0_formsWithPhrase_X0_phraseBegin
set_option maxRecDepth 20000 in
theorem ggX0_placeOfPhrase_X0_requireRow : GoodIn wsX0_placeOfPhrase wsX0_requireRow := goodIn_ca (goodIn_r _ [5, 6, 7] (by decide +kernel) (by decide +kernel)) (goodIn_sub (fun _ h => List.mem_cons_of_mem _ (List.mem_append_left _ (List.mem_append_right _ h))) (by decide +kernel))
set_option maxRecDepth 20000 in
theorem gX0_placeOfPhrase_X0_requireRow : GoodIn wsX0_placeOfPhrase (va_wsS RX0 20 yX0_requireRow wsX0_requireRow) := goodIn_app (goodIn_of _ (by decide +kernel)) ggX0_placeOfPhrase_X0_requireRow
set_option maxRecDepth 20000 in
theorem ggX0_placeOfPhrase_X0_requireRange : GoodIn wsX0_placeOfPhrase wsX0_requireRange := goodIn_ca (goodIn_r _ [10, 11, 12] (by decide +kernel) (by decide +kernel)) (goodIn_sub (fun _ h => List.mem_cons_of_mem _ (List.mem_append_right _ h)) (by decide +kernel))
set_option maxRecDepth 20000 in
theorem gX0_placeOfPhrase_X0_requireRange : GoodIn wsX0_placeOfPhrase (va_wsS RX0 28 yX0_requireRange wsX0_requireRange) := goodIn_app (goodIn_of _ (by decide +kernel)) ggX0_placeOfPhrase_X0_requireRange
set_option maxRecDepth 20000 in
theorem ggX0_placeOfPhrase_X0_rowAt : GoodIn wsX0_placeOfPhrase wsX0_rowAt := goodIn_r _ [16, 17, 18, 45, 46, 47, 48] (by decide +kernel) (by decide +kernel)
set_option maxRecDepth 20000 in
theorem gX0_placeOfPhrase_X0_rowAt : GoodIn wsX0_placeOfPhrase (wsV RX0 32 RX0 yX0_rowAt wsX0_rowAt) := goodIn_app (goodIn_of _ (by decide +kernel)) ggX0_placeOfPhrase_X0_rowAt
set_option maxRecDepth 20000 in
theorem ggX0_placeOfPhrase_X0_formWith : GoodIn wsX0_placeOfPhrase wsX0_formWith := goodIn_r _ [21, 22, 23, 4, 24, 25, 26, 27, 28, 29, 30, 31, 32, 33, 34, 35, 36] (by decide +kernel) (by decide +kernel)
set_option maxRecDepth 20000 in
theorem gX0_placeOfPhrase_X0_formWith : GoodIn wsX0_placeOfPhrase (va_wsS RX0 54 yX0_formWith wsX0_formWith) := goodIn_app (goodIn_of _ (by decide +kernel)) ggX0_placeOfPhrase_X0_formWith
set_option maxRecDepth 20000 in
theorem ggX0_placeOfPhrase_X0_phraseBegin : GoodIn wsX0_placeOfPhrase wsX0_phraseBegin := goodIn_r _ [40, 41, 1, 22, 23, 4, 24, 25, 42, 43, 44, 45, 46, 47, 48] (by decide +kernel) (by decide +kernel)
set_option maxRecDepth 20000 in
theorem gX0_placeOfPhrase_X0_phraseBegin : GoodIn wsX0_placeOfPhrase (wsV RX0 123 RX0 yX0_phraseBegin wsX0_phraseBegin) := goodIn_app (goodIn_of _ (by decide +kernel)) ggX0_placeOfPhrase_X0_phraseBegin
set_option maxRecDepth 20000 in
theorem ggX0_complete_X0_requireRow : GoodIn wsX0_complete wsX0_requireRow := goodIn_ca (goodIn_r _ [6, 7, 8] (by decide +kernel) (by decide +kernel)) (goodIn_sub (fun _ h => List.mem_cons_of_mem _ (List.mem_append_right _ h)) (by decide +kernel))
set_option maxRecDepth 20000 in
theorem gX0_complete_X0_requireRow : GoodIn wsX0_complete (va_wsS RX0 20 yX0_requireRow wsX0_requireRow) := goodIn_app (goodIn_of _ (by decide +kernel)) ggX0_complete_X0_requireRow
set_option maxRecDepth 20000 in
theorem ggX0_complete_X0_rowAt : GoodIn wsX0_complete wsX0_rowAt := goodIn_r _ [12, 13, 14, 38, 39, 40, 41] (by decide +kernel) (by decide +kernel)
set_option maxRecDepth 20000 in
theorem gX0_complete_X0_rowAt : GoodIn wsX0_complete (wsV RX0 32 RX0 yX0_rowAt wsX0_rowAt) := goodIn_app (goodIn_of _ (by decide +kernel)) ggX0_complete_X0_rowAt
set_option maxRecDepth 20000 in
theorem ggX0_complete_X0_entryAt : GoodIn wsX0_complete wsX0_entryAt := goodIn_r _ [17, 18] (by decide +kernel) (by decide +kernel)
set_option maxRecDepth 20000 in
theorem gX0_complete_X0_entryAt : GoodIn wsX0_complete (va_wsS RX0 36 yX0_entryAt wsX0_entryAt) := goodIn_app (goodIn_of _ (by decide +kernel)) ggX0_complete_X0_entryAt
set_option maxRecDepth 20000 in
theorem ggX0_complete_X0_phraseHas : GoodIn wsX0_complete wsX0_phraseHas := goodIn_r _ [22, 1, 2, 23, 24, 5, 25, 15, 16, 17, 18, 38, 39, 40, 41] (by decide +kernel) (by decide +kernel)
set_option maxRecDepth 20000 in
theorem gX0_complete_X0_phraseHas : GoodIn wsX0_complete (wsV RX0 103 RX0 yX0_phraseHas wsX0_phraseHas) := goodIn_app (goodIn_of _ (by decide +kernel)) ggX0_complete_X0_phraseHas
set_option maxRecDepth 20000 in
theorem ggX0_complete_X0_withEntry : GoodIn wsX0_complete wsX0_withEntry := goodIn_r _ [28, 18, 29] (by decide +kernel) (by decide +kernel)
set_option maxRecDepth 20000 in
theorem gX0_complete_X0_withEntry : GoodIn wsX0_complete (va_wsS RX0 9 yX0_withEntry wsX0_withEntry) := goodIn_app (goodIn_of _ (by decide +kernel)) ggX0_complete_X0_withEntry
set_option maxRecDepth 20000 in
theorem ggX0_complete_X0_replaceRow : GoodIn wsX0_complete wsX0_replaceRow := goodIn_r _ [33, 34, 35, 36, 5, 37, 13, 14, 15, 16, 17, 18, 38, 39, 40, 41] (by decide +kernel) (by decide +kernel)
set_option maxRecDepth 20000 in
theorem gX0_complete_X0_replaceRow : GoodIn wsX0_complete (wsV RX0 58 RX0 yX0_replaceRow wsX0_replaceRow) := goodIn_app (goodIn_of _ (by decide +kernel)) ggX0_complete_X0_replaceRow
set_option maxRecDepth 20000 in
theorem ggX0_requireForm_X0_requireRange : GoodIn wsX0_requireForm wsX0_requireRange := goodIn_ca (goodIn_r _ [4, 5, 6] (by decide +kernel) (by decide +kernel)) (goodIn_sub (fun _ h => List.mem_cons_of_mem _ (List.mem_append_right _ h)) (by decide +kernel))
set_option maxRecDepth 20000 in
theorem gX0_requireForm_X0_requireRange : GoodIn wsX0_requireForm (va_wsS RX0 28 yX0_requireRange wsX0_requireRange) := goodIn_app (goodIn_of _ (by decide +kernel)) ggX0_requireForm_X0_requireRange
set_option maxRecDepth 20000 in
theorem ggX0_replaceRow_X0_setRow : GoodIn wsX0_replaceRow wsX0_setRow := goodIn_r _ [5, 6, 7, 12, 13, 14, 15] (by decide +kernel) (by decide +kernel)
set_option maxRecDepth 20000 in
theorem gX0_replaceRow_X0_setRow : GoodIn wsX0_replaceRow (wsV RX0 43 RX0 yX0_setRow wsX0_setRow) := goodIn_app (goodIn_of _ (by decide +kernel)) ggX0_replaceRow_X0_setRow
set_option maxRecDepth 20000 in
theorem ggX0_replaceRow_X0_entryAt : GoodIn wsX0_replaceRow wsX0_entryAt := goodIn_r _ [10, 11] (by decide +kernel) (by decide +kernel)
set_option maxRecDepth 20000 in
theorem gX0_replaceRow_X0_entryAt : GoodIn wsX0_replaceRow (va_wsS RX0 36 yX0_entryAt wsX0_entryAt) := goodIn_app (goodIn_of _ (by decide +kernel)) ggX0_replaceRow_X0_entryAt
set_option maxRecDepth 20000 in
theorem ggX0_phraseHas_X0_setOf : GoodIn wsX0_phraseHas wsX0_setOf := goodIn_r _ [6, 7, 8, 5, 9, 10] (by decide +kernel) (by decide +kernel)
set_option maxRecDepth 20000 in
theorem gX0_phraseHas_X0_setOf : GoodIn wsX0_phraseHas (va_wsS RX0 77 yX0_setOf wsX0_setOf) := goodIn_app (goodIn_of _ (by decide +kernel)) ggX0_phraseHas_X0_setOf
set_option maxRecDepth 20000 in
theorem ggX0_phraseBegin_X0_entryAt : GoodIn wsX0_phraseBegin wsX0_entryAt := goodIn_r _ [6, 7] (by decide +kernel) (by decide +kernel)
set_option maxRecDepth 20000 in
theorem gX0_phraseBegin_X0_entryAt : GoodIn wsX0_phraseBegin (va_wsS RX0 36 yX0_entryAt wsX0_entryAt) := goodIn_app (goodIn_of _ (by decide +kernel)) ggX0_phraseBegin_X0_entryAt
set_option maxRecDepth 20000 in
theorem ggX0_phraseBegin_X0_placeIn : GoodIn wsX0_phraseBegin wsX0_placeIn := goodIn_r _ [10, 3, 4, 5, 6, 7] (by decide +kernel) (by decide +kernel)
set_option maxRecDepth 20000 in
theorem gX0_phraseBegin_X0_placeIn : GoodIn wsX0_phraseBegin (va_wsS RX0 40 yX0_placeIn wsX0_placeIn) := goodIn_app (goodIn_of _ (by decide +kernel)) ggX0_phraseBegin_X0_placeIn
set_option maxRecDepth 20000 in
theorem ggX0_wrap_J9_floorMod_7cf53 : GoodIn wsX0_wrap wsJ9_floorMod_7cf53 := goodIn_r _ [4] (by decide +kernel) (by decide +kernel)
set_option maxRecDepth 20000 in
theorem gX0_wrap_J9_floorMod_7cf53 : GoodIn wsX0_wrap (va_wsS RX0 147 yJ9_floorMod_7cf53 wsJ9_floorMod_7cf53) := goodIn_app (goodIn_of _ (by decide +kernel)) ggX0_wrap_J9_floorMod_7cf53
set_option maxRecDepth 20000 in
theorem ggX0_intervalAt_X0_entryAt : GoodIn wsX0_intervalAt wsX0_entryAt := goodIn_r _ [4, 5] (by decide +kernel) (by decide +kernel)
set_option maxRecDepth 20000 in
theorem gX0_intervalAt_X0_entryAt : GoodIn wsX0_intervalAt (va_wsS RX0 36 yX0_entryAt wsX0_entryAt) := goodIn_app (goodIn_of _ (by decide +kernel)) ggX0_intervalAt_X0_entryAt
set_option maxRecDepth 20000 in
theorem ggX0_intervalAt_X0_wrap : GoodIn wsX0_intervalAt wsX0_wrap := goodIn_r _ [8, 9, 10, 11, 12] (by decide +kernel) (by decide +kernel)
set_option maxRecDepth 20000 in
theorem gX0_intervalAt_X0_wrap : GoodIn wsX0_intervalAt (va_wsS RX0 65 yX0_wrap wsX0_wrap) := goodIn_app (goodIn_of _ (by decide +kernel)) ggX0_intervalAt_X0_wrap
set_option maxRecDepth 20000 in
theorem ggX0_placeIn_X0_entryAt : GoodIn wsX0_placeIn wsX0_entryAt := goodIn_r _ [4, 5] (by decide +kernel) (by decide +kernel)
set_option maxRecDepth 20000 in
theorem gX0_placeIn_X0_entryAt : GoodIn wsX0_placeIn (va_wsS RX0 36 yX0_entryAt wsX0_entryAt) := goodIn_app (goodIn_of _ (by decide +kernel)) ggX0_placeIn_X0_entryAt
set_option maxRecDepth 20000 in
theorem ggX0_formWith_X0_entryAt : GoodIn wsX0_formWith wsX0_entryAt := goodIn_r _ [4, 5] (by decide +kernel) (by decide +kernel)
set_option maxRecDepth 20000 in
theorem gX0_formWith_X0_entryAt : GoodIn wsX0_formWith (va_wsS RX0 36 yX0_entryAt wsX0_entryAt) := goodIn_app (goodIn_of _ (by decide +kernel)) ggX0_formWith_X0_entryAt
set_option maxRecDepth 20000 in
theorem ggX0_formWith_X0_wrap : GoodIn wsX0_formWith wsX0_wrap := goodIn_r _ [8, 9, 10, 11, 12] (by decide +kernel) (by decide +kernel)
set_option maxRecDepth 20000 in
theorem gX0_formWith_X0_wrap : GoodIn wsX0_formWith (va_wsS RX0 65 yX0_wrap wsX0_wrap) := goodIn_app (goodIn_of _ (by decide +kernel)) ggX0_formWith_X0_wrap
set_option maxRecDepth 20000 in
theorem ggX0_formWith_X0_withEntry : GoodIn wsX0_formWith wsX0_withEntry := goodIn_r _ [15, 5, 16] (by decide +kernel) (by decide +kernel)
set_option maxRecDepth 20000 in
theorem gX0_formWith_X0_withEntry : GoodIn wsX0_formWith (va_wsS RX0 9 yX0_withEntry wsX0_withEntry) := goodIn_app (goodIn_of _ (by decide +kernel)) ggX0_formWith_X0_withEntry
set_option maxRecDepth 20000 in
theorem ggX0_setOf_X0_entryAt : GoodIn wsX0_setOf wsX0_entryAt := goodIn_r _ [4, 5] (by decide +kernel) (by decide +kernel)
set_option maxRecDepth 20000 in
theorem gX0_setOf_X0_entryAt : GoodIn wsX0_setOf (va_wsS RX0 36 yX0_entryAt wsX0_entryAt) := goodIn_app (goodIn_of _ (by decide +kernel)) ggX0_setOf_X0_entryAt
set_option maxRecDepth 20000 in
theorem ggX0_inverted_X0_wrap : GoodIn wsX0_inverted wsX0_wrap := goodIn_r _ [4, 5, 6, 7, 8] (by decide +kernel) (by decide +kernel)
set_option maxRecDepth 20000 in
theorem gX0_inverted_X0_wrap : GoodIn wsX0_inverted (va_wsS RX0 65 yX0_wrap wsX0_wrap) := goodIn_app (goodIn_of _ (by decide +kernel)) ggX0_inverted_X0_wrap
set_option maxRecDepth 20000 in
theorem ggX0_leastLike_X0_inverted : GoodIn wsX0_leastLike wsX0_inverted := goodIn_r _ [8, 9, 10, 7, 11, 12, 13, 14, 15] (by decide +kernel) (by decide +kernel)
set_option maxRecDepth 20000 in
theorem gX0_leastLike_X0_inverted : GoodIn wsX0_leastLike (va_wsS RX0 150 yX0_inverted wsX0_inverted) := goodIn_app (goodIn_of _ (by decide +kernel)) ggX0_leastLike_X0_inverted
set_option maxRecDepth 20000 in
theorem ggX0_leastLike_X0_transposed : GoodIn wsX0_leastLike wsX0_transposed := goodIn_r _ [18] (by decide +kernel) (by decide +kernel)
set_option maxRecDepth 20000 in
theorem gX0_leastLike_X0_transposed : GoodIn wsX0_leastLike (va_wsS RX0 84 yX0_transposed wsX0_transposed) := goodIn_app (goodIn_of _ (by decide +kernel)) ggX0_leastLike_X0_transposed
set_option maxRecDepth 20000 in
theorem ggX0_placesOf_X0_entryAt : GoodIn wsX0_placesOf wsX0_entryAt := goodIn_r _ [4, 5] (by decide +kernel) (by decide +kernel)
set_option maxRecDepth 20000 in
theorem gX0_placesOf_X0_entryAt : GoodIn wsX0_placesOf (va_wsS RX0 36 yX0_entryAt wsX0_entryAt) := goodIn_app (goodIn_of _ (by decide +kernel)) ggX0_placesOf_X0_entryAt
set_option maxRecDepth 20000 in
theorem ggX0_placesOf_X0_placeIn : GoodIn wsX0_placesOf wsX0_placeIn := goodIn_r _ [8, 1, 2, 3, 4, 5] (by decide +kernel) (by decide +kernel)
set_option maxRecDepth 20000 in
theorem gX0_placesOf_X0_placeIn : GoodIn wsX0_placesOf (va_wsS RX0 40 yX0_placeIn wsX0_placeIn) := goodIn_app (goodIn_of _ (by decide +kernel)) ggX0_placesOf_X0_placeIn
set_option maxRecDepth 20000 in
theorem ggX0_placesOf_X0_withEntry : GoodIn wsX0_placesOf wsX0_withEntry := goodIn_r _ [11, 5, 12] (by decide +kernel) (by decide +kernel)
set_option maxRecDepth 20000 in
theorem gX0_placesOf_X0_withEntry : GoodIn wsX0_placesOf (va_wsS RX0 9 yX0_withEntry wsX0_withEntry) := goodIn_app (goodIn_of _ (by decide +kernel)) ggX0_placesOf_X0_withEntry
set_option maxRecDepth 20000 in
theorem ggX0_countKept_X0_placesOf : GoodIn wsX0_countKept wsX0_placesOf := goodIn_r _ [4, 5, 6, 3, 7, 8, 9, 10, 11, 12, 13, 14, 15] (by decide +kernel) (by decide +kernel)
set_option maxRecDepth 20000 in
theorem gX0_countKept_X0_placesOf : GoodIn wsX0_countKept (va_wsS RX0 94 yX0_placesOf wsX0_placesOf) := goodIn_app (goodIn_of _ (by decide +kernel)) ggX0_countKept_X0_placesOf
set_option maxRecDepth 20000 in
theorem ggX0_countKept_X0_areNeighbours : GoodIn wsX0_countKept wsX0_areNeighbours := goodIn_r _ [18, 19, 20, 21, 22, 23, 24, 25, 5, 6, 3, 7, 8] (by decide +kernel) (by decide +kernel)
set_option maxRecDepth 20000 in
theorem gX0_countKept_X0_areNeighbours : GoodIn wsX0_countKept (va_wsS RX0 156 yX0_areNeighbours wsX0_areNeighbours) := goodIn_app (goodIn_of _ (by decide +kernel)) ggX0_countKept_X0_areNeighbours
set_option maxRecDepth 20000 in
theorem ggX0_areNeighbours_X0_entryAt : GoodIn wsX0_areNeighbours wsX0_entryAt := goodIn_r _ [11, 12] (by decide +kernel) (by decide +kernel)
set_option maxRecDepth 20000 in
theorem gX0_areNeighbours_X0_entryAt : GoodIn wsX0_areNeighbours (va_wsS RX0 36 yX0_entryAt wsX0_entryAt) := goodIn_app (goodIn_of _ (by decide +kernel)) ggX0_areNeighbours_X0_entryAt
end
section
/-! ===== ints by Int ===== -/
def iI (z : Int) : Int32 := Int32.ofInt z
abbrev inI (z : Int) : Prop := -2147483648 ≤ z ∧ z ≤ 2147483647
theorem iI_add (a b : Int) : iI a + iI b = iI (a + b) := (Int32.ofInt_add a b).symm
theorem iI_sub (a b : Int) : iI a - iI b = iI (a - b) := (Int32.ofInt_sub a b).symm
theorem iI_mul (a b : Int) : iI a * iI b = iI (a * b) := (Int32.ofInt_mul a b).symm
theorem iI_neg (a : Int) : -iI a = iI (-a) := (Int32.ofInt_neg a).symm
theorem iI_toInt {z : Int} (h : inI z) : (iI z).toInt = z := Int32.toInt_ofInt_of_le (by have := h.1; omega) (by have := h.2; omega)
theorem iI_of (x : Int32) : iI x.toInt = x := Int32.ofInt_toInt x
theorem i32_max : Int32.maxValue.toInt = 2147483647 := by decide
theorem i32_min : Int32.minValue.toInt = -2147483648 := by decide
theorem iI_in (x : Int32) : inI x.toInt := ⟨by have := x.minValue_le_toInt; rw [i32_min] at this; exact this, by have := x.toInt_le; rw [i32_max] at this; exact this⟩
theorem iI_eq {a b : Int} (ha : inI a) (hb : inI b) : iI a = iI b ↔ a = b := ⟨fun h => by rw [← iI_toInt ha, ← iI_toInt hb, h], fun h => by rw [h]⟩
theorem iI_lt {a b : Int} (ha : inI a) (hb : inI b) : iI a < iI b ↔ a < b := by rw [Int32.lt_iff_toInt_lt, iI_toInt ha, iI_toInt hb]
theorem iI_le {a b : Int} (ha : inI a) (hb : inI b) : iI a ≤ iI b ↔ a ≤ b := by rw [Int32.le_iff_toInt_le, iI_toInt ha, iI_toInt hb]
theorem iI_nat (n : Nat) : iI (n : Int) = nI n := Int32.ofInt_eq_ofNat
theorem iI_cl {n : Nat} (h : n < 2147483648) : (iI (n : Int)).toNatClampNeg = n := by rw [iI_nat]; exact nI_clamp (by omega)
theorem iI_vp {i n : Nat} (h : i < n) (hn : n < 2147483648) : vp_in (iI (i : Int)) n := by rw [iI_nat]; exact vp_in_nI h (by omega)
theorem inI0 : inI 0 := ⟨by decide, by decide⟩
theorem iI_0 : iI 0 = 0 := by decide
theorem iI_inc {a n z : Int} (h : a + n = z) : iI a + Int32.ofInt n = iI z := by rw [← h]; exact iI_add a n
theorem iI_div {a b z : Int} (ha : 0 ≤ a) (ha2 : a ≤ 2147483647) (hb : 0 < b) (hb2 : b ≤ 2147483647) (h : a / b = z) : iI a / iI b = iI z := by
  obtain ⟨n, rfl⟩ := Int.eq_ofNat_of_zero_le ha
  obtain ⟨d, rfl⟩ := Int.eq_ofNat_of_zero_le (Int.le_of_lt hb)
  subst h
  rw [iI_nat, iI_nat, pk_div (by omega) (by omega) (by omega), ← iI_nat]
  rfl
theorem iI_rem {a b z : Int} (ha : 0 ≤ a) (ha2 : a ≤ 2147483647) (hb : 0 < b) (hb2 : b ≤ 2147483647) (h : a % b = z) : iI a - iI a / iI b * iI b = iI z := by
  obtain ⟨n, rfl⟩ := Int.eq_ofNat_of_zero_le ha
  obtain ⟨d, rfl⟩ := Int.eq_ofNat_of_zero_le (Int.le_of_lt hb)
  subst h
  rw [iI_nat, iI_nat, pk_rem (by omega) (by omega) (by omega), ← iI_nat]
  rfl
theorem iI_tdiv {a b : Int} (ha : inI a) (hb : inI b) (hb1 : 0 < b) : iI a / iI b = iI (a.tdiv b) := by
  refine (Int32.ofInt_tdiv ?_ ?_ ?_ ?_).symm
  · rw [i32_min]; exact ha.1
  · rw [i32_max]; exact ha.2
  · rw [i32_min]; exact hb.1
  · rw [i32_max]; exact hb.2
/-- a truth as an int -/
def bI (P : Prop) [Decidable P] : Int := if P then 1 else 0
theorem bI_t {P : Prop} [Decidable P] (h : P) : bI P = 1 := if_pos h
theorem bI_f {P : Prop} [Decidable P] (h : ¬ P) : bI P = 0 := if_neg h
theorem bI_in (P : Prop) [Decidable P] : inI (bI P) := by unfold bI; split <;> exact ⟨by decide, by decide⟩
theorem bI_eq {P Q : Prop} [Decidable P] [Decidable Q] (h : P ↔ Q) : bI P = bI Q := by unfold bI; by_cases hq : Q <;> simp [hq, h]
theorem bI_0 {P : Prop} [Decidable P] : iI (bI P) = 0 ↔ ¬ P := by unfold bI; by_cases h : P <;> simp [h] <;> decide
theorem bI_nar (P : Prop) [Decidable P] : narrow .boolean (.int (iI (bI P))) = .int (iI (bI P)) := by unfold bI; by_cases h : P <;> simp only [h, if_true, if_false] <;> rfl

/-! ===== rows by Int ===== -/
section IB
variable {p : Program} {l : Launch} {e : Env} {R : Room} {s : State} {m : MethodId} {args : Array Value} {below : List Frame} {meth : Method} {c : Code} {H : Heap} {locs : List Loc} {cells slots : Nat} {Q : State → Prop}
variable {cc : ByteArray} {pc : Nat} {ls : Array Slot} {rest : List Value}

theorem st_i {x y : Int32} (h : x = y) (k : W p l e R s m args below meth c H locs cells slots Q (F0 m pc ls (.int y :: rest))) : W p l e R s m args below meth c H locs cells slots Q (F0 m pc ls (.int x :: rest)) := h ▸ k
theorem st_l {x y : Int64} (h : x = y) (k : W p l e R s m args below meth c H locs cells slots Q (F0 m pc ls (.long y :: rest))) : W p l e R s m args below meth c H locs cells slots Q (F0 m pc ls (.long x :: rest)) := h ▸ k
theorem ib_const {n : Int} (hexec : p.tables.exec = Jvm.exec) (hb : c.code = cc) (hdg : decode cc pc = .ok (.iconst n, 1)) (k : W p l e R s m args below meth c H locs cells slots Q (F0 m (pc + 1) ls (.int (iI n) :: rest))) : W p l e R s m args below meth c H locs cells slots Q (F0 m pc ls rest) := lv_iconst hexec hb hdg rfl k
theorem ib_bi {n : Int} (hexec : p.tables.exec = Jvm.exec) (hb : c.code = cc) (hdg : decode cc pc = .ok (.bipush n, 2)) (hv : (Int8.ofInt n).toInt32 = iI n) (k : W p l e R s m args below meth c H locs cells slots Q (F0 m (pc + 2) ls (.int (iI n) :: rest))) : W p l e R s m args below meth c H locs cells slots Q (F0 m pc ls rest) := lv_bipush hexec hb hdg hv k
theorem ib_si {n : Int} (hexec : p.tables.exec = Jvm.exec) (hb : c.code = cc) (hdg : decode cc pc = .ok (.sipush n, 3)) (hv : (Int16.ofInt n).toInt32 = iI n) (k : W p l e R s m args below meth c H locs cells slots Q (F0 m (pc + 3) ls (.int (iI n) :: rest))) : W p l e R s m args below meth c H locs cells slots Q (F0 m pc ls rest) := lv_sipush hexec hb hdg hv k
theorem ib_add {a b z : Int} (hexec : p.tables.exec = Jvm.exec) (hb : c.code = cc) (hdg : decode cc pc = .ok (.iadd, 1)) (h : a + b = z) (k : W p l e R s m args below meth c H locs cells slots Q (F0 m (pc + 1) ls (.int (iI z) :: rest))) : W p l e R s m args below meth c H locs cells slots Q (F0 m pc ls (.int (iI b) :: .int (iI a) :: rest)) := lv_iadd hexec hb hdg (st_i (by rw [iI_add, h]) k)
theorem ib_sub {a b z : Int} (hexec : p.tables.exec = Jvm.exec) (hb : c.code = cc) (hdg : decode cc pc = .ok (.isub, 1)) (h : a - b = z) (k : W p l e R s m args below meth c H locs cells slots Q (F0 m (pc + 1) ls (.int (iI z) :: rest))) : W p l e R s m args below meth c H locs cells slots Q (F0 m pc ls (.int (iI b) :: .int (iI a) :: rest)) := lv_isub hexec hb hdg (st_i (by rw [iI_sub, h]) k)
theorem ib_mul {a b z : Int} (hexec : p.tables.exec = Jvm.exec) (hb : c.code = cc) (hdg : decode cc pc = .ok (.imul, 1)) (h : a * b = z) (k : W p l e R s m args below meth c H locs cells slots Q (F0 m (pc + 1) ls (.int (iI z) :: rest))) : W p l e R s m args below meth c H locs cells slots Q (F0 m pc ls (.int (iI b) :: .int (iI a) :: rest)) := lv_imul hexec hb hdg (st_i (by rw [iI_mul, h]) k)
theorem ib_neg {a z : Int} (hexec : p.tables.exec = Jvm.exec) (hb : c.code = cc) (hdg : decode cc pc = .ok (.ineg, 1)) (h : -a = z) (k : W p l e R s m args below meth c H locs cells slots Q (F0 m (pc + 1) ls (.int (iI z) :: rest))) : W p l e R s m args below meth c H locs cells slots Q (F0 m pc ls (.int (iI a) :: rest)) := lv_ineg hexec hb hdg (st_i (by rw [iI_neg, h]) k)
theorem ib_ne0 {b : Int} (h1 : 0 < b) (h2 : b ≤ 2147483647) : ¬ iI b = 0 := fun h => by
  have := (iI_eq (b := 0) ⟨by omega, h2⟩ inI0).mp (by rw [h]; exact iI_0.symm)
  omega
theorem ib_div {a b z : Int} (hexec : p.tables.exec = Jvm.exec) (hb : c.code = cc) (hdg : decode cc pc = .ok (.idiv, 1)) (ha : 0 ≤ a) (ha2 : a ≤ 2147483647) (hb1 : 0 < b) (hb2 : b ≤ 2147483647) (h : a / b = z) (k : W p l e R s m args below meth c H locs cells slots Q (F0 m (pc + 1) ls (.int (iI z) :: rest))) : W p l e R s m args below meth c H locs cells slots Q (F0 m pc ls (.int (iI b) :: .int (iI a) :: rest)) := lv_idiv hexec hb hdg (ib_ne0 hb1 hb2) (st_i (iI_div ha ha2 hb1 hb2 h) k)
theorem ib_rem {a b z : Int} (hexec : p.tables.exec = Jvm.exec) (hb : c.code = cc) (hdg : decode cc pc = .ok (.irem, 1)) (ha : 0 ≤ a) (ha2 : a ≤ 2147483647) (hb1 : 0 < b) (hb2 : b ≤ 2147483647) (h : a % b = z) (k : W p l e R s m args below meth c H locs cells slots Q (F0 m (pc + 1) ls (.int (iI z) :: rest))) : W p l e R s m args below meth c H locs cells slots Q (F0 m pc ls (.int (iI b) :: .int (iI a) :: rest)) := lv_irem hexec hb hdg (ib_ne0 hb1 hb2) (st_i (iI_rem ha ha2 hb1 hb2 h) k)
theorem ib_remt {a b z : Int} (hexec : p.tables.exec = Jvm.exec) (hb : c.code = cc) (hdg : decode cc pc = .ok (.irem, 1)) (ha : inI a) (hb1 : 0 < b) (hb2 : b ≤ 2147483647) (h : a - a.tdiv b * b = z) (k : W p l e R s m args below meth c H locs cells slots Q (F0 m (pc + 1) ls (.int (iI z) :: rest))) : W p l e R s m args below meth c H locs cells slots Q (F0 m pc ls (.int (iI b) :: .int (iI a) :: rest)) := lv_irem hexec hb hdg (ib_ne0 hb1 hb2) (st_i (by rw [iI_tdiv ha ⟨by omega, hb2⟩ hb1, iI_mul, iI_sub, h]) k)
theorem ib_icmp_eq {a b : Int} {off : Int} {tgt : Nat} (hexec : p.tables.exec = Jvm.exec) (hb : c.code = cc) (hdg : decode cc pc = .ok (.if_icmp .eq off, 3)) (ht : (pc : Int) + off = (tgt : Int)) (ha : inI a) (hb2 : inI b) (kt : a = b → W p l e R s m args below meth c H locs cells slots Q (F0 m tgt ls rest)) (kf : ¬ a = b → W p l e R s m args below meth c H locs cells slots Q (F0 m (pc + 3) ls rest)) : W p l e R s m args below meth c H locs cells slots Q (F0 m pc ls (.int (iI b) :: .int (iI a) :: rest)) := lv_icmp_eq hexec hb hdg ht (fun h => kt ((iI_eq ha hb2).mp h)) (fun h => kf (fun q => h ((iI_eq ha hb2).mpr q)))
theorem ib_icmp_ne {a b : Int} {off : Int} {tgt : Nat} (hexec : p.tables.exec = Jvm.exec) (hb : c.code = cc) (hdg : decode cc pc = .ok (.if_icmp .ne off, 3)) (ht : (pc : Int) + off = (tgt : Int)) (ha : inI a) (hb2 : inI b) (kt : ¬ a = b → W p l e R s m args below meth c H locs cells slots Q (F0 m tgt ls rest)) (kf : a = b → W p l e R s m args below meth c H locs cells slots Q (F0 m (pc + 3) ls rest)) : W p l e R s m args below meth c H locs cells slots Q (F0 m pc ls (.int (iI b) :: .int (iI a) :: rest)) := lv_icmp_ne hexec hb hdg ht (fun h => kt (fun q => h ((iI_eq ha hb2).mpr q))) (fun h => kf ((iI_eq ha hb2).mp h))
theorem ib_icmp_lt {a b : Int} {off : Int} {tgt : Nat} (hexec : p.tables.exec = Jvm.exec) (hb : c.code = cc) (hdg : decode cc pc = .ok (.if_icmp .lt off, 3)) (ht : (pc : Int) + off = (tgt : Int)) (ha : inI a) (hb2 : inI b) (kt : a < b → W p l e R s m args below meth c H locs cells slots Q (F0 m tgt ls rest)) (kf : b ≤ a → W p l e R s m args below meth c H locs cells slots Q (F0 m (pc + 3) ls rest)) : W p l e R s m args below meth c H locs cells slots Q (F0 m pc ls (.int (iI b) :: .int (iI a) :: rest)) := lv_icmp_lt hexec hb hdg ht (fun h => kt ((iI_lt ha hb2).mp h)) (fun h => kf (Int.not_lt.mp (fun q => h ((iI_lt ha hb2).mpr q))))
theorem ib_icmp_ge {a b : Int} {off : Int} {tgt : Nat} (hexec : p.tables.exec = Jvm.exec) (hb : c.code = cc) (hdg : decode cc pc = .ok (.if_icmp .ge off, 3)) (ht : (pc : Int) + off = (tgt : Int)) (ha : inI a) (hb2 : inI b) (kt : b ≤ a → W p l e R s m args below meth c H locs cells slots Q (F0 m tgt ls rest)) (kf : a < b → W p l e R s m args below meth c H locs cells slots Q (F0 m (pc + 3) ls rest)) : W p l e R s m args below meth c H locs cells slots Q (F0 m pc ls (.int (iI b) :: .int (iI a) :: rest)) := lv_icmp_ge hexec hb hdg ht (fun h => kt ((iI_le hb2 ha).mp h)) (fun h => kf (Int.not_le.mp (fun q => h ((iI_le hb2 ha).mpr q))))
theorem ib_icmp_gt {a b : Int} {off : Int} {tgt : Nat} (hexec : p.tables.exec = Jvm.exec) (hb : c.code = cc) (hdg : decode cc pc = .ok (.if_icmp .gt off, 3)) (ht : (pc : Int) + off = (tgt : Int)) (ha : inI a) (hb2 : inI b) (kt : b < a → W p l e R s m args below meth c H locs cells slots Q (F0 m tgt ls rest)) (kf : a ≤ b → W p l e R s m args below meth c H locs cells slots Q (F0 m (pc + 3) ls rest)) : W p l e R s m args below meth c H locs cells slots Q (F0 m pc ls (.int (iI b) :: .int (iI a) :: rest)) := lv_icmp_gt hexec hb hdg ht (fun h => kt ((iI_lt hb2 ha).mp h)) (fun h => kf (Int.not_lt.mp (fun q => h ((iI_lt hb2 ha).mpr q))))
theorem ib_icmp_le {a b : Int} {off : Int} {tgt : Nat} (hexec : p.tables.exec = Jvm.exec) (hb : c.code = cc) (hdg : decode cc pc = .ok (.if_icmp .le off, 3)) (ht : (pc : Int) + off = (tgt : Int)) (ha : inI a) (hb2 : inI b) (kt : a ≤ b → W p l e R s m args below meth c H locs cells slots Q (F0 m tgt ls rest)) (kf : b < a → W p l e R s m args below meth c H locs cells slots Q (F0 m (pc + 3) ls rest)) : W p l e R s m args below meth c H locs cells slots Q (F0 m pc ls (.int (iI b) :: .int (iI a) :: rest)) := lv_icmp_le hexec hb hdg ht (fun h => kt ((iI_le ha hb2).mp h)) (fun h => kf (Int.not_le.mp (fun q => h ((iI_le ha hb2).mpr q))))
theorem ib_if_eq {a : Int} {off : Int} {tgt : Nat} (hexec : p.tables.exec = Jvm.exec) (hb : c.code = cc) (hdg : decode cc pc = .ok (.ifCond .eq off, 3)) (ht : (pc : Int) + off = (tgt : Int)) (ha : inI a) (kt : a = 0 → W p l e R s m args below meth c H locs cells slots Q (F0 m tgt ls rest)) (kf : ¬ a = 0 → W p l e R s m args below meth c H locs cells slots Q (F0 m (pc + 3) ls rest)) : W p l e R s m args below meth c H locs cells slots Q (F0 m pc ls (.int (iI a) :: rest)) := lv_if_eq hexec hb hdg ht (fun h => kt ((iI_eq ha inI0).mp (by rw [iI_0]; exact h))) (fun h => kf (fun q => h (by have q2 := (iI_eq ha inI0).mpr q; rw [iI_0] at q2; exact q2)))
theorem ib_if_ne {a : Int} {off : Int} {tgt : Nat} (hexec : p.tables.exec = Jvm.exec) (hb : c.code = cc) (hdg : decode cc pc = .ok (.ifCond .ne off, 3)) (ht : (pc : Int) + off = (tgt : Int)) (ha : inI a) (kt : ¬ a = 0 → W p l e R s m args below meth c H locs cells slots Q (F0 m tgt ls rest)) (kf : a = 0 → W p l e R s m args below meth c H locs cells slots Q (F0 m (pc + 3) ls rest)) : W p l e R s m args below meth c H locs cells slots Q (F0 m pc ls (.int (iI a) :: rest)) := lv_if_ne hexec hb hdg ht (fun h => kt (fun q => h (by have q2 := (iI_eq ha inI0).mpr q; rw [iI_0] at q2; exact q2))) (fun h => kf ((iI_eq ha inI0).mp (by rw [iI_0]; exact h)))
theorem ib_if_lt {a : Int} {off : Int} {tgt : Nat} (hexec : p.tables.exec = Jvm.exec) (hb : c.code = cc) (hdg : decode cc pc = .ok (.ifCond .lt off, 3)) (ht : (pc : Int) + off = (tgt : Int)) (ha : inI a) (kt : a < 0 → W p l e R s m args below meth c H locs cells slots Q (F0 m tgt ls rest)) (kf : 0 ≤ a → W p l e R s m args below meth c H locs cells slots Q (F0 m (pc + 3) ls rest)) : W p l e R s m args below meth c H locs cells slots Q (F0 m pc ls (.int (iI a) :: rest)) := lv_if_lt hexec hb hdg ht (fun h => kt ((iI_lt ha inI0).mp (by rw [iI_0]; exact h))) (fun h => kf (Int.not_lt.mp (fun q => h (by have q2 := (iI_lt ha inI0).mpr q; rw [iI_0] at q2; exact q2))))
theorem ib_if_ge {a : Int} {off : Int} {tgt : Nat} (hexec : p.tables.exec = Jvm.exec) (hb : c.code = cc) (hdg : decode cc pc = .ok (.ifCond .ge off, 3)) (ht : (pc : Int) + off = (tgt : Int)) (ha : inI a) (kt : 0 ≤ a → W p l e R s m args below meth c H locs cells slots Q (F0 m tgt ls rest)) (kf : a < 0 → W p l e R s m args below meth c H locs cells slots Q (F0 m (pc + 3) ls rest)) : W p l e R s m args below meth c H locs cells slots Q (F0 m pc ls (.int (iI a) :: rest)) := lv_if_ge hexec hb hdg ht (fun h => kt ((iI_le inI0 ha).mp (by rw [iI_0]; exact h))) (fun h => kf (Int.not_le.mp (fun q => h (by have q2 := (iI_le inI0 ha).mpr q; rw [iI_0] at q2; exact q2))))
theorem ib_if_gt {a : Int} {off : Int} {tgt : Nat} (hexec : p.tables.exec = Jvm.exec) (hb : c.code = cc) (hdg : decode cc pc = .ok (.ifCond .gt off, 3)) (ht : (pc : Int) + off = (tgt : Int)) (ha : inI a) (kt : 0 < a → W p l e R s m args below meth c H locs cells slots Q (F0 m tgt ls rest)) (kf : a ≤ 0 → W p l e R s m args below meth c H locs cells slots Q (F0 m (pc + 3) ls rest)) : W p l e R s m args below meth c H locs cells slots Q (F0 m pc ls (.int (iI a) :: rest)) := lv_if_gt hexec hb hdg ht (fun h => kt ((iI_lt inI0 ha).mp (by rw [iI_0]; exact h))) (fun h => kf (Int.not_lt.mp (fun q => h (by have q2 := (iI_lt inI0 ha).mpr q; rw [iI_0] at q2; exact q2))))
theorem ib_if_le {a : Int} {off : Int} {tgt : Nat} (hexec : p.tables.exec = Jvm.exec) (hb : c.code = cc) (hdg : decode cc pc = .ok (.ifCond .le off, 3)) (ht : (pc : Int) + off = (tgt : Int)) (ha : inI a) (kt : a ≤ 0 → W p l e R s m args below meth c H locs cells slots Q (F0 m tgt ls rest)) (kf : 0 < a → W p l e R s m args below meth c H locs cells slots Q (F0 m (pc + 3) ls rest)) : W p l e R s m args below meth c H locs cells slots Q (F0 m pc ls (.int (iI a) :: rest)) := lv_if_le hexec hb hdg ht (fun h => kt ((iI_le ha inI0).mp (by rw [iI_0]; exact h))) (fun h => kf (Int.not_le.mp (fun q => h (by have q2 := (iI_le ha inI0).mpr q; rw [iI_0] at q2; exact q2))))
theorem bb_eq {P : Prop} [Decidable P] {off : Int} {tgt : Nat} (hexec : p.tables.exec = Jvm.exec) (hb : c.code = cc) (hdg : decode cc pc = .ok (.ifCond .eq off, 3)) (ht : (pc : Int) + off = (tgt : Int)) (kt : ¬ P → W p l e R s m args below meth c H locs cells slots Q (F0 m tgt ls rest)) (kf : P → W p l e R s m args below meth c H locs cells slots Q (F0 m (pc + 3) ls rest)) : W p l e R s m args below meth c H locs cells slots Q (F0 m pc ls (.int (iI (bI P)) :: rest)) := lv_if_eq hexec hb hdg ht (fun h => kt (bI_0.mp h)) (fun h => kf (Decidable.byContradiction fun q => h (bI_0.mpr q)))
theorem bb_ne {P : Prop} [Decidable P] {off : Int} {tgt : Nat} (hexec : p.tables.exec = Jvm.exec) (hb : c.code = cc) (hdg : decode cc pc = .ok (.ifCond .ne off, 3)) (ht : (pc : Int) + off = (tgt : Int)) (kt : P → W p l e R s m args below meth c H locs cells slots Q (F0 m tgt ls rest)) (kf : ¬ P → W p l e R s m args below meth c H locs cells slots Q (F0 m (pc + 3) ls rest)) : W p l e R s m args below meth c H locs cells slots Q (F0 m pc ls (.int (iI (bI P)) :: rest)) := lv_if_ne hexec hb hdg ht (fun h => kt (Decidable.byContradiction fun q => h (bI_0.mpr q))) (fun h => kf (bI_0.mp h))
/-- an int of an array by its place -/
theorem ib_ald {D : va_G} {cl : List vw_C} {tys : List (ClassId × FieldType)} {ws : va_W} {a : Nat} (hexec : p.tables.exec = Jvm.exec) (hb : c.code = cc) (hK : va_K D cl tys s) (hP : va_P D cl ws H) (q0 t0 : Nat) {cA : ClassId} {n : Nat} {f : Nat → Int32} (ha : ws[q0]? = some (a, .inl (cA, n, .inl f))) (ht : tys[t0]? = some (cA, .int)) {i : Nat} {z : Int} {v : Int32} (hz : z = (i : Int)) (hi : i < n) (hn : n < 2147483648) (hv : f i = v) (hdg : decode cc pc = .ok (.iaload, 1))
    (k : W p l e R s m args below meth c H locs cells slots Q (F0 m (pc + 1) ls (.int v :: rest))) : W p l e R s m args below meth c H locs cells slots Q (F0 m pc ls (.int (iI z) :: .ref a :: rest)) := by
  subst hz
  refine va_iald hexec hb hK hP q0 t0 ha ht (iI_vp hi hn) hdg ?_
  rw [iI_cl (by omega), hv]
  exact k
theorem arrV_cg {cA : ClassId} {n : Nat} {f g : Nat → Value} (h : ∀ j, j < n → f j = g j) : arrV cA n f = arrV cA n g := by
  unfold arrV
  have e9 : (fun j : Fin n => f j.val) = (fun j : Fin n => g j.val) := funext fun j => h j.val j.isLt
  rw [e9]
theorem vp_cell_eq {cA : ClassId} {n : Nat} {f g : Nat → Int32} (h : ∀ j, j < n → f j = g j) : vp_cell cA (n, .inl f) = vp_cell cA (n, .inl g) := by
  show arrV cA n (fun j => .int (f j)) = arrV cA n (fun j => .int (g j))
  exact arrV_cg (fun j hj => by rw [h j hj])
theorem va_P_arr {D : va_G} {cl : List vw_C} {ws : va_W} {q0 a n : Nat} {cA : ClassId} {f g : Nat → Int32} (h : ∀ j, j < n → f j = g j) (ha : ws[q0]? = some (a, .inl (cA, n, .inl f))) (hP : va_P D cl ws H) : va_P D cl (ws.set q0 (a, .inl (cA, n, .inl g))) H := by
  have hl := (List.getElem?_eq_some_iff.mp ha).1
  intro k q hk
  by_cases hkp : k = q0
  · subst hkp
    rw [List.getElem?_set_self hl] at hk
    cases hk
    show H[a]? = some (vp_cell cA (n, .inl g))
    rw [← vp_cell_eq h]
    exact hP _ _ ha
  · rw [List.getElem?_set_ne (Ne.symm hkp)] at hk
    exact hP k q hk
/-- an int into an array by its place -/
theorem ib_ast {D : va_G} {cl : List vw_C} {tys : List (ClassId × FieldType)} {ws : va_W} {A : Nat → Prop} {H0 : Heap} {a : Nat} (hexec : p.tables.exec = Jvm.exec) (hb : c.code = cc) (hK : va_K D cl tys s) (hP : va_P D cl ws H) (hD : va_D A ws) (hS : va_S A H0 H locs) (q0 t0 : Nat) {cA : ClassId} {n : Nat} {f : Nat → Int32} (g : Nat → Int32) (ha : ws[q0]? = some (a, .inl (cA, n, .inl f))) (ht : tys[t0]? = some (cA, .int)) {i : Nat} {z : Int} {x : Int32} (hz : z = (i : Int)) (hi : i < n) (hn : n < 2147483648) (hg : ∀ j, j < n → (if j = i then x else f j) = g j) (hdg : decode cc pc = .ok (.iastore, 1))
    (kk : ∀ (H1 : Heap) (locs1 : List Loc), va_P D cl (ws.set q0 (a, .inl (cA, n, .inl g))) H1 → va_D A (ws.set q0 (a, .inl (cA, n, .inl g))) → va_S A H0 H1 locs1 → W p l e R s m args below meth c H1 locs1 cells slots Q (F0 m (pc + 1) ls rest)) : W p l e R s m args below meth c H locs cells slots Q (F0 m pc ls (.int x :: .int (iI z) :: .ref a :: rest)) := by
  subst hz
  refine va_iast hexec hb hK hP hD hS q0 t0 ha ht (iI_vp hi hn) hdg (fun H1 locs1 hP1 hD1 hS1 => ?_)
  rw [iI_cl (by omega)] at hP1 hD1
  have hl := (List.getElem?_eq_some_iff.mp ha).1
  have hu : (ws.set q0 (a, .inl (cA, n, .inl (upd f i x))))[q0]? = some (a, .inl (cA, n, .inl (upd f i x))) := List.getElem?_set_self hl
  have h1 := va_P_arr (g := g) (fun j hj => by rw [← hg j hj]; rfl) hu hP1
  have h2 := hD1.set (e := .inl (cA, n, .inl g)) hu
  rw [List.set_set] at h1 h2
  exact kk H1 locs1 h1 h2 hS1
end IB

/-! ===== reading calls: the heap stays as it is ===== -/
def rdQ (v : Option Value) : Array Value → State → Outcome → State → Prop := fun _ st o t => o = .returned v ∧ t.heap = st.heap
abbrev rd (l : Launch) (y : MethodName) (ws : List Cond) (rm : Room) (As : List Value) (B : State → Prop) (v : Option Value) : Prop := Met l y ws rm (va_Pc As B) (rdQ v) 0 0 (fun _ => False)
abbrev tt_ : State → Prop := fun _ => True
theorem mt_ofWF {l : Launch} {y : MethodName} {ws ws' : List Cond} {rm : Room} {Pc : Array Value → State → Prop} {Qc : Array Value → State → Outcome → State → Prop} {mc ms : Nat} {free : Addr → Prop} {cc : ByteArray} {maxL : Nat} {ret : Option FieldType}
    (hy : plainFor y = true) (hw : ws = Cond.code y cc maxL ret :: ws')
    (body : ∀ p e s m args below meth c s₁, BodyLoose p l y (headSpec ws rm) cc maxL ret e s m args below meth c s₁ → c.maxLocals = maxL → Pc args s →
      W p l e (headSpec ws rm).room s m args below meth c s.heap [] 0 0 (MQ below Qc args s mc ms free) (entryFrame m args maxL)) : Met l y ws rm Pc Qc mc ms free := by
  refine MetFree.of_bodySF (code := cc) (maxLocals := maxL) (ret := ret) hy ?_ ?_
  · intro args s m h hn
    obtain ⟨meth, c, h1, h2, h3, h4, h5, h6, -, -⟩ := Cond.code_spec hn (atoms_spec (ws := ws) h _ (by rw [hw]; exact List.mem_cons_self))
    exact ⟨meth, c, h1, h2, h3, h4, h5, h6⟩
  · intro p e s m args below meth c s₁ B hml hP _
    have hh0 : s₁.heap = s.heap := by rw [B.state]; rfl
    obtain ⟨t, a1, o, b1, b2, b3⟩ := body p e s m args below meth c s₁ B hml hP s₁ hh0 (Stand.of_body B)
    exact ⟨t, o, a1, b1, b2, ⟨b3.1, b3.2⟩⟩
/-- a world, as a method's start asks for it -/
abbrev bW (D : va_G) (w : va_W) (tys : List (ClassId × FieldType)) : State → Prop := fun U => va_P D vwCl w U.heap ∧ va_K D vwCl tys U
/-- .. of a method that writes there: apart too -/
abbrev bD (D : va_G) (w : va_W) (tys : List (ClassId × FieldType)) : State → Prop := fun U => va_P D vwCl w U.heap ∧ va_K D vwCl tys U ∧ va_D (fun _ => True) w
abbrev inW (w : va_W) : Nat → Prop := fun q => ∃ (k : Nat) (e : va_E), w[k]? = some (q, e)
def wrQ (D : va_G) (A : Nat → Prop) (w' : va_W) (v : Option Value) : Array Value → State → Outcome → State → Prop := fun _ st o t => o = .returned v ∧ va_P D vwCl w' t.heap ∧ va_F A st t
abbrev wr (l : Launch) (y : MethodName) (ws : List Cond) (rm : Room) (As : List Value) (D : va_G) (w : va_W) (tys : List (ClassId × FieldType)) (w' : va_W) (v : Option Value) : Prop := Met l y ws rm (va_Pc As (bD D w tys)) (wrQ D (inW w) w' v) 0 0 (inW w)
theorem va_D_same {A : Nat → Prop} {w w' : va_W} (h : w.map Prod.fst = w'.map Prod.fst) (hD : va_D A w) : va_D A w' := by
  have key : ∀ (k : Nat) (q : Nat × va_E), w'[k]? = some q → ∃ q0, w[k]? = some q0 ∧ q0.1 = q.1 := by
    intro k q hk
    have h1 : (w'.map Prod.fst)[k]? = some q.1 := by rw [List.getElem?_map, hk]; rfl
    rw [← h, List.getElem?_map] at h1
    cases hw : w[k]? with
    | none => rw [hw] at h1; cases h1
    | some q0 => rw [hw] at h1; exact ⟨q0, rfl, Option.some.inj h1⟩
  refine ⟨fun i j x y hi hj hxy => ?_, fun k q hk => ?_⟩
  · obtain ⟨x0, h1, h2⟩ := key i x hi
    obtain ⟨y0, h3, h4⟩ := key j y hj
    exact hD.1 i j x0 y0 h1 h3 (h2.trans (hxy.trans h4.symm))
  · obtain ⟨q0, h1, h2⟩ := key k q hk
    rw [← h2]
    exact hD.2 k q0 h1
theorem inW_same {w w' : va_W} (h : w.map Prod.fst = w'.map Prod.fst) {q : Nat} (hq : inW w q) : inW w' q := by
  obtain ⟨k, e0, hk⟩ := hq
  have h1 : (w.map Prod.fst)[k]? = some q := by rw [List.getElem?_map, hk]; rfl
  rw [h, List.getElem?_map] at h1
  cases hw : w'[k]? with
  | none => rw [hw] at h1; cases h1
  | some q0 => rw [hw] at h1; exact ⟨k, q0.2, by rw [hw, show q0 = (q, q0.2) from by rw [← Option.some.inj h1]]⟩
theorem va_D_in {A : Nat → Prop} {w : va_W} (h : va_D A w) : va_D (inW w) w := ⟨h.1, fun k q hk => ⟨k, q.2, hk⟩⟩
section RD
variable {p : Program} {l : Launch} {e : Env} {R : Room} {s : State} {m : MethodId} {args : Array Value} {below : List Frame} {meth : Method} {c : Code} {H : Heap} {locs : List Loc} {cells slots : Nat} {Q : State → Prop}
variable {cc : ByteArray} {pc : Nat} {ls : Array Slot} {rest : List Value}

variable {a : Array Value} {st0 : List Value} {bytes : ByteArray} {maxL nL n index : Nat} {ret : Option FieldType} {ws : List Cond} {rm : Room} {Ts : List Cond} {own C : String} {As : List Value} {y : MethodName} {B : State → Prop} {D : va_G} {w w' : va_W} {tys : List (ClassId × FieldType)}
theorem rd_call {v : Option Value} (hr : va_Run p l e R s m args below meth c H locs cells slots 0 0 (F0 m pc ls st0) rest (rdQ v a) (fun _ => False)) (kk : W p l e R s m args below meth c H locs cells slots Q (F0 m (pc + 3) ls (v.toList ++ rest))) : W p l e R s m args below meth c H locs cells slots Q (F0 m pc ls st0) := by
  intro T hT X
  obtain ⟨v', st₀, t, T', L, h0, X', hL, e1, e2, ⟨hv, hh⟩, st⟩ := hr T hT X
  cases hv
  have hL0 : L = [] := by
    cases L with
    | nil => rfl
    | cons x xs => exact (hL x List.mem_cons_self).elim
  subst hL0
  rw [List.append_nil] at X'
  obtain ⟨t2, a1, b1⟩ := kk T' (by rw [e1, hh, h0]) X'
  exact ⟨t2, st t2 a1, b1⟩
theorem tt_pre : PreS s H (va_Pc As tt_) As := ⟨fun _ _ _ _ q => q, fun _ _ _ => ⟨rfl, trivial⟩⟩
theorem bW_blind {As' : List Value} : FrameBlind (va_Pc As' (bW D w tys)) := fun a U g mk q => by
  obtain ⟨q0, qP, qK⟩ := q
  exact ⟨q0, qP, va_K.moved (u := U) (U := U.calling g mk a) (Vm.Alike.refl U.vm) qK⟩
theorem bD_blind {As' : List Value} : FrameBlind (va_Pc As' (bD D w tys)) := fun a U g mk q => by
  obtain ⟨q0, qP, qK, qD⟩ := q
  exact ⟨q0, qP, va_K.moved (u := U) (U := U.calling g mk a) (Vm.Alike.refl U.vm) qK, qD⟩
theorem bW_pre {b : Addr} (hK : va_K D vwCl tys s) (hP : va_P D vwCl w H) {ci q0 : Nat} {q : vw_C} {fs : List Value} (hc : vwCl[ci]? = some q) (hC : q.1 = C) (he : w[q0]? = some (b, .inr (ci, fs))) : PreV s H C b (va_Pc (.ref b :: As) (bW D w tys)) As := by
  subst hC
  exact ⟨bW_blind, va_recv hK hP hc he, fun U hU hW => ⟨rfl, by rw [hU]; exact hP, va_K.moved hW.alike hK⟩⟩
theorem bD_pre {b : Addr} {A : Nat → Prop} (hK : va_K D vwCl tys s) (hP : va_P D vwCl w H) (hD : va_D A w) {ci q0 : Nat} {q : vw_C} {fs : List Value} (hc : vwCl[ci]? = some q) (hC : q.1 = C) (he : w[q0]? = some (b, .inr (ci, fs))) : PreV s H C b (va_Pc (.ref b :: As) (bD D w tys)) As := by
  subst hC
  exact ⟨bD_blind, va_recv hK hP hc he, fun U hU hW => ⟨rfl, by rw [hU]; exact hP, va_K.moved hW.alike hK, hD.weaken (fun _ _ _ _ => trivial)⟩⟩
/-- a call that writes in the world w alone -/
theorem wr_call {v : Option Value} {A0 : Nat → Prop} {H0 : Heap} (hr : va_Run p l e R s m args below meth c H locs cells slots 0 0 (F0 m pc ls st0) rest (wrQ D (inW w) w' v a) (inW w)) (hS : va_S A0 H0 H locs) (hA : ∀ q, inW w q → A0 q)
    (kk : ∀ (H1 : Heap) (locs1 : List Loc), va_P D vwCl w' H1 → H.size ≤ H1.size → (∀ q : Nat, q < H.size → ¬ inW w q → H1[q]? = H[q]?) → va_S A0 H0 H1 locs1 → W p l e R s m args below meth c H1 locs1 cells slots Q (F0 m (pc + 3) ls (v.toList ++ rest))) : W p l e R s m args below meth c H locs cells slots Q (F0 m pc ls st0) := by
  intro T hT X
  obtain ⟨v', st₀, t, T', L, h0, X', hL, e1, e2, ⟨hv, hP, hz, hk⟩, st⟩ := hr T hT X
  cases hv
  rw [h0] at hz hk
  obtain ⟨t2, a1, b1⟩ := kk T'.heap (locs ++ L) (by rw [e1]; exact hP) (by rw [e1]; exact hz) (fun q h1 h2 => by rw [e1]; exact hk q h1 h2)
    ⟨Nat.le_trans hS.1 (by rw [e1]; exact hz), fun q h1 h2 => by rw [e1, hk q (Nat.lt_of_lt_of_le h1 hS.1) (fun z => h2 (hA q z))]; exact hS.2.1 q h1 h2, fun q hq => by
      rcases List.mem_append.mp hq with h | h
      · exact hS.2.2 q h
      · exact hA _ (hL q h)⟩ T' rfl X'
  exact ⟨t2, st t2 a1, b1⟩
end RD
end
section
/-! ===== longs as sixteen digits; ints as sets ===== -/
theorem nx_and (a b : Nat) : nI a &&& nI b = nI (a &&& b) := by
  apply Int32.toBitVec_inj.1
  show BitVec.ofNat 32 a &&& BitVec.ofNat 32 b = BitVec.ofNat 32 (a &&& b)
  apply BitVec.eq_of_getLsbD_eq
  intro i hi
  simp [hi]
theorem nx_or (a b : Nat) : nI a ||| nI b = nI (a ||| b) := by
  apply Int32.toBitVec_inj.1
  show BitVec.ofNat 32 a ||| BitVec.ofNat 32 b = BitVec.ofNat 32 (a ||| b)
  apply BitVec.eq_of_getLsbD_eq
  intro i hi
  simp [hi]
theorem nx_sl : ∀ n, n < 32 → ((nI n &&& 31).toBitVec.smod 32).toNat = n := by decide +kernel
theorem nx_su : ∀ n, n < 32 → (((nI n).toUInt32 &&& Int32.toUInt32 31).toBitVec % 32).toNat = n := by decide +kernel
theorem ir_or (a b : Nat) : iI ((a : Nat) : Int) ||| iI ((b : Nat) : Int) = iI ((a ||| b : Nat) : Int) := by rw [iI_nat, iI_nat, iI_nat, nx_or]
theorem ir_and (a b : Nat) : iI ((a : Nat) : Int) &&& iI ((b : Nat) : Int) = iI ((a &&& b : Nat) : Int) := by rw [iI_nat, iI_nat, iI_nat, nx_and]
theorem ir_shl {a k : Nat} (hk : k < 32) (h : a * 2 ^ k < 4294967296) : iI ((a : Nat) : Int) <<< (iI ((k : Nat) : Int) &&& 31) = iI ((a * 2 ^ k : Nat) : Int) := by
  rw [iI_nat, iI_nat, iI_nat]
  exact pk_shlN _ k (nx_sl k hk) (by omega)
theorem ir_shl1 {k : Nat} (hk : k < 31) : iI 1 <<< (iI ((k : Nat) : Int) &&& 31) = iI ((2 ^ k : Nat) : Int) := by
  have h : (2 : Nat) ^ k < 2 ^ 31 := Nat.pow_lt_pow_right (by decide) hk
  have h2 := ir_shl (a := 1) (k := k) (by omega) (by omega)
  rw [Nat.one_mul] at h2
  exact h2
theorem ir_shr {a k : Nat} (hk : k < 32) (h : a < 2147483648) : iI ((a : Nat) : Int) >>> (iI ((k : Nat) : Int) &&& 31) = iI ((a / 2 ^ k : Nat) : Int) := by
  rw [iI_nat, iI_nat, iI_nat]
  exact pk_shrN (by omega) _ k (nx_sl k hk)
theorem ir_ushr {a k : Nat} (hk : k < 32) (h : a < 4294967296) : ((iI ((a : Nat) : Int)).toUInt32 >>> ((iI ((k : Nat) : Int)).toUInt32 &&& Int32.toUInt32 31)).toInt32 = iI ((a / 2 ^ k : Nat) : Int) := by
  rw [iI_nat, iI_nat, iI_nat]
  exact pk_ushrN (by omega) _ k (nx_su k hk)
def uN (x : Int64) : Nat := x.toUInt64.toNat
theorem uN_lt (x : Int64) : uN x < 18446744073709551616 := x.toUInt64.toNat_lt
theorem uN_inj {x y : Int64} (h : uN x = uN y) : x = y := congrArg UInt64.toInt64 (UInt64.toNat_inj.mp h)
theorem uN_shr (x : Int64) (s : UInt64) : uN (x.toUInt64 >>> s).toInt64 = uN x / 2 ^ (s.toNat % 64) := by
  show (x.toUInt64 >>> s).toNat = _
  rw [UInt64.toNat_shiftRight, Nat.shiftRight_eq_div_pow]
  rfl
theorem uN_sk (x : Int64) {k : Nat} (hk : k < 64) : uN (x.toUInt64 >>> ((nI k).toInt64.toUInt64 &&& Int64.toUInt64 63)).toInt64 = uN x / 2 ^ k := by
  have h : ((nI k).toInt64.toUInt64 &&& Int64.toUInt64 63).toNat % 64 = k := by
    rw [nI_l (by omega), UInt64.toNat_and]
    have e : (lN k).toUInt64.toNat = k % 2 ^ 64 := rfl
    have e2 : (Int64.toUInt64 63).toNat = 2 ^ 6 - 1 := by decide
    rw [e, e2, Nat.and_two_pow_sub_one_eq_mod]
    omega
  rw [uN_shr, h]
theorem nx_sll : ∀ n, n < 64 → (((nI n).toInt64 &&& 63).toBitVec.smod 64).toNat = n := by decide +kernel
theorem uN_slk (x : Int64) {k : Nat} (hk : k < 64) : uN (x <<< ((nI k).toInt64 &&& 63)) = (uN x * 2 ^ k) % 18446744073709551616 := by
  show (x.toBitVec <<< (((nI k).toInt64 &&& 63).toBitVec.smod 64).toNat).toNat = _
  rw [nx_sll k hk, BitVec.toNat_shiftLeft, Nat.shiftLeft_eq]
  rfl
theorem uN_and (x y : Int64) : uN (x &&& y) = uN x &&& uN y := UInt64.toNat_and _ _
theorem uN_or (x y : Int64) : uN (x ||| y) = uN x ||| uN y := UInt64.toNat_or _ _
theorem uN_xor (x y : Int64) : uN (x ^^^ y) = uN x ^^^ uN y := UInt64.toNat_xor _ _
theorem uN_lN {k : Nat} (h : k < 18446744073709551616) : uN (lN k) = k := by
  show (UInt64.ofNat k).toNat = k
  rw [UInt64.toNat_ofNat']
  exact Nat.mod_eq_of_lt h
theorem uN_of (x : Int64) : x = lN (uN x) := uN_inj (uN_lN (uN_lt x)).symm
theorem iI_min {a b : Int} (ha : inI a) (hb : inI b) : (if iI b < iI a then iI b else iI a) = iI (min a b) := by
  by_cases h : b < a
  · rw [if_pos ((iI_lt hb ha).mpr h), Int.min_eq_right (Int.le_of_lt h)]
  · rw [if_neg (fun q => h ((iI_lt hb ha).mp q)), Int.min_eq_left (Int.not_lt.mp h)]
theorem iI_max {a b : Int} (ha : inI a) (hb : inI b) : (if iI a < iI b then iI b else iI a) = iI (max a b) := by
  by_cases h : a < b
  · rw [if_pos ((iI_lt ha hb).mpr h), Int.max_eq_right (Int.le_of_lt h)]
  · rw [if_neg (fun q => h ((iI_lt ha hb).mp q)), Int.max_eq_left (Int.not_lt.mp h)]
/-- the digit of a long at a place -/
def ent (x : Int64) (i : Nat) : Nat := uN x / 2 ^ (4 * i) % 16
theorem ent_lt (x : Int64) (i : Nat) : ent x i < 16 := Nat.mod_lt _ (by decide)
theorem ent_raw (x : Int64) {i : Nat} (h : i < 16) : ((x.toUInt64 >>> ((iI ((4 * i : Nat) : Int)).toInt64.toUInt64 &&& Int64.toUInt64 63)).toInt64 &&& (15 : Int64)).toInt32 = iI ((ent x i : Nat) : Int) := by
  rw [iI_nat, iI_nat]
  generalize hy : (x.toUInt64 >>> ((nI (4 * i)).toInt64.toUInt64 &&& Int64.toUInt64 63)).toInt64 = y
  have h1 : uN y = uN x / 2 ^ (4 * i) := by rw [← hy]; exact uN_sk x (by omega)
  have h2 : y &&& (15 : Int64) = lN (uN y % 16) := by
    apply uN_inj
    rw [uN_and, uN_lN (by omega), show uN (15 : Int64) = 2 ^ 4 - 1 from by decide, Nat.and_two_pow_sub_one_eq_mod]
  rw [h2, lN_i, h1]
  rfl
theorem ent_bit (x : Int64) (i b : Nat) : (ent x i).testBit b = (decide (b < 4) && (uN x).testBit (4 * i + b)) := by
  unfold ent
  rw [show (16 : Nat) = 2 ^ 4 from rfl, Nat.testBit_mod_two_pow, Nat.testBit_div_two_pow, Nat.add_comm b]
theorem uN_ext {x y : Int64} (h : ∀ k, k < 64 → (uN x).testBit k = (uN y).testBit k) : x = y := by
  apply uN_inj
  apply Nat.eq_of_testBit_eq
  intro k
  by_cases hk : k < 64
  · exact h k hk
  · have b : ∀ z : Int64, (uN z).testBit k = false := fun z => Nat.testBit_lt_two_pow (Nat.lt_of_lt_of_le (uN_lt z) (Nat.pow_le_pow_right (n := 2) (by decide) (show 64 ≤ k by omega)))
    rw [b, b]
/-- a long is its sixteen digits -/
theorem ent_ext {x y : Int64} (h : ∀ i, i < 16 → ent x i = ent y i) : x = y := by
  apply uN_ext
  intro k hk
  have h1 := congrArg (fun n => Nat.testBit n (k % 4)) (h (k / 4) (by omega))
  simp only [ent_bit] at h1
  rw [show 4 * (k / 4) + k % 4 = k by omega] at h1
  have h2 : k % 4 < 4 := Nat.mod_lt _ (by decide)
  simpa [h2] using h1
/-- withEntry, as the machine does it -/
def we (x : Int64) (i t : Nat) : Int64 := (x &&& (((15 : Int64) <<< ((iI ((4 * i : Nat) : Int)).toInt64 &&& 63)) ^^^ (-1 : Int64))) ||| ((iI ((t : Nat) : Int)).toInt64 <<< ((iI ((4 * i : Nat) : Int)).toInt64 &&& 63))
theorem nx_tb {a n k : Nat} (h : a < 2 ^ n) (hk : n ≤ k) : a.testBit k = false := Nat.testBit_lt_two_pow (Nat.lt_of_lt_of_le h (Nat.pow_le_pow_right (by decide) hk))
theorem uN_m1 : uN (-1 : Int64) = 2 ^ 64 - 1 := by decide
theorem we_bit (x : Int64) {i t k : Nat} (hi : i < 16) (ht : t < 16) (hk : k < 64) : (uN (we x i t)).testBit k = if 4 * i ≤ k ∧ k < 4 * i + 4 then t.testBit (k - 4 * i) else (uN x).testBit k := by
  unfold we
  have ht64 : (iI ((t : Nat) : Int)).toInt64 = lN t := by rw [iI_nat]; exact nI_l (by omega)
  rw [uN_or, uN_and, uN_xor, ht64, iI_nat, uN_slk _ (by omega), uN_slk _ (by omega), uN_lN (by omega), uN_m1, show (18446744073709551616 : Nat) = 2 ^ 64 from rfl, show uN (15 : Int64) = 15 from by decide]
  simp only [Nat.testBit_or, Nat.testBit_and, Nat.testBit_xor, Nat.testBit_mod_two_pow, Nat.testBit_two_pow_sub_one, Nat.testBit_mul_two_pow, hk, decide_true, Bool.true_and]
  by_cases h1 : 4 * i ≤ k
  · by_cases h2 : k < 4 * i + 4
    · have h3 : (15 : Nat).testBit (k - 4 * i) = true := by
        obtain ⟨b, hb, hb4⟩ : ∃ b, k - 4 * i = b ∧ b < 4 := ⟨_, rfl, by omega⟩
        rw [hb]
        have : ∀ b, b < 4 → (15 : Nat).testBit b = true := by decide
        exact this b hb4
      simp [h1, h2, h3]
    · have h3 : (15 : Nat).testBit (k - 4 * i) = false := nx_tb (n := 4) (by decide) (by omega)
      have h4 : t.testBit (k - 4 * i) = false := nx_tb (n := 4) ht (by omega)
      simp [h1, h2, h3, h4]
  · simp [h1]
theorem ent_we (x : Int64) {i t j : Nat} (hi : i < 16) (ht : t < 16) (hj : j < 16) : ent (we x i t) j = if j = i then t else ent x j := by
  apply Nat.eq_of_testBit_eq
  intro b
  rw [ent_bit]
  by_cases hb : b < 4
  · rw [we_bit x hi ht (by omega)]
    by_cases hji : j = i
    · subst hji
      rw [if_pos ⟨by omega, by omega⟩, if_pos rfl, show 4 * j + b - 4 * j = b by omega]
      simp [hb]
    · rw [if_neg (by omega), if_neg hji, ent_bit]
  · have h1 : (if j = i then t else ent x j) < 2 ^ 4 := by
      split
      · exact ht
      · exact ent_lt x j
    rw [nx_tb h1 (by omega)]
    simp [hb]
theorem ent_0 (j : Nat) : ent 0 j = 0 := by
  unfold ent
  rw [show uN (0 : Int64) = 0 from by decide, Nat.zero_div]
def md (z : Int) : Nat := (z % 12).toNat
theorem md_lt (z : Int) : md z < 12 := by unfold md; omega
theorem md_eq (z : Int) : ((md z : Nat) : Int) = z % 12 := by unfold md; omega
/-- the first that is so, or NONE -/
def ff (p : Nat → Bool) : Nat → Nat → Int
  | 0, _ => -1
  | j + 1, n => if p n then (n : Int) else ff p j (n + 1)
theorem ff_t {p : Nat → Bool} {j n : Nat} (h : p n = true) : ff p (j + 1) n = (n : Int) := by simp [ff, h]
theorem ff_f {p : Nat → Bool} {j n : Nat} (h : p n = false) : ff p (j + 1) n = ff p j (n + 1) := by simp [ff, h]
theorem ff_in (p : Nat → Bool) : ∀ j n, -1 ≤ ff p j n ∧ ff p j n < (n + j : Nat) + 0 ∨ ff p j n = -1
  | 0, n => Or.inr rfl
  | j + 1, n => by
    by_cases h : p n = true
    · rw [ff_t h]; exact Or.inl ⟨by omega, by omega⟩
    · rw [ff_f (by simpa using h)]
      have := ff_in p j (n + 1)
      omega
def fwt (x : Int64) (code n : Nat) : Int := if code / 12 = 1 ∨ code / 12 = 3 then ((code % 12 : Nat) : Int) - (((ent x n : Nat) : Int) - ((ent x 0 : Nat) : Int)) else ((code % 12 : Nat) : Int) + (((ent x n : Nat) : Int) - ((ent x 0 : Nat) : Int))
def fwp (code n : Nat) : Nat := if code / 12 = 2 ∨ code / 12 = 3 then 11 - n else n
def fwl (x : Int64) (code : Nat) : Nat → Int64
  | 0 => 0
  | n + 1 => we (fwl x code n) (fwp code n) (md (fwt x code n))
def fw (x : Int64) (code : Nat) : Int64 := fwl x code 12
def setN (x : Int64) (p : Nat) : Nat → Nat
  | 0 => 0
  | n + 1 => setN x p n ||| 2 ^ ent x (p + n)
theorem setN_lt (x : Int64) (p : Nat) : ∀ n, setN x p n < 65536
  | 0 => show 0 < 65536 by decide
  | n + 1 => Nat.or_lt_two_pow (n := 16) (setN_lt x p n) (Nat.pow_lt_pow_right (by decide) (ent_lt x _))
def trN (s b : Nat) : Nat := (s * 2 ^ b ||| s / 2 ^ (12 - b)) &&& 4095
theorem trN_lt (s b : Nat) : trN s b < 4096 := Nat.and_lt_two_pow (n := 12) _ (by decide)
def ivN (s : Nat) : Nat → Nat
  | 0 => 0
  | n + 1 => ivN s n ||| (s / 2 ^ n &&& 1) * 2 ^ md (-(n : Int))
theorem one_lt (a b : Nat) : (a &&& 1) * 2 ^ b ≤ 2 ^ b := by
  have h := Nat.and_le_right (n := a) (m := 1)
  calc (a &&& 1) * 2 ^ b ≤ 1 * 2 ^ b := Nat.mul_le_mul_right _ h
    _ = 2 ^ b := Nat.one_mul _
theorem ivN_lt (s : Nat) : ∀ n, ivN s n < 4096
  | 0 => show 0 < 4096 by decide
  | n + 1 => Nat.or_lt_two_pow (n := 12) (ivN_lt s n) (Nat.lt_of_le_of_lt (one_lt _ _) (Nat.pow_lt_pow_right (by decide) (md_lt _)))
def llN (s : Nat) : Nat → Nat
  | 0 => s
  | n + 1 => min (llN s n) (min (trN s n) (trN (ivN s 12) n))
theorem llN_le (s : Nat) : ∀ n, llN s n ≤ s
  | 0 => Nat.le_refl _
  | n + 1 => Nat.le_trans (Nat.min_le_left _ _) (llN_le s n)
/-- the place of a tone in a row, or NONE -/
def pin (x : Int64) (t : Nat) : Int := ff (fun i => decide (ent x i = t)) 12 0
def pn (x : Int64) (t : Nat) : Nat := (pin x t).toNat
theorem pin_in (x : Int64) (t : Nat) : -1 ≤ pin x t ∧ pin x t < 12 := by
  have := ff_in (fun i => decide (ent x i = t)) 12 0
  unfold pin
  omega
/-- every tone of the first is in the second -/
abbrev hasAll (x y : Int64) : Prop := ∀ i, i < 12 → 0 ≤ pin y (ent x i)
theorem pn_eq {y : Int64} {t : Nat} (h : 0 ≤ pin y t) : pin y t = ((pn y t : Nat) : Int) := by unfold pn; omega
theorem pn_lt (y : Int64) (t : Nat) : pn y t < 12 := by have := pin_in y t; unfold pn; omega
def plcN (x y : Int64) : Nat → Int64
  | 0 => 0
  | n + 1 => we (plcN x y n) n (pn y (ent x n))
def loN (x : Int64) (p : Nat) : Nat → Nat
  | 0 => 12
  | n + 1 => min (loN x p n) (ent x (p + n))
def hiN (x : Int64) (p : Nat) : Nat → Int
  | 0 => -1
  | n + 1 => max (hiN x p n) ((ent x (p + n) : Nat) : Int)
theorem loN_in (x : Int64) (p : Nat) : ∀ n, loN x p n < 16
  | 0 => show 12 < 16 by decide
  | n + 1 => Nat.lt_of_le_of_lt (Nat.min_le_left _ _) (loN_in x p n)
theorem hiN_in (x : Int64) (p : Nat) : ∀ n, -1 ≤ hiN x p n ∧ hiN x p n < 16
  | 0 => ⟨show (-1 : Int) ≤ -1 by decide, show (-1 : Int) < 16 by decide⟩
  | n + 1 => by
    have h1 := hiN_in x p n
    have h2 := ent_lt x (p + n)
    have h3 : hiN x p (n + 1) = max (hiN x p n) ((ent x (p + n) : Nat) : Int) := rfl
    omega
abbrev nbr (x : Int64) (p k : Nat) : Prop := hiN x p k - ((loN x p k : Nat) : Int) = (k : Int) - 1
theorem nbr_t {x : Int64} {p k n : Nat} (h : n = k) (c : hiN x p n - ((loN x p n : Nat) : Int) = (k : Int) - 1) : bI (nbr x p k) = 1 := bI_t (by subst h; exact c)
theorem nbr_f {x : Int64} {p k n : Nat} (h : n = k) (c : ¬ hiN x p n - ((loN x p n : Nat) : Int) = (k : Int) - 1) : bI (nbr x p k) = 0 := bI_f (by subst h; exact c)
/-- how many segments ahead of n stay together -/
def ckN (P : Int64) (k : Nat) : Nat → Nat
  | 0 => 0
  | n + 1 => if nbr P n k then ckN P k n + 1 else ckN P k n
theorem ckN_le (P : Int64) (k : Nat) : ∀ n, ckN P k n ≤ n
  | 0 => Nat.le_refl _
  | n + 1 => by
    have h := ckN_le P k n
    unfold ckN
    split <;> omega
/-- the machine's remainder by 12 -/
def tm (v : Int) : Int := v - v.tdiv 12 * 12
theorem tm_spec (v : Int) : (0 ≤ v → tm v = v % 12) ∧ (v < 0 → (v % 12 = 0 → tm v = 0) ∧ (¬ v % 12 = 0 → tm v = v % 12 - 12)) := by
  unfold tm
  by_cases h : 0 ≤ v
  · rw [Int.tdiv_eq_ediv_of_nonneg h]
    refine ⟨fun _ => by omega, fun h2 => by omega⟩
  · have e : v.tdiv 12 = -((-v) / 12) := by
      have h1 : v = -(-v) := (Int.neg_neg v).symm
      rw [h1, Int.neg_tdiv, Int.tdiv_eq_ediv_of_nonneg (by omega), Int.neg_neg]
    rw [e]
    refine ⟨fun h2 => absurd h2 h, fun _ => ⟨fun h3 => by omega, fun h3 => by omega⟩⟩
def xr (v : Int) : Int := (iI v ^^^ iI 12).toInt
theorem xr_spec {v : Int} (h : inI v) : inI (xr v) ∧ (0 ≤ xr v ↔ 0 ≤ v) := by
  refine ⟨iI_in _, ?_⟩
  have key : ∀ x : Int32, 0 ≤ x.toInt ↔ x.toBitVec.msb = false := fun x => by
    rw [show x.toInt = x.toBitVec.toInt from rfl, BitVec.msb_eq_toInt]
    simp
  have hv : v = (iI v).toInt := (iI_toInt h).symm
  rw [xr, key, hv, key, iI_toInt h, Int32.toBitVec_xor, BitVec.msb_xor]
  have h12 : (iI 12).toBitVec.msb = false := by decide
  rw [h12, Bool.xor_false]
/-- Integer.bitCount, step by step -/
def bc1 (x : Int32) : Int32 := x - ((x.toUInt32 >>> ((iI 1).toUInt32 &&& Int32.toUInt32 31)).toInt32 &&& (1431655765 : Int32))
def bc2 (x : Int32) : Int32 := (bc1 x &&& (858993459 : Int32)) + (((bc1 x).toUInt32 >>> ((iI 2).toUInt32 &&& Int32.toUInt32 31)).toInt32 &&& (858993459 : Int32))
def bc3 (x : Int32) : Int32 := (bc2 x + ((bc2 x).toUInt32 >>> ((iI 4).toUInt32 &&& Int32.toUInt32 31)).toInt32) &&& (252645135 : Int32)
def bc4 (x : Int32) : Int32 := bc3 x + ((bc3 x).toUInt32 >>> ((iI 8).toUInt32 &&& Int32.toUInt32 31)).toInt32
def bc5 (x : Int32) : Int32 := bc4 x + ((bc4 x).toUInt32 >>> ((iI 16).toUInt32 &&& Int32.toUInt32 31)).toInt32
def popK (s : Nat) : Nat → Nat
  | 0 => 0
  | n + 1 => popK s n + s / 2 ^ n % 2
def popN (s : Nat) : Nat := popK s 12
theorem popK_le (s : Nat) : ∀ n, popK s n ≤ n
  | 0 => Nat.le_refl _
  | n + 1 => by
    have h := popK_le s n
    have h2 : s / 2 ^ n % 2 < 2 := Nat.mod_lt _ (by decide)
    unfold popK
    omega
theorem popN_le (s : Nat) : popN s ≤ 12 := popK_le s 12
set_option maxRecDepth 100000 in
theorem bc_all : ∀ s, s < 4096 → bc5 (iI ((s : Nat) : Int)) &&& iI 63 = iI ((popN s : Nat) : Int) := by decide +kernel
theorem tr_b {s b : Nat} (h : s < 4096) (hb : b ≤ 12) : s * 2 ^ b < 4294967296 := by
  have h1 : 2 ^ b ≤ 2 ^ 12 := Nat.pow_le_pow_right (by decide) hb
  have h2 : s * 2 ^ b ≤ 4095 * 2 ^ 12 := Nat.mul_le_mul (by omega) h1
  omega
theorem iv_b (a : Nat) (z : Int) : (a &&& 1) * 2 ^ md z < 4294967296 := by
  have h1 := one_lt a (md z)
  have h2 : 2 ^ md z < 2 ^ 12 := Nat.pow_lt_pow_right (by decide) (md_lt z)
  omega
end
section
theorem hdJ9_floorMod_7cf53 : yJ9_floorMod_7cf53.cls ≠ "java/lang/invoke/MethodHandle" ∧ yJ9_floorMod_7cf53.cls ≠ "java/lang/invoke/VarHandle" ∧ (parseMethodDescriptor yJ9_floorMod_7cf53.desc).map (fun d => d.parameters.length) = some 2 := by decide +kernel
theorem hdX0_areNeighbours : yX0_areNeighbours.cls ≠ "java/lang/invoke/MethodHandle" ∧ yX0_areNeighbours.cls ≠ "java/lang/invoke/VarHandle" ∧ (parseMethodDescriptor yX0_areNeighbours.desc).map (fun d => d.parameters.length) = some 3 := by decide +kernel
theorem hdX0_entryAt : yX0_entryAt.cls ≠ "java/lang/invoke/MethodHandle" ∧ yX0_entryAt.cls ≠ "java/lang/invoke/VarHandle" ∧ (parseMethodDescriptor yX0_entryAt.desc).map (fun d => d.parameters.length) = some 2 := by decide +kernel
theorem hdX0_inverted : yX0_inverted.cls ≠ "java/lang/invoke/MethodHandle" ∧ yX0_inverted.cls ≠ "java/lang/invoke/VarHandle" ∧ (parseMethodDescriptor yX0_inverted.desc).map (fun d => d.parameters.length) = some 1 := by decide +kernel
theorem hdX0_placeIn : yX0_placeIn.cls ≠ "java/lang/invoke/MethodHandle" ∧ yX0_placeIn.cls ≠ "java/lang/invoke/VarHandle" ∧ (parseMethodDescriptor yX0_placeIn.desc).map (fun d => d.parameters.length) = some 2 := by decide +kernel
theorem hdX0_placesOf : yX0_placesOf.cls ≠ "java/lang/invoke/MethodHandle" ∧ yX0_placesOf.cls ≠ "java/lang/invoke/VarHandle" ∧ (parseMethodDescriptor yX0_placesOf.desc).map (fun d => d.parameters.length) = some 2 := by decide +kernel
theorem hdX0_requireRange : yX0_requireRange.cls ≠ "java/lang/invoke/MethodHandle" ∧ yX0_requireRange.cls ≠ "java/lang/invoke/VarHandle" ∧ (parseMethodDescriptor yX0_requireRange.desc).map (fun d => d.parameters.length) = some 3 := by decide +kernel
theorem hdX0_transposed : yX0_transposed.cls ≠ "java/lang/invoke/MethodHandle" ∧ yX0_transposed.cls ≠ "java/lang/invoke/VarHandle" ∧ (parseMethodDescriptor yX0_transposed.desc).map (fun d => d.parameters.length) = some 2 := by decide +kernel
theorem hdX0_withEntry : yX0_withEntry.cls ≠ "java/lang/invoke/MethodHandle" ∧ yX0_withEntry.cls ≠ "java/lang/invoke/VarHandle" ∧ (parseMethodDescriptor yX0_withEntry.desc).map (fun d => d.parameters.length) = some 3 := by decide +kernel
theorem hdX0_wrap : yX0_wrap.cls ≠ "java/lang/invoke/MethodHandle" ∧ yX0_wrap.cls ≠ "java/lang/invoke/VarHandle" ∧ (parseMethodDescriptor yX0_wrap.desc).map (fun d => d.parameters.length) = some 1 := by decide +kernel
set_option maxHeartbeats 4000000 in
set_option maxRecDepth 100000 in
theorem mJ9_floorMod_7cf53 (l : Launch) (v : Int) (h : inI v) : rd l yJ9_floorMod_7cf53 wsJ9_floorMod_7cf53 { frames := 0, cells := 0, slots := 0, locals := 0 } [.int (iI v), .int (iI 12)] tt_ (some (.int (iI ((md v : Nat) : Int)))) := by
  refine mt_ofWF (cc := cJ9_floorMod_7cf53) (maxL := 3) (ret := (some .int)) (by decide +kernel) rfl ?_
  intro P0 e s m args below meth c s₁ B hml hv
  obtain ⟨rfl, -⟩ := hv
  have hx := B.exec
  have hb := B.bytes
  have hr := B.returns
  have hts := atoms_spec (ws := wsJ9_floorMod_7cf53) B.pre
  have hown : s.vm.findClass RJ9 = some m.cls := findClass_of_methodNamed B.named
  have hlocks := B.notSynchronized
  have hl := lv_entry ([.int (iI v), .int (iI 12)]) (n := 3) (Nat.le_of_ble_eq_true rfl)
  rw [lg_entry_eq]
  generalize (lg_sl ([.int (iI v), .int (iI 12)]) ++ List.replicate (3 - (lg_sl ([.int (iI v), .int (iI 12)])).length) Slot.unset).toArray = ls at hl ⊢
  have hl : lv_has ls 3 [(0, .int (iI v)), (1, .int (iI 12))] := hl
  have ht := tm_spec v
  have hxr := xr_spec h
  have hmd := md_eq v
  refine lv_iload_n hx hb dJ9_floorMod_7cf53_0 rfl (lv_at hl 0 rfl) ?_
  refine lv_iload_n hx hb dJ9_floorMod_7cf53_1 rfl (lv_at hl 1 rfl) ?_
  refine ib_remt (z := tm v) hx hb dJ9_floorMod_7cf53_2 ⟨by omega, by omega⟩ (by omega) (by omega) rfl ?_
  refine lv_istore_n (lv' := [(2, .int (iI (tm v))), (0, .int (iI v)), (1, .int (iI 12))]) hx hb dJ9_floorMod_7cf53_3 rfl hl (by decide) rfl (fun ls hl => ?_)
  refine lv_iload_n hx hb dJ9_floorMod_7cf53_4 rfl (lv_at hl 1 rfl) ?_
  refine lv_iload_n hx hb dJ9_floorMod_7cf53_5 rfl (lv_at hl 2 rfl) ?_
  refine lv_ixor hx hb dJ9_floorMod_7cf53_6 ?_
  refine st_i (y := iI (xr v)) ((iI_of _).symm) ?_
  refine ib_if_ge (tgt := 18) hx hb dJ9_floorMod_7cf53_7 (by decide) ⟨by omega, by omega⟩ (fun c_7 => ?_) (fun c_7 => ?_)
  · skip
    refine lv_iload_n hx hb dJ9_floorMod_7cf53_18 rfl (lv_at hl 0 rfl) ?_
    refine st_i (y := iI ((md v : Nat) : Int)) (congrArg iI (by rw [md_eq]; omega)) ?_
    exact W.iret hx hb hr (fun t ht _ => ⟨rfl, ht⟩) (fun _ h => nomatch h) dJ9_floorMod_7cf53_19
  · skip
    refine lv_iload_n hx hb dJ9_floorMod_7cf53_10 rfl (lv_at hl 0 rfl) ?_
    refine ib_if_eq (tgt := 18) hx hb dJ9_floorMod_7cf53_11 (by decide) ⟨by omega, by omega⟩ (fun c_11 => ?_) (fun c_11 => ?_)
    · skip
      refine lv_iload_n hx hb dJ9_floorMod_7cf53_18 rfl (lv_at hl 0 rfl) ?_
      refine st_i (y := iI ((md v : Nat) : Int)) (congrArg iI (by rw [md_eq]; omega)) ?_
      exact W.iret hx hb hr (fun t ht _ => ⟨rfl, ht⟩) (fun _ h => nomatch h) dJ9_floorMod_7cf53_19
    · skip
      refine lv_iload_n hx hb dJ9_floorMod_7cf53_14 rfl (lv_at hl 0 rfl) ?_
      refine lv_iload_n hx hb dJ9_floorMod_7cf53_15 rfl (lv_at hl 2 rfl) ?_
      refine ib_add (z := (tm v) + 12) hx hb dJ9_floorMod_7cf53_16 (by omega) ?_
      refine st_i (y := iI ((md v : Nat) : Int)) (congrArg iI (by rw [md_eq]; omega)) ?_
      exact W.iret hx hb hr (fun t ht _ => ⟨rfl, ht⟩) (fun _ h => nomatch h) dJ9_floorMod_7cf53_17

set_option maxHeartbeats 4000000 in
set_option maxRecDepth 100000 in
theorem mJ6_bitCount_0f7a4 (l : Launch) (sv : Nat) (h : sv < 4096) : rd l yJ6_bitCount_0f7a4 wsJ6_bitCount_0f7a4 { frames := 0, cells := 0, slots := 0, locals := 0 } [.int (iI ((sv : Nat) : Int))] tt_ (some (.int (iI ((popN sv : Nat) : Int)))) := by
  refine Met.ofW (cc := cJ6_bitCount_0f7a4) (maxL := 1) (ret := (some .int)) (by decide) rfl ?_
  intro P0 e s m args below meth c s₁ B hml hv
  obtain ⟨rfl, -⟩ := hv
  have hx := B.exec
  have hb := B.bytes
  have hr := B.returns
  have hts := atoms_spec (ws := wsJ6_bitCount_0f7a4) B.pre
  have hown : s.vm.findClass RJ6 = some m.cls := findClass_of_methodNamed B.named
  have hlocks := B.notSynchronized
  have hl := lv_entry ([.int (iI ((sv : Nat) : Int))]) (n := 1) (Nat.le_of_ble_eq_true rfl)
  rw [lg_entry_eq]
  generalize (lg_sl ([.int (iI ((sv : Nat) : Int))]) ++ List.replicate (1 - (lg_sl ([.int (iI ((sv : Nat) : Int))])).length) Slot.unset).toArray = ls at hl ⊢
  have hl : lv_has ls 1 [(0, .int (iI ((sv : Nat) : Int)))] := hl
  refine lv_iload_n hx hb dJ6_bitCount_0f7a4_0 rfl (lv_at hl 0 rfl) ?_
  refine lv_iload_n hx hb dJ6_bitCount_0f7a4_1 rfl (lv_at hl 0 rfl) ?_
  refine ib_const hx hb dJ6_bitCount_0f7a4_2 ?_
  refine lv_iushr hx hb dJ6_bitCount_0f7a4_3 rfl ?_
  refine lv_ldcw (v := 1431655765) hx hb hown (hts (.constant RJ6 265 (1431655765)) (by decide +kernel)) dJ6_bitCount_0f7a4_4 ?_
  refine lv_iand hx hb dJ6_bitCount_0f7a4_7 ?_
  refine lv_isub hx hb dJ6_bitCount_0f7a4_8 ?_
  refine st_i (y := bc1 (iI ((sv : Nat) : Int))) (rfl) ?_
  refine lv_istore_n (lv' := [(0, .int (bc1 (iI ((sv : Nat) : Int))))]) hx hb dJ6_bitCount_0f7a4_9 rfl hl (by decide) rfl (fun ls hl => ?_)
  refine lv_iload_n hx hb dJ6_bitCount_0f7a4_10 rfl (lv_at hl 0 rfl) ?_
  refine lv_ldcw (v := 858993459) hx hb hown (hts (.constant RJ6 266 (858993459)) (by decide +kernel)) dJ6_bitCount_0f7a4_11 ?_
  refine lv_iand hx hb dJ6_bitCount_0f7a4_14 ?_
  refine lv_iload_n hx hb dJ6_bitCount_0f7a4_15 rfl (lv_at hl 0 rfl) ?_
  refine ib_const hx hb dJ6_bitCount_0f7a4_16 ?_
  refine lv_iushr hx hb dJ6_bitCount_0f7a4_17 rfl ?_
  refine lv_ldcw (v := 858993459) hx hb hown (hts (.constant RJ6 266 (858993459)) (by decide +kernel)) dJ6_bitCount_0f7a4_18 ?_
  refine lv_iand hx hb dJ6_bitCount_0f7a4_21 ?_
  refine lv_iadd hx hb dJ6_bitCount_0f7a4_22 ?_
  refine st_i (y := bc2 (iI ((sv : Nat) : Int))) (rfl) ?_
  refine lv_istore_n (lv' := [(0, .int (bc2 (iI ((sv : Nat) : Int))))]) hx hb dJ6_bitCount_0f7a4_23 rfl hl (by decide) rfl (fun ls hl => ?_)
  refine lv_iload_n hx hb dJ6_bitCount_0f7a4_24 rfl (lv_at hl 0 rfl) ?_
  refine lv_iload_n hx hb dJ6_bitCount_0f7a4_25 rfl (lv_at hl 0 rfl) ?_
  refine ib_const hx hb dJ6_bitCount_0f7a4_26 ?_
  refine lv_iushr hx hb dJ6_bitCount_0f7a4_27 rfl ?_
  refine lv_iadd hx hb dJ6_bitCount_0f7a4_28 ?_
  refine lv_ldcw (v := 252645135) hx hb hown (hts (.constant RJ6 267 (252645135)) (by decide +kernel)) dJ6_bitCount_0f7a4_29 ?_
  refine lv_iand hx hb dJ6_bitCount_0f7a4_32 ?_
  refine st_i (y := bc3 (iI ((sv : Nat) : Int))) (rfl) ?_
  refine lv_istore_n (lv' := [(0, .int (bc3 (iI ((sv : Nat) : Int))))]) hx hb dJ6_bitCount_0f7a4_33 rfl hl (by decide) rfl (fun ls hl => ?_)
  refine lv_iload_n hx hb dJ6_bitCount_0f7a4_34 rfl (lv_at hl 0 rfl) ?_
  refine lv_iload_n hx hb dJ6_bitCount_0f7a4_35 rfl (lv_at hl 0 rfl) ?_
  refine ib_bi hx hb dJ6_bitCount_0f7a4_36 (by decide) ?_
  refine lv_iushr hx hb dJ6_bitCount_0f7a4_38 rfl ?_
  refine lv_iadd hx hb dJ6_bitCount_0f7a4_39 ?_
  refine st_i (y := bc4 (iI ((sv : Nat) : Int))) (rfl) ?_
  refine lv_istore_n (lv' := [(0, .int (bc4 (iI ((sv : Nat) : Int))))]) hx hb dJ6_bitCount_0f7a4_40 rfl hl (by decide) rfl (fun ls hl => ?_)
  refine lv_iload_n hx hb dJ6_bitCount_0f7a4_41 rfl (lv_at hl 0 rfl) ?_
  refine lv_iload_n hx hb dJ6_bitCount_0f7a4_42 rfl (lv_at hl 0 rfl) ?_
  refine ib_bi hx hb dJ6_bitCount_0f7a4_43 (by decide) ?_
  refine lv_iushr hx hb dJ6_bitCount_0f7a4_45 rfl ?_
  refine lv_iadd hx hb dJ6_bitCount_0f7a4_46 ?_
  refine st_i (y := bc5 (iI ((sv : Nat) : Int))) (rfl) ?_
  refine lv_istore_n (lv' := [(0, .int (bc5 (iI ((sv : Nat) : Int))))]) hx hb dJ6_bitCount_0f7a4_47 rfl hl (by decide) rfl (fun ls hl => ?_)
  refine lv_iload_n hx hb dJ6_bitCount_0f7a4_48 rfl (lv_at hl 0 rfl) ?_
  refine ib_bi hx hb dJ6_bitCount_0f7a4_49 (by decide) ?_
  refine lv_iand hx hb dJ6_bitCount_0f7a4_51 ?_
  refine st_i (y := iI ((popN sv : Nat) : Int)) (bc_all sv h) ?_
  exact W.iret hx hb hr (fun t ht _ => ⟨rfl, ht⟩) (fun _ h => nomatch h) dJ6_bitCount_0f7a4_52

set_option maxHeartbeats 4000000 in
set_option maxRecDepth 100000 in
theorem mX0_entryAt (l : Launch) (x : Int64) (i : Nat) (h : i < 16) : rd l yX0_entryAt wsX0_entryAt { frames := 0, cells := 0, slots := 0, locals := 0 } [.long x, .int (iI ((i : Nat) : Int))] tt_ (some (.int (iI ((ent x i : Nat) : Int)))) := by
  refine Met.ofW (cc := cX0_entryAt) (maxL := 3) (ret := (some .int)) (by decide) rfl ?_
  intro P0 e s m args below meth c s₁ B hml hv
  obtain ⟨rfl, -⟩ := hv
  have hx := B.exec
  have hb := B.bytes
  have hr := B.returns
  have hts := atoms_spec (ws := wsX0_entryAt) B.pre
  have hown : s.vm.findClass RX0 = some m.cls := findClass_of_methodNamed B.named
  have hlocks := B.notSynchronized
  have hl := lv_entry ([.long x, .int (iI ((i : Nat) : Int))]) (n := 3) (Nat.le_of_ble_eq_true rfl)
  rw [lg_entry_eq]
  generalize (lg_sl ([.long x, .int (iI ((i : Nat) : Int))]) ++ List.replicate (3 - (lg_sl ([.long x, .int (iI ((i : Nat) : Int))])).length) Slot.unset).toArray = ls at hl ⊢
  have hl : lv_has ls 3 [(0, .long x), (2, .int (iI ((i : Nat) : Int)))] := hl
  refine lv_lload_n hx hb dX0_entryAt_0 rfl (lv_at hl 0 rfl) ?_
  refine ib_const hx hb dX0_entryAt_1 ?_
  refine lv_iload_n hx hb dX0_entryAt_2 rfl (lv_at hl 1 rfl) ?_
  refine ib_mul (z := ((4 * i : Nat) : Int)) hx hb dX0_entryAt_3 (by first | omega | rfl | (push_cast; rfl)) ?_
  refine lv_lushr hx hb dX0_entryAt_4 rfl ?_
  refine lv_ldc2 (v := 15) hx hb hown (hts (.constantLong RX0 143 (15)) (by decide +kernel)) dX0_entryAt_5 ?_
  refine lv_land hx hb dX0_entryAt_8 ?_
  refine lv_l2i hx hb dX0_entryAt_9 rfl ?_
  refine st_i (y := iI ((ent x i : Nat) : Int)) (ent_raw x h) ?_
  exact W.iret hx hb hr (fun t ht _ => ⟨rfl, ht⟩) (fun _ h => nomatch h) dX0_entryAt_10

set_option maxHeartbeats 4000000 in
set_option maxRecDepth 100000 in
theorem mX0_withEntry (l : Launch) (x : Int64) (i t : Nat) (h : i < 16) : rd l yX0_withEntry wsX0_withEntry { frames := 0, cells := 0, slots := 0, locals := 0 } [.long x, .int (iI ((i : Nat) : Int)), .int (iI ((t : Nat) : Int))] tt_ (some (.long (we x i t))) := by
  refine Met.ofW (cc := cX0_withEntry) (maxL := 5) (ret := (some .long)) (by decide) rfl ?_
  intro P0 e s m args below meth c s₁ B hml hv
  obtain ⟨rfl, -⟩ := hv
  have hx := B.exec
  have hb := B.bytes
  have hr := B.returns
  have hts := atoms_spec (ws := wsX0_withEntry) B.pre
  have hown : s.vm.findClass RX0 = some m.cls := findClass_of_methodNamed B.named
  have hlocks := B.notSynchronized
  have hl := lv_entry ([.long x, .int (iI ((i : Nat) : Int)), .int (iI ((t : Nat) : Int))]) (n := 5) (Nat.le_of_ble_eq_true rfl)
  rw [lg_entry_eq]
  generalize (lg_sl ([.long x, .int (iI ((i : Nat) : Int)), .int (iI ((t : Nat) : Int))]) ++ List.replicate (5 - (lg_sl ([.long x, .int (iI ((i : Nat) : Int)), .int (iI ((t : Nat) : Int))])).length) Slot.unset).toArray = ls at hl ⊢
  have hl : lv_has ls 5 [(0, .long x), (2, .int (iI ((i : Nat) : Int))), (3, .int (iI ((t : Nat) : Int)))] := hl
  refine ib_const hx hb dX0_withEntry_0 ?_
  refine lv_iload_n hx hb dX0_withEntry_1 rfl (lv_at hl 1 rfl) ?_
  refine ib_mul (z := ((4 * i : Nat) : Int)) hx hb dX0_withEntry_2 (by first | omega | rfl | (push_cast; rfl)) ?_
  refine lv_istore (lv' := [(4, .int (iI ((4 * i : Nat) : Int))), (0, .long x), (2, .int (iI ((i : Nat) : Int))), (3, .int (iI ((t : Nat) : Int)))]) hx hb dX0_withEntry_3 hl (by decide) rfl (fun ls hl => ?_)
  refine lv_lload_n hx hb dX0_withEntry_5 rfl (lv_at hl 1 rfl) ?_
  refine lv_ldc2 (v := 15) hx hb hown (hts (.constantLong RX0 143 (15)) (by decide +kernel)) dX0_withEntry_6 ?_
  refine lv_iload hx hb dX0_withEntry_9 (lv_at hl 0 rfl) ?_
  refine lv_lshl hx hb dX0_withEntry_11 rfl ?_
  refine lv_ldc2 (v := -1) hx hb hown (hts (.constantLong RX0 145 (-1)) (by decide +kernel)) dX0_withEntry_12 ?_
  refine lv_lxor hx hb dX0_withEntry_15 ?_
  refine lv_land hx hb dX0_withEntry_16 ?_
  refine lv_iload_n hx hb dX0_withEntry_17 rfl (lv_at hl 3 rfl) ?_
  refine lv_i2l hx hb dX0_withEntry_18 rfl ?_
  refine lv_iload hx hb dX0_withEntry_19 (lv_at hl 0 rfl) ?_
  refine lv_lshl hx hb dX0_withEntry_21 rfl ?_
  refine lv_lor hx hb dX0_withEntry_22 ?_
  refine st_l (y := we x i t) (rfl) ?_
  exact W.lret hx hb hr (fun t ht _ => ⟨rfl, ht⟩) (fun _ h => nomatch h) dX0_withEntry_23

set_option maxHeartbeats 4000000 in
set_option maxRecDepth 100000 in
theorem mX0_wrap (l : Launch) (v : Int) (h : inI v) : rd l yX0_wrap wsX0_wrap { frames := 1, cells := 0, slots := 0, locals := 22 } [.int (iI v)] tt_ (some (.int (iI ((md v : Nat) : Int)))) := by
  refine Met.ofW (cc := cX0_wrap) (maxL := 1) (ret := (some .int)) (by decide) rfl ?_
  intro P0 e s m args below meth c s₁ B hml hv
  obtain ⟨rfl, -⟩ := hv
  have hx := B.exec
  have hb := B.bytes
  have hr := B.returns
  have hts := atoms_spec (ws := wsX0_wrap) B.pre
  have hown : s.vm.findClass RX0 = some m.cls := findClass_of_methodNamed B.named
  have hlocks := B.notSynchronized
  have hl := lv_entry ([.int (iI v)]) (n := 1) (Nat.le_of_ble_eq_true rfl)
  rw [lg_entry_eq]
  generalize (lg_sl ([.int (iI v)]) ++ List.replicate (1 - (lg_sl ([.int (iI v)])).length) Slot.unset).toArray = ls at hl ⊢
  have hl : lv_has ls 1 [(0, .int (iI v))] := hl
  have h1 := h.1
  have h2 := h.2
  refine lv_iload_n hx hb dX0_wrap_0 rfl (lv_at hl 0 rfl) ?_
  refine ib_bi hx hb dX0_wrap_1 (by decide) ?_
  refine rd_call (va_runS (As := [.int (iI v), .int (iI 12)]) (rest := []) ⟨hx, hb, hml, hown, hts⟩ (mJ9_floorMod_7cf53 l v ⟨by omega, by omega⟩) (va_cwS 2 hts gX0_wrap_J9_floorMod_7cf53 rfl rfl rfl hdJ9_floorMod_7cf53 ⟨Nat.le_of_ble_eq_true rfl, Nat.le_of_ble_eq_true rfl⟩) tt_pre rfl rfl hl.1 rfl (lv_room (Nat.le_of_ble_eq_true rfl)) dX0_wrap_3 ⟨Nat.le_of_ble_eq_true rfl, Nat.le_of_ble_eq_true rfl⟩) ?_
  have hm_3 := md_lt v
  exact W.iret hx hb hr (fun t ht _ => ⟨rfl, ht⟩) (fun _ h => nomatch h) dX0_wrap_6

set_option maxHeartbeats 4000000 in
set_option maxRecDepth 100000 in
theorem mX0_codeOf (l : Launch) (k n : Nat) : rd l yX0_codeOf wsX0_codeOf { frames := 0, cells := 0, slots := 0, locals := 0 } [.int (iI ((k : Nat) : Int)), .int (iI ((n : Nat) : Int))] tt_ (some (.int (iI ((12 * k + n : Nat) : Int)))) := by
  refine Met.ofW (cc := cX0_codeOf) (maxL := 2) (ret := (some .int)) (by decide) rfl ?_
  intro P0 e s m args below meth c s₁ B hml hv
  obtain ⟨rfl, -⟩ := hv
  have hx := B.exec
  have hb := B.bytes
  have hr := B.returns
  have hts := atoms_spec (ws := wsX0_codeOf) B.pre
  have hown : s.vm.findClass RX0 = some m.cls := findClass_of_methodNamed B.named
  have hlocks := B.notSynchronized
  have hl := lv_entry ([.int (iI ((k : Nat) : Int)), .int (iI ((n : Nat) : Int))]) (n := 2) (Nat.le_of_ble_eq_true rfl)
  rw [lg_entry_eq]
  generalize (lg_sl ([.int (iI ((k : Nat) : Int)), .int (iI ((n : Nat) : Int))]) ++ List.replicate (2 - (lg_sl ([.int (iI ((k : Nat) : Int)), .int (iI ((n : Nat) : Int))])).length) Slot.unset).toArray = ls at hl ⊢
  have hl : lv_has ls 2 [(0, .int (iI ((k : Nat) : Int))), (1, .int (iI ((n : Nat) : Int)))] := hl
  refine ib_bi hx hb dX0_codeOf_0 (by decide) ?_
  refine lv_iload_n hx hb dX0_codeOf_2 rfl (lv_at hl 0 rfl) ?_
  refine ib_mul (z := ((12 * k : Nat) : Int)) hx hb dX0_codeOf_3 (by first | omega | rfl | (push_cast; rfl)) ?_
  refine lv_iload_n hx hb dX0_codeOf_4 rfl (lv_at hl 1 rfl) ?_
  refine ib_add (z := (((12 * k) + n : Nat) : Int)) hx hb dX0_codeOf_5 (by omega) ?_
  refine st_i (y := iI ((12 * k + n : Nat) : Int)) (congrArg iI (by omega)) ?_
  exact W.iret hx hb hr (fun t ht _ => ⟨rfl, ht⟩) (fun _ h => nomatch h) dX0_codeOf_6

set_option maxHeartbeats 4000000 in
set_option maxRecDepth 100000 in
theorem mX0_intervalAt (l : Launch) (x : Int64) (i : Nat) (h : i < 15) : rd l yX0_intervalAt wsX0_intervalAt { frames := 2, cells := 0, slots := 0, locals := 42 } [.long x, .int (iI ((i : Nat) : Int))] tt_ (some (.int (iI ((md (((ent x (i + 1) : Nat) : Int) - ((ent x i : Nat) : Int)) : Nat) : Int)))) := by
  refine Met.ofW (cc := cX0_intervalAt) (maxL := 3) (ret := (some .int)) (by decide) rfl ?_
  intro P0 e s m args below meth c s₁ B hml hv
  obtain ⟨rfl, -⟩ := hv
  have hx := B.exec
  have hb := B.bytes
  have hr := B.returns
  have hts := atoms_spec (ws := wsX0_intervalAt) B.pre
  have hown : s.vm.findClass RX0 = some m.cls := findClass_of_methodNamed B.named
  have hlocks := B.notSynchronized
  have hl := lv_entry ([.long x, .int (iI ((i : Nat) : Int))]) (n := 3) (Nat.le_of_ble_eq_true rfl)
  rw [lg_entry_eq]
  generalize (lg_sl ([.long x, .int (iI ((i : Nat) : Int))]) ++ List.replicate (3 - (lg_sl ([.long x, .int (iI ((i : Nat) : Int))])).length) Slot.unset).toArray = ls at hl ⊢
  have hl : lv_has ls 3 [(0, .long x), (2, .int (iI ((i : Nat) : Int)))] := hl
  refine lv_lload_n hx hb dX0_intervalAt_0 rfl (lv_at hl 0 rfl) ?_
  refine lv_iload_n hx hb dX0_intervalAt_1 rfl (lv_at hl 1 rfl) ?_
  refine ib_const hx hb dX0_intervalAt_2 ?_
  refine ib_add (z := ((i + 1 : Nat) : Int)) hx hb dX0_intervalAt_3 (by omega) ?_
  refine rd_call (va_runS (As := [.long x, .int (iI ((i + 1 : Nat) : Int))]) (rest := []) ⟨hx, hb, hml, hown, hts⟩ (mX0_entryAt l x (i + 1) (by omega)) (va_cwS 2 hts gX0_intervalAt_X0_entryAt rfl rfl rfl hdX0_entryAt ⟨Nat.le_of_ble_eq_true rfl, Nat.le_of_ble_eq_true rfl⟩) tt_pre rfl rfl hl.1 rfl (lv_room (Nat.le_of_ble_eq_true rfl)) dX0_intervalAt_4 ⟨Nat.le_of_ble_eq_true rfl, Nat.le_of_ble_eq_true rfl⟩) ?_
  have he_4 := ent_lt x (i + 1)
  refine lv_lload_n hx hb dX0_intervalAt_7 rfl (lv_at hl 0 rfl) ?_
  refine lv_iload_n hx hb dX0_intervalAt_8 rfl (lv_at hl 1 rfl) ?_
  refine rd_call (va_runS (As := [.long x, .int (iI ((i : Nat) : Int))]) (rest := [.int (iI ((ent x (i + 1) : Nat) : Int))]) ⟨hx, hb, hml, hown, hts⟩ (mX0_entryAt l x i (by omega)) (va_cwS 2 hts gX0_intervalAt_X0_entryAt rfl rfl rfl hdX0_entryAt ⟨Nat.le_of_ble_eq_true rfl, Nat.le_of_ble_eq_true rfl⟩) tt_pre rfl rfl hl.1 rfl (lv_room (Nat.le_of_ble_eq_true rfl)) dX0_intervalAt_9 ⟨Nat.le_of_ble_eq_true rfl, Nat.le_of_ble_eq_true rfl⟩) ?_
  have he_9 := ent_lt x i
  refine ib_sub (z := ((ent x (i + 1) : Nat) : Int) - ((ent x i : Nat) : Int)) hx hb dX0_intervalAt_12 (by omega) ?_
  refine rd_call (va_runS (As := [.int (iI (((ent x (i + 1) : Nat) : Int) - ((ent x i : Nat) : Int)))]) (rest := []) ⟨hx, hb, hml, hown, hts⟩ (mX0_wrap l (((ent x (i + 1) : Nat) : Int) - ((ent x i : Nat) : Int)) ⟨by omega, by omega⟩) (va_cwS 1 hts gX0_intervalAt_X0_wrap rfl rfl rfl hdX0_wrap ⟨Nat.le_of_ble_eq_true rfl, Nat.le_of_ble_eq_true rfl⟩) tt_pre rfl rfl hl.1 rfl (lv_room (Nat.le_of_ble_eq_true rfl)) dX0_intervalAt_13 ⟨Nat.le_of_ble_eq_true rfl, Nat.le_of_ble_eq_true rfl⟩) ?_
  have hm_13 := md_lt (((ent x (i + 1) : Nat) : Int) - ((ent x i : Nat) : Int))
  exact W.iret hx hb hr (fun t ht _ => ⟨rfl, ht⟩) (fun _ h => nomatch h) dX0_intervalAt_16

set_option maxHeartbeats 4000000 in
set_option maxRecDepth 100000 in
theorem mX0_placeIn (l : Launch) (x : Int64) (t : Nat) (h : t < 16) : rd l yX0_placeIn wsX0_placeIn { frames := 1, cells := 0, slots := 0, locals := 22 } [.long x, .int (iI ((t : Nat) : Int))] tt_ (some (.int (iI (pin x t)))) := by
  refine Met.ofW (cc := cX0_placeIn) (maxL := 4) (ret := (some .int)) (by decide) rfl ?_
  intro P0 e s m args below meth c s₁ B hml hv
  obtain ⟨rfl, -⟩ := hv
  have hx := B.exec
  have hb := B.bytes
  have hr := B.returns
  have hts := atoms_spec (ws := wsX0_placeIn) B.pre
  have hown : s.vm.findClass RX0 = some m.cls := findClass_of_methodNamed B.named
  have hlocks := B.notSynchronized
  have hl := lv_entry ([.long x, .int (iI ((t : Nat) : Int))]) (n := 4) (Nat.le_of_ble_eq_true rfl)
  rw [lg_entry_eq]
  generalize (lg_sl ([.long x, .int (iI ((t : Nat) : Int))]) ++ List.replicate (4 - (lg_sl ([.long x, .int (iI ((t : Nat) : Int))])).length) Slot.unset).toArray = ls at hl ⊢
  have hl : lv_has ls 4 [(0, .long x), (2, .int (iI ((t : Nat) : Int)))] := hl
  refine ib_const hx hb dX0_placeIn_0 ?_
  refine lv_istore_n (lv' := [(3, .int (iI 0)), (0, .long x), (2, .int (iI ((t : Nat) : Int)))]) hx hb dX0_placeIn_1 rfl hl (by decide) rfl (fun ls hl => ?_)
  have lp_2_1 : ∀ (j n : Nat), n + j = 12 → pin x t = ff (fun i => decide (ent x i = t)) j n → ∀ ls : Array Slot, lv_has ls 4 [(0, .long x), (2, .int (iI ((t : Nat) : Int))), (3, .int (iI ((n : Nat) : Int)))] → W P0 l e (headSpec wsX0_placeIn { frames := 1, cells := 0, slots := 0, locals := 22 }).room s m ([.long x, .int (iI ((t : Nat) : Int))] : List Value).toArray below meth c s.heap [] 0 0 (MQ below (rdQ (some (.int (iI (pin x t))))) ([.long x, .int (iI ((t : Nat) : Int))] : List Value).toArray s 0 0 (fun _ => False)) (F0 m 2 ls []) := by
    intro j
    induction j with
    | zero =>
      intro n hn_2 hq ls hl
      refine lv_iload_n hx hb dX0_placeIn_2 rfl (lv_at hl 2 rfl) ?_
      refine ib_bi hx hb dX0_placeIn_3 (by decide) ?_
      refine ib_icmp_ge (tgt := 25) hx hb dX0_placeIn_5 (by decide) ⟨by omega, by omega⟩ ⟨by omega, by omega⟩ (fun c_5 => ?_) (fun c_5 => absurd c_5 (by omega))
      refine ib_const hx hb dX0_placeIn_25 ?_
      refine st_i (y := iI (pin x t)) (congrArg iI (by rw [hq]; rfl)) ?_
      exact W.iret hx hb hr (fun t ht _ => ⟨rfl, ht⟩) (fun _ h => nomatch h) dX0_placeIn_26
    | succ j ih_2_1 =>
      intro n hn_2 hq ls hl
      refine lv_iload_n hx hb dX0_placeIn_2 rfl (lv_at hl 2 rfl) ?_
      refine ib_bi hx hb dX0_placeIn_3 (by decide) ?_
      refine ib_icmp_ge (tgt := 25) hx hb dX0_placeIn_5 (by decide) ⟨by omega, by omega⟩ ⟨by omega, by omega⟩ (fun c_5 => absurd c_5 (by omega)) (fun c_5 => ?_)
      refine lv_lload_n hx hb dX0_placeIn_8 rfl (lv_at hl 0 rfl) ?_
      refine lv_iload_n hx hb dX0_placeIn_9 rfl (lv_at hl 2 rfl) ?_
      refine rd_call (va_runS (As := [.long x, .int (iI ((n : Nat) : Int))]) (rest := []) ⟨hx, hb, hml, hown, hts⟩ (mX0_entryAt l x n (by omega)) (va_cwS 2 hts gX0_placeIn_X0_entryAt rfl rfl rfl hdX0_entryAt ⟨Nat.le_of_ble_eq_true rfl, Nat.le_of_ble_eq_true rfl⟩) tt_pre rfl rfl hl.1 rfl (lv_room (Nat.le_of_ble_eq_true rfl)) dX0_placeIn_10 ⟨Nat.le_of_ble_eq_true rfl, Nat.le_of_ble_eq_true rfl⟩) ?_
      have he_10 := ent_lt x n
      refine lv_iload_n hx hb dX0_placeIn_13 rfl (lv_at hl 1 rfl) ?_
      refine ib_icmp_ne (tgt := 19) hx hb dX0_placeIn_14 (by decide) ⟨by omega, by omega⟩ ⟨by omega, by omega⟩ (fun c_14 => ?_) (fun c_14 => ?_)
      · skip
        refine lv_iinc (v := iI ((n + 1 : Nat) : Int)) (lv' := [(3, .int (iI ((n + 1 : Nat) : Int))), (0, .long x), (2, .int (iI ((t : Nat) : Int)))]) hx hb dX0_placeIn_19 hl (k := 2) rfl (iI_inc (by omega)) (by decide) rfl (fun ls hl => ?_)
        refine lv_goto (tgt := 2) hx hb dX0_placeIn_22 (by decide) ?_
        exact ih_2_1 (n + 1) (by omega) (hq.trans (ff_f (decide_eq_false (fun q => c_14 (congrArg Int.ofNat q))))) _ (lv_sub hl [1, 2, 0] rfl)
      · skip
        refine lv_iload_n hx hb dX0_placeIn_17 rfl (lv_at hl 2 rfl) ?_
        refine st_i (y := iI (pin x t)) (congrArg iI (by rw [hq, ff_t (decide_eq_true (by omega))])) ?_
        exact W.iret hx hb hr (fun t ht _ => ⟨rfl, ht⟩) (fun _ h => nomatch h) dX0_placeIn_18
  exact lp_2_1 12 0 (by omega) (rfl) _ (lv_sub hl [1, 2, 0] rfl)

set_option maxHeartbeats 4000000 in
set_option maxRecDepth 100000 in
theorem mX0_formWith (l : Launch) (x : Int64) (code : Nat) (h : code < 48) : rd l yX0_formWith wsX0_formWith { frames := 2, cells := 0, slots := 0, locals := 42 } [.long x, .int (iI ((code : Nat) : Int))] tt_ (some (.long (fw x code))) := by
  refine Met.ofW (cc := cX0_formWith) (maxL := 13) (ret := (some .long)) (by decide) rfl ?_
  intro P0 e s m args below meth c s₁ B hml hv
  obtain ⟨rfl, -⟩ := hv
  have hx := B.exec
  have hb := B.bytes
  have hr := B.returns
  have hts := atoms_spec (ws := wsX0_formWith) B.pre
  have hown : s.vm.findClass RX0 = some m.cls := findClass_of_methodNamed B.named
  have hlocks := B.notSynchronized
  have hl := lv_entry ([.long x, .int (iI ((code : Nat) : Int))]) (n := 13) (Nat.le_of_ble_eq_true rfl)
  rw [lg_entry_eq]
  generalize (lg_sl ([.long x, .int (iI ((code : Nat) : Int))]) ++ List.replicate (13 - (lg_sl ([.long x, .int (iI ((code : Nat) : Int))])).length) Slot.unset).toArray = ls at hl ⊢
  have hl : lv_has ls 13 [(0, .long x), (2, .int (iI ((code : Nat) : Int)))] := hl
  have hk : code / 12 = 0 ∨ code / 12 = 1 ∨ code / 12 = 2 ∨ code / 12 = 3 := by omega
  rcases hk with hk | hk | hk | hk
  · skip
    refine lv_iload_n hx hb dX0_formWith_0 rfl (lv_at hl 1 rfl) ?_
    refine ib_bi hx hb dX0_formWith_1 (by decide) ?_
    refine ib_div (z := ((code / 12 : Nat) : Int)) hx hb dX0_formWith_3 (by omega) (by omega) (by omega) (by omega) (by first | omega | rfl) ?_
    refine lv_istore_n (lv' := [(3, .int (iI ((code / 12 : Nat) : Int))), (0, .long x), (2, .int (iI ((code : Nat) : Int)))]) hx hb dX0_formWith_4 rfl hl (by decide) rfl (fun ls hl => ?_)
    refine lv_iload_n hx hb dX0_formWith_5 rfl (lv_at hl 2 rfl) ?_
    refine ib_bi hx hb dX0_formWith_6 (by decide) ?_
    refine ib_rem (z := ((code % 12 : Nat) : Int)) hx hb dX0_formWith_8 (by omega) (by omega) (by omega) (by omega) (by first | omega | rfl) ?_
    refine lv_istore (lv' := [(4, .int (iI ((code % 12 : Nat) : Int))), (3, .int (iI ((code / 12 : Nat) : Int))), (0, .long x), (2, .int (iI ((code : Nat) : Int)))]) hx hb dX0_formWith_9 hl (by decide) rfl (fun ls hl => ?_)
    refine lv_iload_n hx hb dX0_formWith_11 rfl (lv_at hl 1 rfl) ?_
    refine ib_const hx hb dX0_formWith_12 ?_
    refine ib_icmp_eq (tgt := 21) hx hb dX0_formWith_13 (by decide) ⟨by omega, by omega⟩ ⟨by omega, by omega⟩ (fun c_13 => absurd c_13 (by omega)) (fun c_13 => ?_)
    refine lv_iload_n hx hb dX0_formWith_16 rfl (lv_at hl 1 rfl) ?_
    refine ib_const hx hb dX0_formWith_17 ?_
    refine ib_icmp_ne (tgt := 25) hx hb dX0_formWith_18 (by decide) ⟨by omega, by omega⟩ ⟨by omega, by omega⟩ (fun c_18 => ?_) (fun c_18 => absurd c_18 (by omega))
    refine ib_const hx hb dX0_formWith_25 ?_
    refine lv_istore (lv' := [(5, .int (iI 0)), (4, .int (iI ((code % 12 : Nat) : Int))), (3, .int (iI ((code / 12 : Nat) : Int))), (0, .long x), (2, .int (iI ((code : Nat) : Int)))]) hx hb dX0_formWith_26 hl (by decide) rfl (fun ls hl => ?_)
    refine lv_iload_n hx hb dX0_formWith_28 rfl (lv_at hl 2 rfl) ?_
    refine ib_const hx hb dX0_formWith_29 ?_
    refine ib_icmp_eq (tgt := 38) hx hb dX0_formWith_30 (by decide) ⟨by omega, by omega⟩ ⟨by omega, by omega⟩ (fun c_30 => absurd c_30 (by omega)) (fun c_30 => ?_)
    refine lv_iload_n hx hb dX0_formWith_33 rfl (lv_at hl 2 rfl) ?_
    refine ib_const hx hb dX0_formWith_34 ?_
    refine ib_icmp_ne (tgt := 42) hx hb dX0_formWith_35 (by decide) ⟨by omega, by omega⟩ ⟨by omega, by omega⟩ (fun c_35 => ?_) (fun c_35 => absurd c_35 (by omega))
    refine ib_const hx hb dX0_formWith_42 ?_
    refine lv_istore (lv' := [(6, .int (iI 0)), (5, .int (iI 0)), (4, .int (iI ((code % 12 : Nat) : Int))), (3, .int (iI ((code / 12 : Nat) : Int))), (0, .long x), (2, .int (iI ((code : Nat) : Int)))]) hx hb dX0_formWith_43 hl (by decide) rfl (fun ls hl => ?_)
    refine lv_lload_n hx hb dX0_formWith_45 rfl (lv_at hl 4 rfl) ?_
    refine ib_const hx hb dX0_formWith_46 ?_
    refine rd_call (va_runS (As := [.long x, .int (iI 0)]) (rest := []) ⟨hx, hb, hml, hown, hts⟩ (mX0_entryAt l x 0 (by omega)) (va_cwS 2 hts gX0_formWith_X0_entryAt rfl rfl rfl hdX0_entryAt ⟨Nat.le_of_ble_eq_true rfl, Nat.le_of_ble_eq_true rfl⟩) tt_pre rfl rfl hl.1 rfl (lv_room (Nat.le_of_ble_eq_true rfl)) dX0_formWith_47 ⟨Nat.le_of_ble_eq_true rfl, Nat.le_of_ble_eq_true rfl⟩) ?_
    have he_47 := ent_lt x 0
    refine lv_istore (lv' := [(7, .int (iI ((ent x 0 : Nat) : Int))), (6, .int (iI 0)), (5, .int (iI 0)), (4, .int (iI ((code % 12 : Nat) : Int))), (3, .int (iI ((code / 12 : Nat) : Int))), (0, .long x), (2, .int (iI ((code : Nat) : Int)))]) hx hb dX0_formWith_50 hl (by decide) rfl (fun ls hl => ?_)
    refine lv_lconst (v := 0) hx hb dX0_formWith_52 (by decide) ?_
    refine lv_lstore (lv' := [(8, .long (0 : Int64)), (7, .int (iI ((ent x 0 : Nat) : Int))), (6, .int (iI 0)), (5, .int (iI 0)), (4, .int (iI ((code % 12 : Nat) : Int))), (3, .int (iI ((code / 12 : Nat) : Int))), (0, .long x), (2, .int (iI ((code : Nat) : Int)))]) hx hb dX0_formWith_53 hl (by decide) rfl (fun ls hl => ?_)
    refine ib_const hx hb dX0_formWith_55 ?_
    refine lv_istore (lv' := [(10, .int (iI 0)), (8, .long (0 : Int64)), (7, .int (iI ((ent x 0 : Nat) : Int))), (6, .int (iI 0)), (5, .int (iI 0)), (4, .int (iI ((code % 12 : Nat) : Int))), (3, .int (iI ((code / 12 : Nat) : Int))), (0, .long x), (2, .int (iI ((code : Nat) : Int)))]) hx hb dX0_formWith_56 hl (by decide) rfl (fun ls hl => ?_)
    have lp_58_1 : ∀ (j n : Nat), n + j = 12 → ∀ ls : Array Slot, lv_has ls 13 [(0, .long x), (4, .int (iI ((code % 12 : Nat) : Int))), (5, .int (iI 0)), (6, .int (iI 0)), (7, .int (iI ((ent x 0 : Nat) : Int))), (8, .long (fwl x code n)), (10, .int (iI ((n : Nat) : Int)))] → W P0 l e (headSpec wsX0_formWith { frames := 2, cells := 0, slots := 0, locals := 42 }).room s m ([.long x, .int (iI ((code : Nat) : Int))] : List Value).toArray below meth c s.heap [] 0 0 (MQ below (rdQ (some (.long (fw x code)))) ([.long x, .int (iI ((code : Nat) : Int))] : List Value).toArray s 0 0 (fun _ => False)) (F0 m 58 ls []) := by
      intro j
      induction j with
      | zero =>
        intro n hn_58  ls hl
        have he0 := ent_lt x 0
        refine lv_iload hx hb dX0_formWith_58 (lv_at hl 6 rfl) ?_
        refine ib_bi hx hb dX0_formWith_60 (by decide) ?_
        refine ib_icmp_ge (tgt := 129) hx hb dX0_formWith_62 (by decide) ⟨by omega, by omega⟩ ⟨by omega, by omega⟩ (fun c_62 => ?_) (fun c_62 => absurd c_62 (by omega))
        refine lv_lload hx hb dX0_formWith_129 (lv_at hl 5 rfl) ?_
        refine st_l (y := fw x code) (congrArg (fwl x code) (show n = 12 by omega)) ?_
        exact W.lret hx hb hr (fun t ht _ => ⟨rfl, ht⟩) (fun _ h => nomatch h) dX0_formWith_131
      | succ j ih_58_1 =>
        intro n hn_58  ls hl
        have he0 := ent_lt x 0
        refine lv_iload hx hb dX0_formWith_58 (lv_at hl 6 rfl) ?_
        refine ib_bi hx hb dX0_formWith_60 (by decide) ?_
        refine ib_icmp_ge (tgt := 129) hx hb dX0_formWith_62 (by decide) ⟨by omega, by omega⟩ ⟨by omega, by omega⟩ (fun c_62 => absurd c_62 (by omega)) (fun c_62 => ?_)
        refine lv_lload_n hx hb dX0_formWith_65 rfl (lv_at hl 0 rfl) ?_
        refine lv_iload hx hb dX0_formWith_66 (lv_at hl 6 rfl) ?_
        refine rd_call (va_runS (As := [.long x, .int (iI ((n : Nat) : Int))]) (rest := []) ⟨hx, hb, hml, hown, hts⟩ (mX0_entryAt l x n (by omega)) (va_cwS 2 hts gX0_formWith_X0_entryAt rfl rfl rfl hdX0_entryAt ⟨Nat.le_of_ble_eq_true rfl, Nat.le_of_ble_eq_true rfl⟩) tt_pre rfl rfl hl.1 rfl (lv_room (Nat.le_of_ble_eq_true rfl)) dX0_formWith_68 ⟨Nat.le_of_ble_eq_true rfl, Nat.le_of_ble_eq_true rfl⟩) ?_
        have he_68 := ent_lt x n
        refine lv_iload hx hb dX0_formWith_71 (lv_at hl 4 rfl) ?_
        refine ib_sub (z := ((ent x n : Nat) : Int) - ((ent x 0 : Nat) : Int)) hx hb dX0_formWith_73 (by omega) ?_
        refine lv_istore (lv' := [(11, .int (iI (((ent x n : Nat) : Int) - ((ent x 0 : Nat) : Int)))), (0, .long x), (4, .int (iI ((code % 12 : Nat) : Int))), (5, .int (iI 0)), (6, .int (iI 0)), (7, .int (iI ((ent x 0 : Nat) : Int))), (8, .long (fwl x code n)), (10, .int (iI ((n : Nat) : Int)))]) hx hb dX0_formWith_74 hl (by decide) rfl (fun ls hl => ?_)
        refine lv_iload hx hb dX0_formWith_76 (lv_at hl 3 rfl) ?_
        refine ib_if_eq (tgt := 89) hx hb dX0_formWith_78 (by decide) ⟨by omega, by omega⟩ (fun c_78 => ?_) (fun c_78 => absurd c_78 (by decide))
        refine lv_iload hx hb dX0_formWith_89 (lv_at hl 2 rfl) ?_
        refine lv_iload hx hb dX0_formWith_91 (lv_at hl 0 rfl) ?_
        refine ib_add (z := ((code % 12 : Nat) : Int) + (((ent x n : Nat) : Int) - ((ent x 0 : Nat) : Int))) hx hb dX0_formWith_93 (by omega) ?_
        refine rd_call (va_runS (As := [.int (iI (((code % 12 : Nat) : Int) + (((ent x n : Nat) : Int) - ((ent x 0 : Nat) : Int))))]) (rest := []) ⟨hx, hb, hml, hown, hts⟩ (mX0_wrap l (((code % 12 : Nat) : Int) + (((ent x n : Nat) : Int) - ((ent x 0 : Nat) : Int))) ⟨by omega, by omega⟩) (va_cwS 1 hts gX0_formWith_X0_wrap rfl rfl rfl hdX0_wrap ⟨Nat.le_of_ble_eq_true rfl, Nat.le_of_ble_eq_true rfl⟩) tt_pre rfl rfl hl.1 rfl (lv_room (Nat.le_of_ble_eq_true rfl)) dX0_formWith_94 ⟨Nat.le_of_ble_eq_true rfl, Nat.le_of_ble_eq_true rfl⟩) ?_
        have hm_94 := md_lt (((code % 12 : Nat) : Int) + (((ent x n : Nat) : Int) - ((ent x 0 : Nat) : Int)))
        refine lv_istore (lv' := [(12, .int (iI ((md (((code % 12 : Nat) : Int) + (((ent x n : Nat) : Int) - ((ent x 0 : Nat) : Int))) : Nat) : Int))), (11, .int (iI (((ent x n : Nat) : Int) - ((ent x 0 : Nat) : Int)))), (0, .long x), (4, .int (iI ((code % 12 : Nat) : Int))), (5, .int (iI 0)), (6, .int (iI 0)), (7, .int (iI ((ent x 0 : Nat) : Int))), (8, .long (fwl x code n)), (10, .int (iI ((n : Nat) : Int)))]) hx hb dX0_formWith_97 hl (by decide) rfl (fun ls hl => ?_)
        refine lv_lload hx hb dX0_formWith_99 (lv_at hl 7 rfl) ?_
        refine lv_iload hx hb dX0_formWith_101 (lv_at hl 5 rfl) ?_
        refine ib_if_eq (tgt := 114) hx hb dX0_formWith_103 (by decide) ⟨by omega, by omega⟩ (fun c_103 => ?_) (fun c_103 => absurd c_103 (by decide))
        refine lv_iload hx hb dX0_formWith_114 (lv_at hl 8 rfl) ?_
        refine lv_iload hx hb dX0_formWith_116 (lv_at hl 0 rfl) ?_
        refine rd_call (va_runS (As := [.long (fwl x code n), .int (iI ((n : Nat) : Int)), .int (iI ((md (((code % 12 : Nat) : Int) + (((ent x n : Nat) : Int) - ((ent x 0 : Nat) : Int))) : Nat) : Int))]) (rest := []) ⟨hx, hb, hml, hown, hts⟩ (mX0_withEntry l (fwl x code n) n (md (((code % 12 : Nat) : Int) + (((ent x n : Nat) : Int) - ((ent x 0 : Nat) : Int)))) (by omega)) (va_cwS 3 hts gX0_formWith_X0_withEntry rfl rfl rfl hdX0_withEntry ⟨Nat.le_of_ble_eq_true rfl, Nat.le_of_ble_eq_true rfl⟩) tt_pre rfl rfl hl.1 rfl (lv_room (Nat.le_of_ble_eq_true rfl)) dX0_formWith_118 ⟨Nat.le_of_ble_eq_true rfl, Nat.le_of_ble_eq_true rfl⟩) ?_
        refine st_l (y := fwl x code (n + 1)) (by simp [fwl, fwp, fwt, hk]) ?_
        refine lv_lstore (lv' := [(8, .long (fwl x code (n + 1))), (12, .int (iI ((md (((code % 12 : Nat) : Int) + (((ent x n : Nat) : Int) - ((ent x 0 : Nat) : Int))) : Nat) : Int))), (11, .int (iI (((ent x n : Nat) : Int) - ((ent x 0 : Nat) : Int)))), (0, .long x), (4, .int (iI ((code % 12 : Nat) : Int))), (5, .int (iI 0)), (6, .int (iI 0)), (7, .int (iI ((ent x 0 : Nat) : Int))), (10, .int (iI ((n : Nat) : Int)))]) hx hb dX0_formWith_121 hl (by decide) rfl (fun ls hl => ?_)
        refine lv_iinc (v := iI ((n + 1 : Nat) : Int)) (lv' := [(10, .int (iI ((n + 1 : Nat) : Int))), (8, .long (fwl x code (n + 1))), (12, .int (iI ((md (((code % 12 : Nat) : Int) + (((ent x n : Nat) : Int) - ((ent x 0 : Nat) : Int))) : Nat) : Int))), (11, .int (iI (((ent x n : Nat) : Int) - ((ent x 0 : Nat) : Int)))), (0, .long x), (4, .int (iI ((code % 12 : Nat) : Int))), (5, .int (iI 0)), (6, .int (iI 0)), (7, .int (iI ((ent x 0 : Nat) : Int)))]) hx hb dX0_formWith_123 hl (k := 8) rfl (iI_inc (by omega)) (by decide) rfl (fun ls hl => ?_)
        refine lv_goto (tgt := 58) hx hb dX0_formWith_126 (by decide) ?_
        exact ih_58_1 (n + 1) (by omega)  _ (lv_sub hl [4, 5, 6, 7, 8, 1, 0] rfl)
    exact lp_58_1 12 0 (by omega)  _ (lv_sub hl [7, 5, 4, 3, 2, 1, 0] rfl)
  · skip
    refine lv_iload_n hx hb dX0_formWith_0 rfl (lv_at hl 1 rfl) ?_
    refine ib_bi hx hb dX0_formWith_1 (by decide) ?_
    refine ib_div (z := ((code / 12 : Nat) : Int)) hx hb dX0_formWith_3 (by omega) (by omega) (by omega) (by omega) (by first | omega | rfl) ?_
    refine lv_istore_n (lv' := [(3, .int (iI ((code / 12 : Nat) : Int))), (0, .long x), (2, .int (iI ((code : Nat) : Int)))]) hx hb dX0_formWith_4 rfl hl (by decide) rfl (fun ls hl => ?_)
    refine lv_iload_n hx hb dX0_formWith_5 rfl (lv_at hl 2 rfl) ?_
    refine ib_bi hx hb dX0_formWith_6 (by decide) ?_
    refine ib_rem (z := ((code % 12 : Nat) : Int)) hx hb dX0_formWith_8 (by omega) (by omega) (by omega) (by omega) (by first | omega | rfl) ?_
    refine lv_istore (lv' := [(4, .int (iI ((code % 12 : Nat) : Int))), (3, .int (iI ((code / 12 : Nat) : Int))), (0, .long x), (2, .int (iI ((code : Nat) : Int)))]) hx hb dX0_formWith_9 hl (by decide) rfl (fun ls hl => ?_)
    refine lv_iload_n hx hb dX0_formWith_11 rfl (lv_at hl 1 rfl) ?_
    refine ib_const hx hb dX0_formWith_12 ?_
    refine ib_icmp_eq (tgt := 21) hx hb dX0_formWith_13 (by decide) ⟨by omega, by omega⟩ ⟨by omega, by omega⟩ (fun c_13 => ?_) (fun c_13 => absurd c_13 (by omega))
    refine ib_const hx hb dX0_formWith_21 ?_
    refine lv_goto (tgt := 26) hx hb dX0_formWith_22 (by decide) ?_
    refine lv_istore (lv' := [(5, .int (iI 1)), (4, .int (iI ((code % 12 : Nat) : Int))), (3, .int (iI ((code / 12 : Nat) : Int))), (0, .long x), (2, .int (iI ((code : Nat) : Int)))]) hx hb dX0_formWith_26 hl (by decide) rfl (fun ls hl => ?_)
    refine lv_iload_n hx hb dX0_formWith_28 rfl (lv_at hl 2 rfl) ?_
    refine ib_const hx hb dX0_formWith_29 ?_
    refine ib_icmp_eq (tgt := 38) hx hb dX0_formWith_30 (by decide) ⟨by omega, by omega⟩ ⟨by omega, by omega⟩ (fun c_30 => absurd c_30 (by omega)) (fun c_30 => ?_)
    refine lv_iload_n hx hb dX0_formWith_33 rfl (lv_at hl 2 rfl) ?_
    refine ib_const hx hb dX0_formWith_34 ?_
    refine ib_icmp_ne (tgt := 42) hx hb dX0_formWith_35 (by decide) ⟨by omega, by omega⟩ ⟨by omega, by omega⟩ (fun c_35 => ?_) (fun c_35 => absurd c_35 (by omega))
    refine ib_const hx hb dX0_formWith_42 ?_
    refine lv_istore (lv' := [(6, .int (iI 0)), (5, .int (iI 1)), (4, .int (iI ((code % 12 : Nat) : Int))), (3, .int (iI ((code / 12 : Nat) : Int))), (0, .long x), (2, .int (iI ((code : Nat) : Int)))]) hx hb dX0_formWith_43 hl (by decide) rfl (fun ls hl => ?_)
    refine lv_lload_n hx hb dX0_formWith_45 rfl (lv_at hl 4 rfl) ?_
    refine ib_const hx hb dX0_formWith_46 ?_
    refine rd_call (va_runS (As := [.long x, .int (iI 0)]) (rest := []) ⟨hx, hb, hml, hown, hts⟩ (mX0_entryAt l x 0 (by omega)) (va_cwS 2 hts gX0_formWith_X0_entryAt rfl rfl rfl hdX0_entryAt ⟨Nat.le_of_ble_eq_true rfl, Nat.le_of_ble_eq_true rfl⟩) tt_pre rfl rfl hl.1 rfl (lv_room (Nat.le_of_ble_eq_true rfl)) dX0_formWith_47 ⟨Nat.le_of_ble_eq_true rfl, Nat.le_of_ble_eq_true rfl⟩) ?_
    have he_47 := ent_lt x 0
    refine lv_istore (lv' := [(7, .int (iI ((ent x 0 : Nat) : Int))), (6, .int (iI 0)), (5, .int (iI 1)), (4, .int (iI ((code % 12 : Nat) : Int))), (3, .int (iI ((code / 12 : Nat) : Int))), (0, .long x), (2, .int (iI ((code : Nat) : Int)))]) hx hb dX0_formWith_50 hl (by decide) rfl (fun ls hl => ?_)
    refine lv_lconst (v := 0) hx hb dX0_formWith_52 (by decide) ?_
    refine lv_lstore (lv' := [(8, .long (0 : Int64)), (7, .int (iI ((ent x 0 : Nat) : Int))), (6, .int (iI 0)), (5, .int (iI 1)), (4, .int (iI ((code % 12 : Nat) : Int))), (3, .int (iI ((code / 12 : Nat) : Int))), (0, .long x), (2, .int (iI ((code : Nat) : Int)))]) hx hb dX0_formWith_53 hl (by decide) rfl (fun ls hl => ?_)
    refine ib_const hx hb dX0_formWith_55 ?_
    refine lv_istore (lv' := [(10, .int (iI 0)), (8, .long (0 : Int64)), (7, .int (iI ((ent x 0 : Nat) : Int))), (6, .int (iI 0)), (5, .int (iI 1)), (4, .int (iI ((code % 12 : Nat) : Int))), (3, .int (iI ((code / 12 : Nat) : Int))), (0, .long x), (2, .int (iI ((code : Nat) : Int)))]) hx hb dX0_formWith_56 hl (by decide) rfl (fun ls hl => ?_)
    have lp_58_2 : ∀ (j n : Nat), n + j = 12 → ∀ ls : Array Slot, lv_has ls 13 [(0, .long x), (4, .int (iI ((code % 12 : Nat) : Int))), (5, .int (iI 1)), (6, .int (iI 0)), (7, .int (iI ((ent x 0 : Nat) : Int))), (8, .long (fwl x code n)), (10, .int (iI ((n : Nat) : Int)))] → W P0 l e (headSpec wsX0_formWith { frames := 2, cells := 0, slots := 0, locals := 42 }).room s m ([.long x, .int (iI ((code : Nat) : Int))] : List Value).toArray below meth c s.heap [] 0 0 (MQ below (rdQ (some (.long (fw x code)))) ([.long x, .int (iI ((code : Nat) : Int))] : List Value).toArray s 0 0 (fun _ => False)) (F0 m 58 ls []) := by
      intro j
      induction j with
      | zero =>
        intro n hn_58  ls hl
        have he0 := ent_lt x 0
        refine lv_iload hx hb dX0_formWith_58 (lv_at hl 6 rfl) ?_
        refine ib_bi hx hb dX0_formWith_60 (by decide) ?_
        refine ib_icmp_ge (tgt := 129) hx hb dX0_formWith_62 (by decide) ⟨by omega, by omega⟩ ⟨by omega, by omega⟩ (fun c_62 => ?_) (fun c_62 => absurd c_62 (by omega))
        refine lv_lload hx hb dX0_formWith_129 (lv_at hl 5 rfl) ?_
        refine st_l (y := fw x code) (congrArg (fwl x code) (show n = 12 by omega)) ?_
        exact W.lret hx hb hr (fun t ht _ => ⟨rfl, ht⟩) (fun _ h => nomatch h) dX0_formWith_131
      | succ j ih_58_2 =>
        intro n hn_58  ls hl
        have he0 := ent_lt x 0
        refine lv_iload hx hb dX0_formWith_58 (lv_at hl 6 rfl) ?_
        refine ib_bi hx hb dX0_formWith_60 (by decide) ?_
        refine ib_icmp_ge (tgt := 129) hx hb dX0_formWith_62 (by decide) ⟨by omega, by omega⟩ ⟨by omega, by omega⟩ (fun c_62 => absurd c_62 (by omega)) (fun c_62 => ?_)
        refine lv_lload_n hx hb dX0_formWith_65 rfl (lv_at hl 0 rfl) ?_
        refine lv_iload hx hb dX0_formWith_66 (lv_at hl 6 rfl) ?_
        refine rd_call (va_runS (As := [.long x, .int (iI ((n : Nat) : Int))]) (rest := []) ⟨hx, hb, hml, hown, hts⟩ (mX0_entryAt l x n (by omega)) (va_cwS 2 hts gX0_formWith_X0_entryAt rfl rfl rfl hdX0_entryAt ⟨Nat.le_of_ble_eq_true rfl, Nat.le_of_ble_eq_true rfl⟩) tt_pre rfl rfl hl.1 rfl (lv_room (Nat.le_of_ble_eq_true rfl)) dX0_formWith_68 ⟨Nat.le_of_ble_eq_true rfl, Nat.le_of_ble_eq_true rfl⟩) ?_
        have he_68 := ent_lt x n
        refine lv_iload hx hb dX0_formWith_71 (lv_at hl 4 rfl) ?_
        refine ib_sub (z := ((ent x n : Nat) : Int) - ((ent x 0 : Nat) : Int)) hx hb dX0_formWith_73 (by omega) ?_
        refine lv_istore (lv' := [(11, .int (iI (((ent x n : Nat) : Int) - ((ent x 0 : Nat) : Int)))), (0, .long x), (4, .int (iI ((code % 12 : Nat) : Int))), (5, .int (iI 1)), (6, .int (iI 0)), (7, .int (iI ((ent x 0 : Nat) : Int))), (8, .long (fwl x code n)), (10, .int (iI ((n : Nat) : Int)))]) hx hb dX0_formWith_74 hl (by decide) rfl (fun ls hl => ?_)
        refine lv_iload hx hb dX0_formWith_76 (lv_at hl 3 rfl) ?_
        refine ib_if_eq (tgt := 89) hx hb dX0_formWith_78 (by decide) ⟨by omega, by omega⟩ (fun c_78 => absurd c_78 (by decide)) (fun c_78 => ?_)
        refine lv_iload hx hb dX0_formWith_81 (lv_at hl 2 rfl) ?_
        refine lv_iload hx hb dX0_formWith_83 (lv_at hl 0 rfl) ?_
        refine ib_sub (z := ((code % 12 : Nat) : Int) - (((ent x n : Nat) : Int) - ((ent x 0 : Nat) : Int))) hx hb dX0_formWith_85 (by omega) ?_
        refine lv_goto (tgt := 94) hx hb dX0_formWith_86 (by decide) ?_
        refine rd_call (va_runS (As := [.int (iI (((code % 12 : Nat) : Int) - (((ent x n : Nat) : Int) - ((ent x 0 : Nat) : Int))))]) (rest := []) ⟨hx, hb, hml, hown, hts⟩ (mX0_wrap l (((code % 12 : Nat) : Int) - (((ent x n : Nat) : Int) - ((ent x 0 : Nat) : Int))) ⟨by omega, by omega⟩) (va_cwS 1 hts gX0_formWith_X0_wrap rfl rfl rfl hdX0_wrap ⟨Nat.le_of_ble_eq_true rfl, Nat.le_of_ble_eq_true rfl⟩) tt_pre rfl rfl hl.1 rfl (lv_room (Nat.le_of_ble_eq_true rfl)) dX0_formWith_94 ⟨Nat.le_of_ble_eq_true rfl, Nat.le_of_ble_eq_true rfl⟩) ?_
        have hm_94 := md_lt (((code % 12 : Nat) : Int) - (((ent x n : Nat) : Int) - ((ent x 0 : Nat) : Int)))
        refine lv_istore (lv' := [(12, .int (iI ((md (((code % 12 : Nat) : Int) - (((ent x n : Nat) : Int) - ((ent x 0 : Nat) : Int))) : Nat) : Int))), (11, .int (iI (((ent x n : Nat) : Int) - ((ent x 0 : Nat) : Int)))), (0, .long x), (4, .int (iI ((code % 12 : Nat) : Int))), (5, .int (iI 1)), (6, .int (iI 0)), (7, .int (iI ((ent x 0 : Nat) : Int))), (8, .long (fwl x code n)), (10, .int (iI ((n : Nat) : Int)))]) hx hb dX0_formWith_97 hl (by decide) rfl (fun ls hl => ?_)
        refine lv_lload hx hb dX0_formWith_99 (lv_at hl 7 rfl) ?_
        refine lv_iload hx hb dX0_formWith_101 (lv_at hl 5 rfl) ?_
        refine ib_if_eq (tgt := 114) hx hb dX0_formWith_103 (by decide) ⟨by omega, by omega⟩ (fun c_103 => ?_) (fun c_103 => absurd c_103 (by decide))
        refine lv_iload hx hb dX0_formWith_114 (lv_at hl 8 rfl) ?_
        refine lv_iload hx hb dX0_formWith_116 (lv_at hl 0 rfl) ?_
        refine rd_call (va_runS (As := [.long (fwl x code n), .int (iI ((n : Nat) : Int)), .int (iI ((md (((code % 12 : Nat) : Int) - (((ent x n : Nat) : Int) - ((ent x 0 : Nat) : Int))) : Nat) : Int))]) (rest := []) ⟨hx, hb, hml, hown, hts⟩ (mX0_withEntry l (fwl x code n) n (md (((code % 12 : Nat) : Int) - (((ent x n : Nat) : Int) - ((ent x 0 : Nat) : Int)))) (by omega)) (va_cwS 3 hts gX0_formWith_X0_withEntry rfl rfl rfl hdX0_withEntry ⟨Nat.le_of_ble_eq_true rfl, Nat.le_of_ble_eq_true rfl⟩) tt_pre rfl rfl hl.1 rfl (lv_room (Nat.le_of_ble_eq_true rfl)) dX0_formWith_118 ⟨Nat.le_of_ble_eq_true rfl, Nat.le_of_ble_eq_true rfl⟩) ?_
        refine st_l (y := fwl x code (n + 1)) (by simp [fwl, fwp, fwt, hk]) ?_
        refine lv_lstore (lv' := [(8, .long (fwl x code (n + 1))), (12, .int (iI ((md (((code % 12 : Nat) : Int) - (((ent x n : Nat) : Int) - ((ent x 0 : Nat) : Int))) : Nat) : Int))), (11, .int (iI (((ent x n : Nat) : Int) - ((ent x 0 : Nat) : Int)))), (0, .long x), (4, .int (iI ((code % 12 : Nat) : Int))), (5, .int (iI 1)), (6, .int (iI 0)), (7, .int (iI ((ent x 0 : Nat) : Int))), (10, .int (iI ((n : Nat) : Int)))]) hx hb dX0_formWith_121 hl (by decide) rfl (fun ls hl => ?_)
        refine lv_iinc (v := iI ((n + 1 : Nat) : Int)) (lv' := [(10, .int (iI ((n + 1 : Nat) : Int))), (8, .long (fwl x code (n + 1))), (12, .int (iI ((md (((code % 12 : Nat) : Int) - (((ent x n : Nat) : Int) - ((ent x 0 : Nat) : Int))) : Nat) : Int))), (11, .int (iI (((ent x n : Nat) : Int) - ((ent x 0 : Nat) : Int)))), (0, .long x), (4, .int (iI ((code % 12 : Nat) : Int))), (5, .int (iI 1)), (6, .int (iI 0)), (7, .int (iI ((ent x 0 : Nat) : Int)))]) hx hb dX0_formWith_123 hl (k := 8) rfl (iI_inc (by omega)) (by decide) rfl (fun ls hl => ?_)
        refine lv_goto (tgt := 58) hx hb dX0_formWith_126 (by decide) ?_
        exact ih_58_2 (n + 1) (by omega)  _ (lv_sub hl [4, 5, 6, 7, 8, 1, 0] rfl)
    exact lp_58_2 12 0 (by omega)  _ (lv_sub hl [7, 5, 4, 3, 2, 1, 0] rfl)
  · skip
    refine lv_iload_n hx hb dX0_formWith_0 rfl (lv_at hl 1 rfl) ?_
    refine ib_bi hx hb dX0_formWith_1 (by decide) ?_
    refine ib_div (z := ((code / 12 : Nat) : Int)) hx hb dX0_formWith_3 (by omega) (by omega) (by omega) (by omega) (by first | omega | rfl) ?_
    refine lv_istore_n (lv' := [(3, .int (iI ((code / 12 : Nat) : Int))), (0, .long x), (2, .int (iI ((code : Nat) : Int)))]) hx hb dX0_formWith_4 rfl hl (by decide) rfl (fun ls hl => ?_)
    refine lv_iload_n hx hb dX0_formWith_5 rfl (lv_at hl 2 rfl) ?_
    refine ib_bi hx hb dX0_formWith_6 (by decide) ?_
    refine ib_rem (z := ((code % 12 : Nat) : Int)) hx hb dX0_formWith_8 (by omega) (by omega) (by omega) (by omega) (by first | omega | rfl) ?_
    refine lv_istore (lv' := [(4, .int (iI ((code % 12 : Nat) : Int))), (3, .int (iI ((code / 12 : Nat) : Int))), (0, .long x), (2, .int (iI ((code : Nat) : Int)))]) hx hb dX0_formWith_9 hl (by decide) rfl (fun ls hl => ?_)
    refine lv_iload_n hx hb dX0_formWith_11 rfl (lv_at hl 1 rfl) ?_
    refine ib_const hx hb dX0_formWith_12 ?_
    refine ib_icmp_eq (tgt := 21) hx hb dX0_formWith_13 (by decide) ⟨by omega, by omega⟩ ⟨by omega, by omega⟩ (fun c_13 => absurd c_13 (by omega)) (fun c_13 => ?_)
    refine lv_iload_n hx hb dX0_formWith_16 rfl (lv_at hl 1 rfl) ?_
    refine ib_const hx hb dX0_formWith_17 ?_
    refine ib_icmp_ne (tgt := 25) hx hb dX0_formWith_18 (by decide) ⟨by omega, by omega⟩ ⟨by omega, by omega⟩ (fun c_18 => ?_) (fun c_18 => absurd c_18 (by omega))
    refine ib_const hx hb dX0_formWith_25 ?_
    refine lv_istore (lv' := [(5, .int (iI 0)), (4, .int (iI ((code % 12 : Nat) : Int))), (3, .int (iI ((code / 12 : Nat) : Int))), (0, .long x), (2, .int (iI ((code : Nat) : Int)))]) hx hb dX0_formWith_26 hl (by decide) rfl (fun ls hl => ?_)
    refine lv_iload_n hx hb dX0_formWith_28 rfl (lv_at hl 2 rfl) ?_
    refine ib_const hx hb dX0_formWith_29 ?_
    refine ib_icmp_eq (tgt := 38) hx hb dX0_formWith_30 (by decide) ⟨by omega, by omega⟩ ⟨by omega, by omega⟩ (fun c_30 => ?_) (fun c_30 => absurd c_30 (by omega))
    refine ib_const hx hb dX0_formWith_38 ?_
    refine lv_goto (tgt := 43) hx hb dX0_formWith_39 (by decide) ?_
    refine lv_istore (lv' := [(6, .int (iI 1)), (5, .int (iI 0)), (4, .int (iI ((code % 12 : Nat) : Int))), (3, .int (iI ((code / 12 : Nat) : Int))), (0, .long x), (2, .int (iI ((code : Nat) : Int)))]) hx hb dX0_formWith_43 hl (by decide) rfl (fun ls hl => ?_)
    refine lv_lload_n hx hb dX0_formWith_45 rfl (lv_at hl 4 rfl) ?_
    refine ib_const hx hb dX0_formWith_46 ?_
    refine rd_call (va_runS (As := [.long x, .int (iI 0)]) (rest := []) ⟨hx, hb, hml, hown, hts⟩ (mX0_entryAt l x 0 (by omega)) (va_cwS 2 hts gX0_formWith_X0_entryAt rfl rfl rfl hdX0_entryAt ⟨Nat.le_of_ble_eq_true rfl, Nat.le_of_ble_eq_true rfl⟩) tt_pre rfl rfl hl.1 rfl (lv_room (Nat.le_of_ble_eq_true rfl)) dX0_formWith_47 ⟨Nat.le_of_ble_eq_true rfl, Nat.le_of_ble_eq_true rfl⟩) ?_
    have he_47 := ent_lt x 0
    refine lv_istore (lv' := [(7, .int (iI ((ent x 0 : Nat) : Int))), (6, .int (iI 1)), (5, .int (iI 0)), (4, .int (iI ((code % 12 : Nat) : Int))), (3, .int (iI ((code / 12 : Nat) : Int))), (0, .long x), (2, .int (iI ((code : Nat) : Int)))]) hx hb dX0_formWith_50 hl (by decide) rfl (fun ls hl => ?_)
    refine lv_lconst (v := 0) hx hb dX0_formWith_52 (by decide) ?_
    refine lv_lstore (lv' := [(8, .long (0 : Int64)), (7, .int (iI ((ent x 0 : Nat) : Int))), (6, .int (iI 1)), (5, .int (iI 0)), (4, .int (iI ((code % 12 : Nat) : Int))), (3, .int (iI ((code / 12 : Nat) : Int))), (0, .long x), (2, .int (iI ((code : Nat) : Int)))]) hx hb dX0_formWith_53 hl (by decide) rfl (fun ls hl => ?_)
    refine ib_const hx hb dX0_formWith_55 ?_
    refine lv_istore (lv' := [(10, .int (iI 0)), (8, .long (0 : Int64)), (7, .int (iI ((ent x 0 : Nat) : Int))), (6, .int (iI 1)), (5, .int (iI 0)), (4, .int (iI ((code % 12 : Nat) : Int))), (3, .int (iI ((code / 12 : Nat) : Int))), (0, .long x), (2, .int (iI ((code : Nat) : Int)))]) hx hb dX0_formWith_56 hl (by decide) rfl (fun ls hl => ?_)
    have lp_58_3 : ∀ (j n : Nat), n + j = 12 → ∀ ls : Array Slot, lv_has ls 13 [(0, .long x), (4, .int (iI ((code % 12 : Nat) : Int))), (5, .int (iI 0)), (6, .int (iI 1)), (7, .int (iI ((ent x 0 : Nat) : Int))), (8, .long (fwl x code n)), (10, .int (iI ((n : Nat) : Int)))] → W P0 l e (headSpec wsX0_formWith { frames := 2, cells := 0, slots := 0, locals := 42 }).room s m ([.long x, .int (iI ((code : Nat) : Int))] : List Value).toArray below meth c s.heap [] 0 0 (MQ below (rdQ (some (.long (fw x code)))) ([.long x, .int (iI ((code : Nat) : Int))] : List Value).toArray s 0 0 (fun _ => False)) (F0 m 58 ls []) := by
      intro j
      induction j with
      | zero =>
        intro n hn_58  ls hl
        have he0 := ent_lt x 0
        refine lv_iload hx hb dX0_formWith_58 (lv_at hl 6 rfl) ?_
        refine ib_bi hx hb dX0_formWith_60 (by decide) ?_
        refine ib_icmp_ge (tgt := 129) hx hb dX0_formWith_62 (by decide) ⟨by omega, by omega⟩ ⟨by omega, by omega⟩ (fun c_62 => ?_) (fun c_62 => absurd c_62 (by omega))
        refine lv_lload hx hb dX0_formWith_129 (lv_at hl 5 rfl) ?_
        refine st_l (y := fw x code) (congrArg (fwl x code) (show n = 12 by omega)) ?_
        exact W.lret hx hb hr (fun t ht _ => ⟨rfl, ht⟩) (fun _ h => nomatch h) dX0_formWith_131
      | succ j ih_58_3 =>
        intro n hn_58  ls hl
        have he0 := ent_lt x 0
        refine lv_iload hx hb dX0_formWith_58 (lv_at hl 6 rfl) ?_
        refine ib_bi hx hb dX0_formWith_60 (by decide) ?_
        refine ib_icmp_ge (tgt := 129) hx hb dX0_formWith_62 (by decide) ⟨by omega, by omega⟩ ⟨by omega, by omega⟩ (fun c_62 => absurd c_62 (by omega)) (fun c_62 => ?_)
        refine lv_lload_n hx hb dX0_formWith_65 rfl (lv_at hl 0 rfl) ?_
        refine lv_iload hx hb dX0_formWith_66 (lv_at hl 6 rfl) ?_
        refine rd_call (va_runS (As := [.long x, .int (iI ((n : Nat) : Int))]) (rest := []) ⟨hx, hb, hml, hown, hts⟩ (mX0_entryAt l x n (by omega)) (va_cwS 2 hts gX0_formWith_X0_entryAt rfl rfl rfl hdX0_entryAt ⟨Nat.le_of_ble_eq_true rfl, Nat.le_of_ble_eq_true rfl⟩) tt_pre rfl rfl hl.1 rfl (lv_room (Nat.le_of_ble_eq_true rfl)) dX0_formWith_68 ⟨Nat.le_of_ble_eq_true rfl, Nat.le_of_ble_eq_true rfl⟩) ?_
        have he_68 := ent_lt x n
        refine lv_iload hx hb dX0_formWith_71 (lv_at hl 4 rfl) ?_
        refine ib_sub (z := ((ent x n : Nat) : Int) - ((ent x 0 : Nat) : Int)) hx hb dX0_formWith_73 (by omega) ?_
        refine lv_istore (lv' := [(11, .int (iI (((ent x n : Nat) : Int) - ((ent x 0 : Nat) : Int)))), (0, .long x), (4, .int (iI ((code % 12 : Nat) : Int))), (5, .int (iI 0)), (6, .int (iI 1)), (7, .int (iI ((ent x 0 : Nat) : Int))), (8, .long (fwl x code n)), (10, .int (iI ((n : Nat) : Int)))]) hx hb dX0_formWith_74 hl (by decide) rfl (fun ls hl => ?_)
        refine lv_iload hx hb dX0_formWith_76 (lv_at hl 3 rfl) ?_
        refine ib_if_eq (tgt := 89) hx hb dX0_formWith_78 (by decide) ⟨by omega, by omega⟩ (fun c_78 => ?_) (fun c_78 => absurd c_78 (by decide))
        refine lv_iload hx hb dX0_formWith_89 (lv_at hl 2 rfl) ?_
        refine lv_iload hx hb dX0_formWith_91 (lv_at hl 0 rfl) ?_
        refine ib_add (z := ((code % 12 : Nat) : Int) + (((ent x n : Nat) : Int) - ((ent x 0 : Nat) : Int))) hx hb dX0_formWith_93 (by omega) ?_
        refine rd_call (va_runS (As := [.int (iI (((code % 12 : Nat) : Int) + (((ent x n : Nat) : Int) - ((ent x 0 : Nat) : Int))))]) (rest := []) ⟨hx, hb, hml, hown, hts⟩ (mX0_wrap l (((code % 12 : Nat) : Int) + (((ent x n : Nat) : Int) - ((ent x 0 : Nat) : Int))) ⟨by omega, by omega⟩) (va_cwS 1 hts gX0_formWith_X0_wrap rfl rfl rfl hdX0_wrap ⟨Nat.le_of_ble_eq_true rfl, Nat.le_of_ble_eq_true rfl⟩) tt_pre rfl rfl hl.1 rfl (lv_room (Nat.le_of_ble_eq_true rfl)) dX0_formWith_94 ⟨Nat.le_of_ble_eq_true rfl, Nat.le_of_ble_eq_true rfl⟩) ?_
        have hm_94 := md_lt (((code % 12 : Nat) : Int) + (((ent x n : Nat) : Int) - ((ent x 0 : Nat) : Int)))
        refine lv_istore (lv' := [(12, .int (iI ((md (((code % 12 : Nat) : Int) + (((ent x n : Nat) : Int) - ((ent x 0 : Nat) : Int))) : Nat) : Int))), (11, .int (iI (((ent x n : Nat) : Int) - ((ent x 0 : Nat) : Int)))), (0, .long x), (4, .int (iI ((code % 12 : Nat) : Int))), (5, .int (iI 0)), (6, .int (iI 1)), (7, .int (iI ((ent x 0 : Nat) : Int))), (8, .long (fwl x code n)), (10, .int (iI ((n : Nat) : Int)))]) hx hb dX0_formWith_97 hl (by decide) rfl (fun ls hl => ?_)
        refine lv_lload hx hb dX0_formWith_99 (lv_at hl 7 rfl) ?_
        refine lv_iload hx hb dX0_formWith_101 (lv_at hl 5 rfl) ?_
        refine ib_if_eq (tgt := 114) hx hb dX0_formWith_103 (by decide) ⟨by omega, by omega⟩ (fun c_103 => absurd c_103 (by decide)) (fun c_103 => ?_)
        refine ib_bi hx hb dX0_formWith_106 (by decide) ?_
        refine lv_iload hx hb dX0_formWith_108 (lv_at hl 8 rfl) ?_
        refine ib_sub (z := ((11 - n : Nat) : Int)) hx hb dX0_formWith_110 (by omega) ?_
        refine lv_goto (tgt := 116) hx hb dX0_formWith_111 (by decide) ?_
        refine lv_iload hx hb dX0_formWith_116 (lv_at hl 0 rfl) ?_
        refine rd_call (va_runS (As := [.long (fwl x code n), .int (iI ((11 - n : Nat) : Int)), .int (iI ((md (((code % 12 : Nat) : Int) + (((ent x n : Nat) : Int) - ((ent x 0 : Nat) : Int))) : Nat) : Int))]) (rest := []) ⟨hx, hb, hml, hown, hts⟩ (mX0_withEntry l (fwl x code n) (11 - n) (md (((code % 12 : Nat) : Int) + (((ent x n : Nat) : Int) - ((ent x 0 : Nat) : Int)))) (by omega)) (va_cwS 3 hts gX0_formWith_X0_withEntry rfl rfl rfl hdX0_withEntry ⟨Nat.le_of_ble_eq_true rfl, Nat.le_of_ble_eq_true rfl⟩) tt_pre rfl rfl hl.1 rfl (lv_room (Nat.le_of_ble_eq_true rfl)) dX0_formWith_118 ⟨Nat.le_of_ble_eq_true rfl, Nat.le_of_ble_eq_true rfl⟩) ?_
        refine st_l (y := fwl x code (n + 1)) (by simp [fwl, fwp, fwt, hk]) ?_
        refine lv_lstore (lv' := [(8, .long (fwl x code (n + 1))), (12, .int (iI ((md (((code % 12 : Nat) : Int) + (((ent x n : Nat) : Int) - ((ent x 0 : Nat) : Int))) : Nat) : Int))), (11, .int (iI (((ent x n : Nat) : Int) - ((ent x 0 : Nat) : Int)))), (0, .long x), (4, .int (iI ((code % 12 : Nat) : Int))), (5, .int (iI 0)), (6, .int (iI 1)), (7, .int (iI ((ent x 0 : Nat) : Int))), (10, .int (iI ((n : Nat) : Int)))]) hx hb dX0_formWith_121 hl (by decide) rfl (fun ls hl => ?_)
        refine lv_iinc (v := iI ((n + 1 : Nat) : Int)) (lv' := [(10, .int (iI ((n + 1 : Nat) : Int))), (8, .long (fwl x code (n + 1))), (12, .int (iI ((md (((code % 12 : Nat) : Int) + (((ent x n : Nat) : Int) - ((ent x 0 : Nat) : Int))) : Nat) : Int))), (11, .int (iI (((ent x n : Nat) : Int) - ((ent x 0 : Nat) : Int)))), (0, .long x), (4, .int (iI ((code % 12 : Nat) : Int))), (5, .int (iI 0)), (6, .int (iI 1)), (7, .int (iI ((ent x 0 : Nat) : Int)))]) hx hb dX0_formWith_123 hl (k := 8) rfl (iI_inc (by omega)) (by decide) rfl (fun ls hl => ?_)
        refine lv_goto (tgt := 58) hx hb dX0_formWith_126 (by decide) ?_
        exact ih_58_3 (n + 1) (by omega)  _ (lv_sub hl [4, 5, 6, 7, 8, 1, 0] rfl)
    exact lp_58_3 12 0 (by omega)  _ (lv_sub hl [7, 5, 4, 3, 2, 1, 0] rfl)
  · skip
    refine lv_iload_n hx hb dX0_formWith_0 rfl (lv_at hl 1 rfl) ?_
    refine ib_bi hx hb dX0_formWith_1 (by decide) ?_
    refine ib_div (z := ((code / 12 : Nat) : Int)) hx hb dX0_formWith_3 (by omega) (by omega) (by omega) (by omega) (by first | omega | rfl) ?_
    refine lv_istore_n (lv' := [(3, .int (iI ((code / 12 : Nat) : Int))), (0, .long x), (2, .int (iI ((code : Nat) : Int)))]) hx hb dX0_formWith_4 rfl hl (by decide) rfl (fun ls hl => ?_)
    refine lv_iload_n hx hb dX0_formWith_5 rfl (lv_at hl 2 rfl) ?_
    refine ib_bi hx hb dX0_formWith_6 (by decide) ?_
    refine ib_rem (z := ((code % 12 : Nat) : Int)) hx hb dX0_formWith_8 (by omega) (by omega) (by omega) (by omega) (by first | omega | rfl) ?_
    refine lv_istore (lv' := [(4, .int (iI ((code % 12 : Nat) : Int))), (3, .int (iI ((code / 12 : Nat) : Int))), (0, .long x), (2, .int (iI ((code : Nat) : Int)))]) hx hb dX0_formWith_9 hl (by decide) rfl (fun ls hl => ?_)
    refine lv_iload_n hx hb dX0_formWith_11 rfl (lv_at hl 1 rfl) ?_
    refine ib_const hx hb dX0_formWith_12 ?_
    refine ib_icmp_eq (tgt := 21) hx hb dX0_formWith_13 (by decide) ⟨by omega, by omega⟩ ⟨by omega, by omega⟩ (fun c_13 => absurd c_13 (by omega)) (fun c_13 => ?_)
    refine lv_iload_n hx hb dX0_formWith_16 rfl (lv_at hl 1 rfl) ?_
    refine ib_const hx hb dX0_formWith_17 ?_
    refine ib_icmp_ne (tgt := 25) hx hb dX0_formWith_18 (by decide) ⟨by omega, by omega⟩ ⟨by omega, by omega⟩ (fun c_18 => absurd c_18 (by omega)) (fun c_18 => ?_)
    refine ib_const hx hb dX0_formWith_21 ?_
    refine lv_goto (tgt := 26) hx hb dX0_formWith_22 (by decide) ?_
    refine lv_istore (lv' := [(5, .int (iI 1)), (4, .int (iI ((code % 12 : Nat) : Int))), (3, .int (iI ((code / 12 : Nat) : Int))), (0, .long x), (2, .int (iI ((code : Nat) : Int)))]) hx hb dX0_formWith_26 hl (by decide) rfl (fun ls hl => ?_)
    refine lv_iload_n hx hb dX0_formWith_28 rfl (lv_at hl 2 rfl) ?_
    refine ib_const hx hb dX0_formWith_29 ?_
    refine ib_icmp_eq (tgt := 38) hx hb dX0_formWith_30 (by decide) ⟨by omega, by omega⟩ ⟨by omega, by omega⟩ (fun c_30 => absurd c_30 (by omega)) (fun c_30 => ?_)
    refine lv_iload_n hx hb dX0_formWith_33 rfl (lv_at hl 2 rfl) ?_
    refine ib_const hx hb dX0_formWith_34 ?_
    refine ib_icmp_ne (tgt := 42) hx hb dX0_formWith_35 (by decide) ⟨by omega, by omega⟩ ⟨by omega, by omega⟩ (fun c_35 => absurd c_35 (by omega)) (fun c_35 => ?_)
    refine ib_const hx hb dX0_formWith_38 ?_
    refine lv_goto (tgt := 43) hx hb dX0_formWith_39 (by decide) ?_
    refine lv_istore (lv' := [(6, .int (iI 1)), (5, .int (iI 1)), (4, .int (iI ((code % 12 : Nat) : Int))), (3, .int (iI ((code / 12 : Nat) : Int))), (0, .long x), (2, .int (iI ((code : Nat) : Int)))]) hx hb dX0_formWith_43 hl (by decide) rfl (fun ls hl => ?_)
    refine lv_lload_n hx hb dX0_formWith_45 rfl (lv_at hl 4 rfl) ?_
    refine ib_const hx hb dX0_formWith_46 ?_
    refine rd_call (va_runS (As := [.long x, .int (iI 0)]) (rest := []) ⟨hx, hb, hml, hown, hts⟩ (mX0_entryAt l x 0 (by omega)) (va_cwS 2 hts gX0_formWith_X0_entryAt rfl rfl rfl hdX0_entryAt ⟨Nat.le_of_ble_eq_true rfl, Nat.le_of_ble_eq_true rfl⟩) tt_pre rfl rfl hl.1 rfl (lv_room (Nat.le_of_ble_eq_true rfl)) dX0_formWith_47 ⟨Nat.le_of_ble_eq_true rfl, Nat.le_of_ble_eq_true rfl⟩) ?_
    have he_47 := ent_lt x 0
    refine lv_istore (lv' := [(7, .int (iI ((ent x 0 : Nat) : Int))), (6, .int (iI 1)), (5, .int (iI 1)), (4, .int (iI ((code % 12 : Nat) : Int))), (3, .int (iI ((code / 12 : Nat) : Int))), (0, .long x), (2, .int (iI ((code : Nat) : Int)))]) hx hb dX0_formWith_50 hl (by decide) rfl (fun ls hl => ?_)
    refine lv_lconst (v := 0) hx hb dX0_formWith_52 (by decide) ?_
    refine lv_lstore (lv' := [(8, .long (0 : Int64)), (7, .int (iI ((ent x 0 : Nat) : Int))), (6, .int (iI 1)), (5, .int (iI 1)), (4, .int (iI ((code % 12 : Nat) : Int))), (3, .int (iI ((code / 12 : Nat) : Int))), (0, .long x), (2, .int (iI ((code : Nat) : Int)))]) hx hb dX0_formWith_53 hl (by decide) rfl (fun ls hl => ?_)
    refine ib_const hx hb dX0_formWith_55 ?_
    refine lv_istore (lv' := [(10, .int (iI 0)), (8, .long (0 : Int64)), (7, .int (iI ((ent x 0 : Nat) : Int))), (6, .int (iI 1)), (5, .int (iI 1)), (4, .int (iI ((code % 12 : Nat) : Int))), (3, .int (iI ((code / 12 : Nat) : Int))), (0, .long x), (2, .int (iI ((code : Nat) : Int)))]) hx hb dX0_formWith_56 hl (by decide) rfl (fun ls hl => ?_)
    have lp_58_4 : ∀ (j n : Nat), n + j = 12 → ∀ ls : Array Slot, lv_has ls 13 [(0, .long x), (4, .int (iI ((code % 12 : Nat) : Int))), (5, .int (iI 1)), (6, .int (iI 1)), (7, .int (iI ((ent x 0 : Nat) : Int))), (8, .long (fwl x code n)), (10, .int (iI ((n : Nat) : Int)))] → W P0 l e (headSpec wsX0_formWith { frames := 2, cells := 0, slots := 0, locals := 42 }).room s m ([.long x, .int (iI ((code : Nat) : Int))] : List Value).toArray below meth c s.heap [] 0 0 (MQ below (rdQ (some (.long (fw x code)))) ([.long x, .int (iI ((code : Nat) : Int))] : List Value).toArray s 0 0 (fun _ => False)) (F0 m 58 ls []) := by
      intro j
      induction j with
      | zero =>
        intro n hn_58  ls hl
        have he0 := ent_lt x 0
        refine lv_iload hx hb dX0_formWith_58 (lv_at hl 6 rfl) ?_
        refine ib_bi hx hb dX0_formWith_60 (by decide) ?_
        refine ib_icmp_ge (tgt := 129) hx hb dX0_formWith_62 (by decide) ⟨by omega, by omega⟩ ⟨by omega, by omega⟩ (fun c_62 => ?_) (fun c_62 => absurd c_62 (by omega))
        refine lv_lload hx hb dX0_formWith_129 (lv_at hl 5 rfl) ?_
        refine st_l (y := fw x code) (congrArg (fwl x code) (show n = 12 by omega)) ?_
        exact W.lret hx hb hr (fun t ht _ => ⟨rfl, ht⟩) (fun _ h => nomatch h) dX0_formWith_131
      | succ j ih_58_4 =>
        intro n hn_58  ls hl
        have he0 := ent_lt x 0
        refine lv_iload hx hb dX0_formWith_58 (lv_at hl 6 rfl) ?_
        refine ib_bi hx hb dX0_formWith_60 (by decide) ?_
        refine ib_icmp_ge (tgt := 129) hx hb dX0_formWith_62 (by decide) ⟨by omega, by omega⟩ ⟨by omega, by omega⟩ (fun c_62 => absurd c_62 (by omega)) (fun c_62 => ?_)
        refine lv_lload_n hx hb dX0_formWith_65 rfl (lv_at hl 0 rfl) ?_
        refine lv_iload hx hb dX0_formWith_66 (lv_at hl 6 rfl) ?_
        refine rd_call (va_runS (As := [.long x, .int (iI ((n : Nat) : Int))]) (rest := []) ⟨hx, hb, hml, hown, hts⟩ (mX0_entryAt l x n (by omega)) (va_cwS 2 hts gX0_formWith_X0_entryAt rfl rfl rfl hdX0_entryAt ⟨Nat.le_of_ble_eq_true rfl, Nat.le_of_ble_eq_true rfl⟩) tt_pre rfl rfl hl.1 rfl (lv_room (Nat.le_of_ble_eq_true rfl)) dX0_formWith_68 ⟨Nat.le_of_ble_eq_true rfl, Nat.le_of_ble_eq_true rfl⟩) ?_
        have he_68 := ent_lt x n
        refine lv_iload hx hb dX0_formWith_71 (lv_at hl 4 rfl) ?_
        refine ib_sub (z := ((ent x n : Nat) : Int) - ((ent x 0 : Nat) : Int)) hx hb dX0_formWith_73 (by omega) ?_
        refine lv_istore (lv' := [(11, .int (iI (((ent x n : Nat) : Int) - ((ent x 0 : Nat) : Int)))), (0, .long x), (4, .int (iI ((code % 12 : Nat) : Int))), (5, .int (iI 1)), (6, .int (iI 1)), (7, .int (iI ((ent x 0 : Nat) : Int))), (8, .long (fwl x code n)), (10, .int (iI ((n : Nat) : Int)))]) hx hb dX0_formWith_74 hl (by decide) rfl (fun ls hl => ?_)
        refine lv_iload hx hb dX0_formWith_76 (lv_at hl 3 rfl) ?_
        refine ib_if_eq (tgt := 89) hx hb dX0_formWith_78 (by decide) ⟨by omega, by omega⟩ (fun c_78 => absurd c_78 (by decide)) (fun c_78 => ?_)
        refine lv_iload hx hb dX0_formWith_81 (lv_at hl 2 rfl) ?_
        refine lv_iload hx hb dX0_formWith_83 (lv_at hl 0 rfl) ?_
        refine ib_sub (z := ((code % 12 : Nat) : Int) - (((ent x n : Nat) : Int) - ((ent x 0 : Nat) : Int))) hx hb dX0_formWith_85 (by omega) ?_
        refine lv_goto (tgt := 94) hx hb dX0_formWith_86 (by decide) ?_
        refine rd_call (va_runS (As := [.int (iI (((code % 12 : Nat) : Int) - (((ent x n : Nat) : Int) - ((ent x 0 : Nat) : Int))))]) (rest := []) ⟨hx, hb, hml, hown, hts⟩ (mX0_wrap l (((code % 12 : Nat) : Int) - (((ent x n : Nat) : Int) - ((ent x 0 : Nat) : Int))) ⟨by omega, by omega⟩) (va_cwS 1 hts gX0_formWith_X0_wrap rfl rfl rfl hdX0_wrap ⟨Nat.le_of_ble_eq_true rfl, Nat.le_of_ble_eq_true rfl⟩) tt_pre rfl rfl hl.1 rfl (lv_room (Nat.le_of_ble_eq_true rfl)) dX0_formWith_94 ⟨Nat.le_of_ble_eq_true rfl, Nat.le_of_ble_eq_true rfl⟩) ?_
        have hm_94 := md_lt (((code % 12 : Nat) : Int) - (((ent x n : Nat) : Int) - ((ent x 0 : Nat) : Int)))
        refine lv_istore (lv' := [(12, .int (iI ((md (((code % 12 : Nat) : Int) - (((ent x n : Nat) : Int) - ((ent x 0 : Nat) : Int))) : Nat) : Int))), (11, .int (iI (((ent x n : Nat) : Int) - ((ent x 0 : Nat) : Int)))), (0, .long x), (4, .int (iI ((code % 12 : Nat) : Int))), (5, .int (iI 1)), (6, .int (iI 1)), (7, .int (iI ((ent x 0 : Nat) : Int))), (8, .long (fwl x code n)), (10, .int (iI ((n : Nat) : Int)))]) hx hb dX0_formWith_97 hl (by decide) rfl (fun ls hl => ?_)
        refine lv_lload hx hb dX0_formWith_99 (lv_at hl 7 rfl) ?_
        refine lv_iload hx hb dX0_formWith_101 (lv_at hl 5 rfl) ?_
        refine ib_if_eq (tgt := 114) hx hb dX0_formWith_103 (by decide) ⟨by omega, by omega⟩ (fun c_103 => absurd c_103 (by decide)) (fun c_103 => ?_)
        refine ib_bi hx hb dX0_formWith_106 (by decide) ?_
        refine lv_iload hx hb dX0_formWith_108 (lv_at hl 8 rfl) ?_
        refine ib_sub (z := ((11 - n : Nat) : Int)) hx hb dX0_formWith_110 (by omega) ?_
        refine lv_goto (tgt := 116) hx hb dX0_formWith_111 (by decide) ?_
        refine lv_iload hx hb dX0_formWith_116 (lv_at hl 0 rfl) ?_
        refine rd_call (va_runS (As := [.long (fwl x code n), .int (iI ((11 - n : Nat) : Int)), .int (iI ((md (((code % 12 : Nat) : Int) - (((ent x n : Nat) : Int) - ((ent x 0 : Nat) : Int))) : Nat) : Int))]) (rest := []) ⟨hx, hb, hml, hown, hts⟩ (mX0_withEntry l (fwl x code n) (11 - n) (md (((code % 12 : Nat) : Int) - (((ent x n : Nat) : Int) - ((ent x 0 : Nat) : Int)))) (by omega)) (va_cwS 3 hts gX0_formWith_X0_withEntry rfl rfl rfl hdX0_withEntry ⟨Nat.le_of_ble_eq_true rfl, Nat.le_of_ble_eq_true rfl⟩) tt_pre rfl rfl hl.1 rfl (lv_room (Nat.le_of_ble_eq_true rfl)) dX0_formWith_118 ⟨Nat.le_of_ble_eq_true rfl, Nat.le_of_ble_eq_true rfl⟩) ?_
        refine st_l (y := fwl x code (n + 1)) (by simp [fwl, fwp, fwt, hk]) ?_
        refine lv_lstore (lv' := [(8, .long (fwl x code (n + 1))), (12, .int (iI ((md (((code % 12 : Nat) : Int) - (((ent x n : Nat) : Int) - ((ent x 0 : Nat) : Int))) : Nat) : Int))), (11, .int (iI (((ent x n : Nat) : Int) - ((ent x 0 : Nat) : Int)))), (0, .long x), (4, .int (iI ((code % 12 : Nat) : Int))), (5, .int (iI 1)), (6, .int (iI 1)), (7, .int (iI ((ent x 0 : Nat) : Int))), (10, .int (iI ((n : Nat) : Int)))]) hx hb dX0_formWith_121 hl (by decide) rfl (fun ls hl => ?_)
        refine lv_iinc (v := iI ((n + 1 : Nat) : Int)) (lv' := [(10, .int (iI ((n + 1 : Nat) : Int))), (8, .long (fwl x code (n + 1))), (12, .int (iI ((md (((code % 12 : Nat) : Int) - (((ent x n : Nat) : Int) - ((ent x 0 : Nat) : Int))) : Nat) : Int))), (11, .int (iI (((ent x n : Nat) : Int) - ((ent x 0 : Nat) : Int)))), (0, .long x), (4, .int (iI ((code % 12 : Nat) : Int))), (5, .int (iI 1)), (6, .int (iI 1)), (7, .int (iI ((ent x 0 : Nat) : Int)))]) hx hb dX0_formWith_123 hl (k := 8) rfl (iI_inc (by omega)) (by decide) rfl (fun ls hl => ?_)
        refine lv_goto (tgt := 58) hx hb dX0_formWith_126 (by decide) ?_
        exact ih_58_4 (n + 1) (by omega)  _ (lv_sub hl [4, 5, 6, 7, 8, 1, 0] rfl)
    exact lp_58_4 12 0 (by omega)  _ (lv_sub hl [7, 5, 4, 3, 2, 1, 0] rfl)

set_option maxHeartbeats 4000000 in
set_option maxRecDepth 100000 in
theorem mX0_setOf (l : Launch) (x : Int64) (p k : Nat) (h : p + k ≤ 16) : rd l yX0_setOf wsX0_setOf { frames := 1, cells := 0, slots := 0, locals := 22 } [.long x, .int (iI ((p : Nat) : Int)), .int (iI ((k : Nat) : Int))] tt_ (some (.int (iI ((setN x p k : Nat) : Int)))) := by
  refine Met.ofW (cc := cX0_setOf) (maxL := 6) (ret := (some .int)) (by decide) rfl ?_
  intro P0 e s m args below meth c s₁ B hml hv
  obtain ⟨rfl, -⟩ := hv
  have hx := B.exec
  have hb := B.bytes
  have hr := B.returns
  have hts := atoms_spec (ws := wsX0_setOf) B.pre
  have hown : s.vm.findClass RX0 = some m.cls := findClass_of_methodNamed B.named
  have hlocks := B.notSynchronized
  have hl := lv_entry ([.long x, .int (iI ((p : Nat) : Int)), .int (iI ((k : Nat) : Int))]) (n := 6) (Nat.le_of_ble_eq_true rfl)
  rw [lg_entry_eq]
  generalize (lg_sl ([.long x, .int (iI ((p : Nat) : Int)), .int (iI ((k : Nat) : Int))]) ++ List.replicate (6 - (lg_sl ([.long x, .int (iI ((p : Nat) : Int)), .int (iI ((k : Nat) : Int))])).length) Slot.unset).toArray = ls at hl ⊢
  have hl : lv_has ls 6 [(0, .long x), (2, .int (iI ((p : Nat) : Int))), (3, .int (iI ((k : Nat) : Int)))] := hl
  refine ib_const hx hb dX0_setOf_0 ?_
  refine lv_istore (lv' := [(4, .int (iI 0)), (0, .long x), (2, .int (iI ((p : Nat) : Int))), (3, .int (iI ((k : Nat) : Int)))]) hx hb dX0_setOf_1 hl (by decide) rfl (fun ls hl => ?_)
  refine ib_const hx hb dX0_setOf_3 ?_
  refine lv_istore (lv' := [(5, .int (iI 0)), (4, .int (iI 0)), (0, .long x), (2, .int (iI ((p : Nat) : Int))), (3, .int (iI ((k : Nat) : Int)))]) hx hb dX0_setOf_4 hl (by decide) rfl (fun ls hl => ?_)
  have lp_6_1 : ∀ (j n : Nat), n + j = k → ∀ ls : Array Slot, lv_has ls 6 [(0, .long x), (2, .int (iI ((p : Nat) : Int))), (3, .int (iI ((k : Nat) : Int))), (4, .int (iI ((setN x p n : Nat) : Int))), (5, .int (iI ((n : Nat) : Int)))] → W P0 l e (headSpec wsX0_setOf { frames := 1, cells := 0, slots := 0, locals := 22 }).room s m ([.long x, .int (iI ((p : Nat) : Int)), .int (iI ((k : Nat) : Int))] : List Value).toArray below meth c s.heap [] 0 0 (MQ below (rdQ (some (.int (iI ((setN x p k : Nat) : Int))))) ([.long x, .int (iI ((p : Nat) : Int)), .int (iI ((k : Nat) : Int))] : List Value).toArray s 0 0 (fun _ => False)) (F0 m 6 ls []) := by
    intro j
    induction j with
    | zero =>
      intro n hn_6  ls hl
      have hs := setN_lt x p n
      refine lv_iload hx hb dX0_setOf_6 (lv_at hl 4 rfl) ?_
      refine lv_iload_n hx hb dX0_setOf_8 rfl (lv_at hl 2 rfl) ?_
      refine ib_icmp_ge (tgt := 33) hx hb dX0_setOf_9 (by decide) ⟨by omega, by omega⟩ ⟨by omega, by omega⟩ (fun c_9 => ?_) (fun c_9 => absurd c_9 (by omega))
      refine lv_iload hx hb dX0_setOf_33 (lv_at hl 3 rfl) ?_
      refine st_i (y := iI ((setN x p k : Nat) : Int)) (congrArg (fun z : Nat => iI ((setN x p z : Nat) : Int)) (show n = k by omega)) ?_
      exact W.iret hx hb hr (fun t ht _ => ⟨rfl, ht⟩) (fun _ h => nomatch h) dX0_setOf_35
    | succ j ih_6_1 =>
      intro n hn_6  ls hl
      have hs := setN_lt x p n
      refine lv_iload hx hb dX0_setOf_6 (lv_at hl 4 rfl) ?_
      refine lv_iload_n hx hb dX0_setOf_8 rfl (lv_at hl 2 rfl) ?_
      refine ib_icmp_ge (tgt := 33) hx hb dX0_setOf_9 (by decide) ⟨by omega, by omega⟩ ⟨by omega, by omega⟩ (fun c_9 => absurd c_9 (by omega)) (fun c_9 => ?_)
      refine lv_iload hx hb dX0_setOf_12 (lv_at hl 3 rfl) ?_
      refine ib_const hx hb dX0_setOf_14 ?_
      refine lv_lload_n hx hb dX0_setOf_15 rfl (lv_at hl 0 rfl) ?_
      refine lv_iload_n hx hb dX0_setOf_16 rfl (lv_at hl 1 rfl) ?_
      refine lv_iload hx hb dX0_setOf_17 (lv_at hl 4 rfl) ?_
      refine ib_add (z := ((p + n : Nat) : Int)) hx hb dX0_setOf_19 (by omega) ?_
      refine rd_call (va_runS (As := [.long x, .int (iI ((p + n : Nat) : Int))]) (rest := [.int (iI 1), .int (iI ((setN x p n : Nat) : Int))]) ⟨hx, hb, hml, hown, hts⟩ (mX0_entryAt l x (p + n) (by omega)) (va_cwS 2 hts gX0_setOf_X0_entryAt rfl rfl rfl hdX0_entryAt ⟨Nat.le_of_ble_eq_true rfl, Nat.le_of_ble_eq_true rfl⟩) tt_pre rfl rfl hl.1 rfl (lv_room (Nat.le_of_ble_eq_true rfl)) dX0_setOf_20 ⟨Nat.le_of_ble_eq_true rfl, Nat.le_of_ble_eq_true rfl⟩) ?_
      have he_20 := ent_lt x (p + n)
      refine lv_ishl hx hb dX0_setOf_23 ?_
      refine st_i (y := iI ((2 ^ ent x (p + n) : Nat) : Int)) (ir_shl1 (by omega)) ?_
      refine lv_ior hx hb dX0_setOf_24 ?_
      refine st_i (y := iI ((setN x p (n + 1) : Nat) : Int)) (ir_or _ _) ?_
      refine lv_istore (lv' := [(4, .int (iI ((setN x p (n + 1) : Nat) : Int))), (0, .long x), (2, .int (iI ((p : Nat) : Int))), (3, .int (iI ((k : Nat) : Int))), (5, .int (iI ((n : Nat) : Int)))]) hx hb dX0_setOf_25 hl (by decide) rfl (fun ls hl => ?_)
      refine lv_iinc (v := iI ((n + 1 : Nat) : Int)) (lv' := [(5, .int (iI ((n + 1 : Nat) : Int))), (4, .int (iI ((setN x p (n + 1) : Nat) : Int))), (0, .long x), (2, .int (iI ((p : Nat) : Int))), (3, .int (iI ((k : Nat) : Int)))]) hx hb dX0_setOf_27 hl (k := 4) rfl (iI_inc (by omega)) (by decide) rfl (fun ls hl => ?_)
      refine lv_goto (tgt := 6) hx hb dX0_setOf_30 (by decide) ?_
      exact ih_6_1 (n + 1) (by omega)  _ (lv_sub hl [2, 3, 4, 1, 0] rfl)
  exact lp_6_1 k 0 (by omega)  _ (lv_sub hl [2, 3, 4, 1, 0] rfl)

set_option maxHeartbeats 4000000 in
set_option maxRecDepth 100000 in
theorem mX0_transposed (l : Launch) (sv b : Nat) (h : sv < 4096) (hb9 : b ≤ 12) : rd l yX0_transposed wsX0_transposed { frames := 0, cells := 0, slots := 0, locals := 0 } [.int (iI ((sv : Nat) : Int)), .int (iI ((b : Nat) : Int))] tt_ (some (.int (iI ((trN sv b : Nat) : Int)))) := by
  refine Met.ofW (cc := cX0_transposed) (maxL := 2) (ret := (some .int)) (by decide) rfl ?_
  intro P0 e s m args below meth c s₁ B hml hv
  obtain ⟨rfl, -⟩ := hv
  have hx := B.exec
  have hb := B.bytes
  have hr := B.returns
  have hts := atoms_spec (ws := wsX0_transposed) B.pre
  have hown : s.vm.findClass RX0 = some m.cls := findClass_of_methodNamed B.named
  have hlocks := B.notSynchronized
  have hl := lv_entry ([.int (iI ((sv : Nat) : Int)), .int (iI ((b : Nat) : Int))]) (n := 2) (Nat.le_of_ble_eq_true rfl)
  rw [lg_entry_eq]
  generalize (lg_sl ([.int (iI ((sv : Nat) : Int)), .int (iI ((b : Nat) : Int))]) ++ List.replicate (2 - (lg_sl ([.int (iI ((sv : Nat) : Int)), .int (iI ((b : Nat) : Int))])).length) Slot.unset).toArray = ls at hl ⊢
  have hl : lv_has ls 2 [(0, .int (iI ((sv : Nat) : Int))), (1, .int (iI ((b : Nat) : Int)))] := hl
  refine lv_iload_n hx hb dX0_transposed_0 rfl (lv_at hl 0 rfl) ?_
  refine lv_iload_n hx hb dX0_transposed_1 rfl (lv_at hl 1 rfl) ?_
  refine lv_ishl hx hb dX0_transposed_2 ?_
  refine st_i (y := iI ((sv * 2 ^ b : Nat) : Int)) (ir_shl (by omega) (tr_b h hb9)) ?_
  refine lv_iload_n hx hb dX0_transposed_3 rfl (lv_at hl 0 rfl) ?_
  refine ib_bi hx hb dX0_transposed_4 (by decide) ?_
  refine lv_iload_n hx hb dX0_transposed_6 rfl (lv_at hl 1 rfl) ?_
  refine ib_sub (z := ((12 - b : Nat) : Int)) hx hb dX0_transposed_7 (by omega) ?_
  refine lv_iushr hx hb dX0_transposed_8 rfl ?_
  refine st_i (y := iI ((sv / 2 ^ (12 - b) : Nat) : Int)) (ir_ushr (by omega) (by omega)) ?_
  refine lv_ior hx hb dX0_transposed_9 ?_
  refine st_i (y := iI ((sv * 2 ^ b ||| sv / 2 ^ (12 - b) : Nat) : Int)) (ir_or _ _) ?_
  refine ib_si hx hb dX0_transposed_10 (by decide) ?_
  refine lv_iand hx hb dX0_transposed_13 ?_
  refine st_i (y := iI ((trN sv b : Nat) : Int)) (ir_and _ 4095) ?_
  exact W.iret hx hb hr (fun t ht _ => ⟨rfl, ht⟩) (fun _ h => nomatch h) dX0_transposed_14

set_option maxHeartbeats 4000000 in
set_option maxRecDepth 100000 in
theorem mX0_inverted (l : Launch) (sv : Nat) (h : sv < 4096) : rd l yX0_inverted wsX0_inverted { frames := 2, cells := 0, slots := 0, locals := 42 } [.int (iI ((sv : Nat) : Int))] tt_ (some (.int (iI ((ivN sv 12 : Nat) : Int)))) := by
  refine Met.ofW (cc := cX0_inverted) (maxL := 3) (ret := (some .int)) (by decide) rfl ?_
  intro P0 e s m args below meth c s₁ B hml hv
  obtain ⟨rfl, -⟩ := hv
  have hx := B.exec
  have hb := B.bytes
  have hr := B.returns
  have hts := atoms_spec (ws := wsX0_inverted) B.pre
  have hown : s.vm.findClass RX0 = some m.cls := findClass_of_methodNamed B.named
  have hlocks := B.notSynchronized
  have hl := lv_entry ([.int (iI ((sv : Nat) : Int))]) (n := 3) (Nat.le_of_ble_eq_true rfl)
  rw [lg_entry_eq]
  generalize (lg_sl ([.int (iI ((sv : Nat) : Int))]) ++ List.replicate (3 - (lg_sl ([.int (iI ((sv : Nat) : Int))])).length) Slot.unset).toArray = ls at hl ⊢
  have hl : lv_has ls 3 [(0, .int (iI ((sv : Nat) : Int)))] := hl
  refine ib_const hx hb dX0_inverted_0 ?_
  refine lv_istore_n (lv' := [(1, .int (iI 0)), (0, .int (iI ((sv : Nat) : Int)))]) hx hb dX0_inverted_1 rfl hl (by decide) rfl (fun ls hl => ?_)
  refine ib_const hx hb dX0_inverted_2 ?_
  refine lv_istore_n (lv' := [(2, .int (iI 0)), (1, .int (iI 0)), (0, .int (iI ((sv : Nat) : Int)))]) hx hb dX0_inverted_3 rfl hl (by decide) rfl (fun ls hl => ?_)
  have lp_4_1 : ∀ (j n : Nat), n + j = 12 → ∀ ls : Array Slot, lv_has ls 3 [(0, .int (iI ((sv : Nat) : Int))), (1, .int (iI ((ivN sv n : Nat) : Int))), (2, .int (iI ((n : Nat) : Int)))] → W P0 l e (headSpec wsX0_inverted { frames := 2, cells := 0, slots := 0, locals := 42 }).room s m ([.int (iI ((sv : Nat) : Int))] : List Value).toArray below meth c s.heap [] 0 0 (MQ below (rdQ (some (.int (iI ((ivN sv 12 : Nat) : Int))))) ([.int (iI ((sv : Nat) : Int))] : List Value).toArray s 0 0 (fun _ => False)) (F0 m 4 ls []) := by
    intro j
    induction j with
    | zero =>
      intro n hn_4  ls hl
      refine lv_iload_n hx hb dX0_inverted_4 rfl (lv_at hl 2 rfl) ?_
      refine ib_bi hx hb dX0_inverted_5 (by decide) ?_
      refine ib_icmp_ge (tgt := 30) hx hb dX0_inverted_7 (by decide) ⟨by omega, by omega⟩ ⟨by omega, by omega⟩ (fun c_7 => ?_) (fun c_7 => absurd c_7 (by omega))
      refine lv_iload_n hx hb dX0_inverted_30 rfl (lv_at hl 1 rfl) ?_
      refine st_i (y := iI ((ivN sv 12 : Nat) : Int)) (congrArg (fun z : Nat => iI ((ivN sv z : Nat) : Int)) (show n = 12 by omega)) ?_
      exact W.iret hx hb hr (fun t ht _ => ⟨rfl, ht⟩) (fun _ h => nomatch h) dX0_inverted_31
    | succ j ih_4_1 =>
      intro n hn_4  ls hl
      refine lv_iload_n hx hb dX0_inverted_4 rfl (lv_at hl 2 rfl) ?_
      refine ib_bi hx hb dX0_inverted_5 (by decide) ?_
      refine ib_icmp_ge (tgt := 30) hx hb dX0_inverted_7 (by decide) ⟨by omega, by omega⟩ ⟨by omega, by omega⟩ (fun c_7 => absurd c_7 (by omega)) (fun c_7 => ?_)
      refine lv_iload_n hx hb dX0_inverted_10 rfl (lv_at hl 1 rfl) ?_
      refine lv_iload_n hx hb dX0_inverted_11 rfl (lv_at hl 0 rfl) ?_
      refine lv_iload_n hx hb dX0_inverted_12 rfl (lv_at hl 2 rfl) ?_
      refine lv_ishr hx hb dX0_inverted_13 ?_
      refine st_i (y := iI ((sv / 2 ^ n : Nat) : Int)) (ir_shr (by omega) (by omega)) ?_
      refine ib_const hx hb dX0_inverted_14 ?_
      refine lv_iand hx hb dX0_inverted_15 ?_
      refine st_i (y := iI ((sv / 2 ^ n &&& 1 : Nat) : Int)) (ir_and _ 1) ?_
      refine lv_iload_n hx hb dX0_inverted_16 rfl (lv_at hl 2 rfl) ?_
      refine ib_neg (z := -((n : Nat) : Int)) hx hb dX0_inverted_17 rfl ?_
      refine rd_call (va_runS (As := [.int (iI (-((n : Nat) : Int)))]) (rest := [.int (iI ((sv / 2 ^ n &&& 1 : Nat) : Int)), .int (iI ((ivN sv n : Nat) : Int))]) ⟨hx, hb, hml, hown, hts⟩ (mX0_wrap l (-((n : Nat) : Int)) ⟨by omega, by omega⟩) (va_cwS 1 hts gX0_inverted_X0_wrap rfl rfl rfl hdX0_wrap ⟨Nat.le_of_ble_eq_true rfl, Nat.le_of_ble_eq_true rfl⟩) tt_pre rfl rfl hl.1 rfl (lv_room (Nat.le_of_ble_eq_true rfl)) dX0_inverted_18 ⟨Nat.le_of_ble_eq_true rfl, Nat.le_of_ble_eq_true rfl⟩) ?_
      have hm_18 := md_lt (-((n : Nat) : Int))
      refine lv_ishl hx hb dX0_inverted_21 ?_
      refine st_i (y := iI (((sv / 2 ^ n &&& 1) * 2 ^ md (-((n : Nat) : Int)) : Nat) : Int)) (ir_shl (by omega) (iv_b _ _)) ?_
      refine lv_ior hx hb dX0_inverted_22 ?_
      refine st_i (y := iI ((ivN sv (n + 1) : Nat) : Int)) (ir_or _ _) ?_
      refine lv_istore_n (lv' := [(1, .int (iI ((ivN sv (n + 1) : Nat) : Int))), (0, .int (iI ((sv : Nat) : Int))), (2, .int (iI ((n : Nat) : Int)))]) hx hb dX0_inverted_23 rfl hl (by decide) rfl (fun ls hl => ?_)
      refine lv_iinc (v := iI ((n + 1 : Nat) : Int)) (lv' := [(2, .int (iI ((n + 1 : Nat) : Int))), (1, .int (iI ((ivN sv (n + 1) : Nat) : Int))), (0, .int (iI ((sv : Nat) : Int)))]) hx hb dX0_inverted_24 hl (k := 2) rfl (iI_inc (by omega)) (by decide) rfl (fun ls hl => ?_)
      refine lv_goto (tgt := 4) hx hb dX0_inverted_27 (by decide) ?_
      exact ih_4_1 (n + 1) (by omega)  _ (lv_sub hl [2, 1, 0] rfl)
  exact lp_4_1 12 0 (by omega)  _ (lv_sub hl [2, 1, 0] rfl)

set_option maxHeartbeats 4000000 in
set_option maxRecDepth 100000 in
theorem mX0_leastLike (l : Launch) (sv : Nat) (h : sv < 4096) : rd l yX0_leastLike wsX0_leastLike { frames := 3, cells := 0, slots := 0, locals := 64 } [.int (iI ((sv : Nat) : Int))] tt_ (some (.int (iI ((llN sv 12 : Nat) : Int)))) := by
  refine Met.ofW (cc := cX0_leastLike) (maxL := 4) (ret := (some .int)) (by decide) rfl ?_
  intro P0 e s m args below meth c s₁ B hml hv
  obtain ⟨rfl, -⟩ := hv
  have hx := B.exec
  have hb := B.bytes
  have hr := B.returns
  have hts := atoms_spec (ws := wsX0_leastLike) B.pre
  have hown : s.vm.findClass RX0 = some m.cls := findClass_of_methodNamed B.named
  have hlocks := B.notSynchronized
  have hl := lv_entry ([.int (iI ((sv : Nat) : Int))]) (n := 4) (Nat.le_of_ble_eq_true rfl)
  rw [lg_entry_eq]
  generalize (lg_sl ([.int (iI ((sv : Nat) : Int))]) ++ List.replicate (4 - (lg_sl ([.int (iI ((sv : Nat) : Int))])).length) Slot.unset).toArray = ls at hl ⊢
  have hl : lv_has ls 4 [(0, .int (iI ((sv : Nat) : Int)))] := hl
  refine lv_iload_n hx hb dX0_leastLike_0 rfl (lv_at hl 0 rfl) ?_
  refine rd_call (va_runS (As := [.int (iI ((sv : Nat) : Int))]) (rest := []) ⟨hx, hb, hml, hown, hts⟩ (mX0_inverted l sv (by omega)) (va_cwS 1 hts gX0_leastLike_X0_inverted rfl rfl rfl hdX0_inverted ⟨Nat.le_of_ble_eq_true rfl, Nat.le_of_ble_eq_true rfl⟩) tt_pre rfl rfl hl.1 rfl (lv_room (Nat.le_of_ble_eq_true rfl)) dX0_leastLike_1 ⟨Nat.le_of_ble_eq_true rfl, Nat.le_of_ble_eq_true rfl⟩) ?_
  have hv_1 := ivN_lt sv 12
  refine lv_istore_n (lv' := [(1, .int (iI ((ivN sv 12 : Nat) : Int))), (0, .int (iI ((sv : Nat) : Int)))]) hx hb dX0_leastLike_4 rfl hl (by decide) rfl (fun ls hl => ?_)
  refine lv_iload_n hx hb dX0_leastLike_5 rfl (lv_at hl 1 rfl) ?_
  refine lv_istore_n (lv' := [(2, .int (iI ((sv : Nat) : Int))), (1, .int (iI ((ivN sv 12 : Nat) : Int))), (0, .int (iI ((sv : Nat) : Int)))]) hx hb dX0_leastLike_6 rfl hl (by decide) rfl (fun ls hl => ?_)
  refine ib_const hx hb dX0_leastLike_7 ?_
  refine lv_istore_n (lv' := [(3, .int (iI 0)), (2, .int (iI ((sv : Nat) : Int))), (1, .int (iI ((ivN sv 12 : Nat) : Int))), (0, .int (iI ((sv : Nat) : Int)))]) hx hb dX0_leastLike_8 rfl hl (by decide) rfl (fun ls hl => ?_)
  have lp_9_1 : ∀ (j n : Nat), n + j = 12 → ∀ ls : Array Slot, lv_has ls 4 [(0, .int (iI ((sv : Nat) : Int))), (1, .int (iI ((ivN sv 12 : Nat) : Int))), (2, .int (iI ((llN sv n : Nat) : Int))), (3, .int (iI ((n : Nat) : Int)))] → W P0 l e (headSpec wsX0_leastLike { frames := 3, cells := 0, slots := 0, locals := 64 }).room s m ([.int (iI ((sv : Nat) : Int))] : List Value).toArray below meth c s.heap [] 0 0 (MQ below (rdQ (some (.int (iI ((llN sv 12 : Nat) : Int))))) ([.int (iI ((sv : Nat) : Int))] : List Value).toArray s 0 0 (fun _ => False)) (F0 m 9 ls []) := by
    intro j
    induction j with
    | zero =>
      intro n hn_9  ls hl
      have hl9 := llN_le sv n
      refine lv_iload_n hx hb dX0_leastLike_9 rfl (lv_at hl 3 rfl) ?_
      refine ib_bi hx hb dX0_leastLike_10 (by decide) ?_
      refine ib_icmp_ge (tgt := 39) hx hb dX0_leastLike_12 (by decide) ⟨by omega, by omega⟩ ⟨by omega, by omega⟩ (fun c_12 => ?_) (fun c_12 => absurd c_12 (by omega))
      refine lv_iload_n hx hb dX0_leastLike_39 rfl (lv_at hl 2 rfl) ?_
      refine st_i (y := iI ((llN sv 12 : Nat) : Int)) (congrArg (fun z : Nat => iI ((llN sv z : Nat) : Int)) (show n = 12 by omega)) ?_
      exact W.iret hx hb hr (fun t ht _ => ⟨rfl, ht⟩) (fun _ h => nomatch h) dX0_leastLike_40
    | succ j ih_9_1 =>
      intro n hn_9  ls hl
      have hl9 := llN_le sv n
      refine lv_iload_n hx hb dX0_leastLike_9 rfl (lv_at hl 3 rfl) ?_
      refine ib_bi hx hb dX0_leastLike_10 (by decide) ?_
      refine ib_icmp_ge (tgt := 39) hx hb dX0_leastLike_12 (by decide) ⟨by omega, by omega⟩ ⟨by omega, by omega⟩ (fun c_12 => absurd c_12 (by omega)) (fun c_12 => ?_)
      refine lv_iload_n hx hb dX0_leastLike_15 rfl (lv_at hl 2 rfl) ?_
      refine lv_iload_n hx hb dX0_leastLike_16 rfl (lv_at hl 0 rfl) ?_
      refine lv_iload_n hx hb dX0_leastLike_17 rfl (lv_at hl 3 rfl) ?_
      refine rd_call (va_runS (As := [.int (iI ((sv : Nat) : Int)), .int (iI ((n : Nat) : Int))]) (rest := [.int (iI ((llN sv n : Nat) : Int))]) ⟨hx, hb, hml, hown, hts⟩ (mX0_transposed l sv n (by omega) (by omega)) (va_cwS 2 hts gX0_leastLike_X0_transposed rfl rfl rfl hdX0_transposed ⟨Nat.le_of_ble_eq_true rfl, Nat.le_of_ble_eq_true rfl⟩) tt_pre rfl rfl hl.1 rfl (lv_room (Nat.le_of_ble_eq_true rfl)) dX0_leastLike_18 ⟨Nat.le_of_ble_eq_true rfl, Nat.le_of_ble_eq_true rfl⟩) ?_
      have ht_18 := trN_lt sv n
      refine lv_iload_n hx hb dX0_leastLike_21 rfl (lv_at hl 1 rfl) ?_
      refine lv_iload_n hx hb dX0_leastLike_22 rfl (lv_at hl 3 rfl) ?_
      refine rd_call (va_runS (As := [.int (iI ((ivN sv 12 : Nat) : Int)), .int (iI ((n : Nat) : Int))]) (rest := [.int (iI ((trN sv n : Nat) : Int)), .int (iI ((llN sv n : Nat) : Int))]) ⟨hx, hb, hml, hown, hts⟩ (mX0_transposed l (ivN sv 12) n (by omega) (by omega)) (va_cwS 2 hts gX0_leastLike_X0_transposed rfl rfl rfl hdX0_transposed ⟨Nat.le_of_ble_eq_true rfl, Nat.le_of_ble_eq_true rfl⟩) tt_pre rfl rfl hl.1 rfl (lv_room (Nat.le_of_ble_eq_true rfl)) dX0_leastLike_23 ⟨Nat.le_of_ble_eq_true rfl, Nat.le_of_ble_eq_true rfl⟩) ?_
      have ht_23 := trN_lt (ivN sv 12) n
      refine va_mmin hx hb (hml.trans hl.1.symm) hown (hts (.methodLink RX0 153 Lib.Math.min.name) (by decide +kernel)) (hts (.static Lib.Math.min.name) (by decide +kernel)) (hts (.initialized "java/lang/Math") (by decide +kernel)) (hts (.code Lib.Math.min.name Lib.Math.min.code 2 (some .int)) (by decide +kernel)) (Nat.le_of_ble_eq_true rfl) (Nat.le_of_ble_eq_true rfl) (Nat.le_of_ble_eq_true rfl) (Nat.le_of_ble_eq_true rfl) dX0_leastLike_26 ?_
      refine st_i (y := iI ((min (trN sv n) (trN (ivN sv 12) n) : Nat) : Int)) ((iI_min ⟨by omega, by omega⟩ ⟨by omega, by omega⟩).trans (congrArg iI (by omega))) ?_
      refine va_mmin hx hb (hml.trans hl.1.symm) hown (hts (.methodLink RX0 153 Lib.Math.min.name) (by decide +kernel)) (hts (.static Lib.Math.min.name) (by decide +kernel)) (hts (.initialized "java/lang/Math") (by decide +kernel)) (hts (.code Lib.Math.min.name Lib.Math.min.code 2 (some .int)) (by decide +kernel)) (Nat.le_of_ble_eq_true rfl) (Nat.le_of_ble_eq_true rfl) (Nat.le_of_ble_eq_true rfl) (Nat.le_of_ble_eq_true rfl) dX0_leastLike_29 ?_
      refine st_i (y := iI ((min (llN sv n) (min (trN sv n) (trN (ivN sv 12) n)) : Nat) : Int)) ((iI_min ⟨by omega, by omega⟩ ⟨by omega, by omega⟩).trans (congrArg iI (by omega))) ?_
      refine st_i (y := iI ((llN sv (n + 1) : Nat) : Int)) (rfl) ?_
      refine lv_istore_n (lv' := [(2, .int (iI ((llN sv (n + 1) : Nat) : Int))), (0, .int (iI ((sv : Nat) : Int))), (1, .int (iI ((ivN sv 12 : Nat) : Int))), (3, .int (iI ((n : Nat) : Int)))]) hx hb dX0_leastLike_32 rfl hl (by decide) rfl (fun ls hl => ?_)
      refine lv_iinc (v := iI ((n + 1 : Nat) : Int)) (lv' := [(3, .int (iI ((n + 1 : Nat) : Int))), (2, .int (iI ((llN sv (n + 1) : Nat) : Int))), (0, .int (iI ((sv : Nat) : Int))), (1, .int (iI ((ivN sv 12 : Nat) : Int)))]) hx hb dX0_leastLike_33 hl (k := 3) rfl (iI_inc (by omega)) (by decide) rfl (fun ls hl => ?_)
      refine lv_goto (tgt := 9) hx hb dX0_leastLike_36 (by decide) ?_
      exact ih_9_1 (n + 1) (by omega)  _ (lv_sub hl [2, 3, 1, 0] rfl)
  exact lp_9_1 12 0 (by omega)  _ (lv_sub hl [3, 2, 1, 0] rfl)

set_option maxHeartbeats 4000000 in
set_option maxRecDepth 100000 in
theorem mX0_placesOf (l : Launch) (x y : Int64) (h : hasAll x y) : rd l yX0_placesOf wsX0_placesOf { frames := 2, cells := 0, slots := 0, locals := 45 } [.long x, .long y] tt_ (some (.long (plcN x y 12))) := by
  refine Met.ofW (cc := cX0_placesOf) (maxL := 7) (ret := (some .long)) (by decide) rfl ?_
  intro P0 e s m args below meth c s₁ B hml hv
  obtain ⟨rfl, -⟩ := hv
  have hx := B.exec
  have hb := B.bytes
  have hr := B.returns
  have hts := atoms_spec (ws := wsX0_placesOf) B.pre
  have hown : s.vm.findClass RX0 = some m.cls := findClass_of_methodNamed B.named
  have hlocks := B.notSynchronized
  have hl := lv_entry ([.long x, .long y]) (n := 7) (Nat.le_of_ble_eq_true rfl)
  rw [lg_entry_eq]
  generalize (lg_sl ([.long x, .long y]) ++ List.replicate (7 - (lg_sl ([.long x, .long y])).length) Slot.unset).toArray = ls at hl ⊢
  have hl : lv_has ls 7 [(0, .long x), (2, .long y)] := hl
  refine lv_lconst (v := 0) hx hb dX0_placesOf_0 (by decide) ?_
  refine lv_lstore (lv' := [(4, .long (0 : Int64)), (0, .long x), (2, .long y)]) hx hb dX0_placesOf_1 hl (by decide) rfl (fun ls hl => ?_)
  refine ib_const hx hb dX0_placesOf_3 ?_
  refine lv_istore (lv' := [(6, .int (iI 0)), (4, .long (0 : Int64)), (0, .long x), (2, .long y)]) hx hb dX0_placesOf_4 hl (by decide) rfl (fun ls hl => ?_)
  have lp_6_1 : ∀ (j n : Nat), n + j = 12 → ∀ ls : Array Slot, lv_has ls 7 [(0, .long x), (2, .long y), (4, .long (plcN x y n)), (6, .int (iI ((n : Nat) : Int)))] → W P0 l e (headSpec wsX0_placesOf { frames := 2, cells := 0, slots := 0, locals := 45 }).room s m ([.long x, .long y] : List Value).toArray below meth c s.heap [] 0 0 (MQ below (rdQ (some (.long (plcN x y 12)))) ([.long x, .long y] : List Value).toArray s 0 0 (fun _ => False)) (F0 m 6 ls []) := by
    intro j
    induction j with
    | zero =>
      intro n hn_6  ls hl
      refine lv_iload hx hb dX0_placesOf_6 (lv_at hl 3 rfl) ?_
      refine ib_bi hx hb dX0_placesOf_8 (by decide) ?_
      refine ib_icmp_ge (tgt := 38) hx hb dX0_placesOf_10 (by decide) ⟨by omega, by omega⟩ ⟨by omega, by omega⟩ (fun c_10 => ?_) (fun c_10 => absurd c_10 (by omega))
      refine lv_lload hx hb dX0_placesOf_38 (lv_at hl 2 rfl) ?_
      refine st_l (y := plcN x y 12) (congrArg (plcN x y) (show n = 12 by omega)) ?_
      exact W.lret hx hb hr (fun t ht _ => ⟨rfl, ht⟩) (fun _ h => nomatch h) dX0_placesOf_40
    | succ j ih_6_1 =>
      intro n hn_6  ls hl
      refine lv_iload hx hb dX0_placesOf_6 (lv_at hl 3 rfl) ?_
      refine ib_bi hx hb dX0_placesOf_8 (by decide) ?_
      refine ib_icmp_ge (tgt := 38) hx hb dX0_placesOf_10 (by decide) ⟨by omega, by omega⟩ ⟨by omega, by omega⟩ (fun c_10 => absurd c_10 (by omega)) (fun c_10 => ?_)
      refine lv_lload hx hb dX0_placesOf_13 (lv_at hl 2 rfl) ?_
      refine lv_iload hx hb dX0_placesOf_15 (lv_at hl 3 rfl) ?_
      refine lv_lload_n hx hb dX0_placesOf_17 rfl (lv_at hl 1 rfl) ?_
      refine lv_lload_n hx hb dX0_placesOf_18 rfl (lv_at hl 0 rfl) ?_
      refine lv_iload hx hb dX0_placesOf_19 (lv_at hl 3 rfl) ?_
      refine rd_call (va_runS (As := [.long x, .int (iI ((n : Nat) : Int))]) (rest := [.long y, .int (iI ((n : Nat) : Int)), .long (plcN x y n)]) ⟨hx, hb, hml, hown, hts⟩ (mX0_entryAt l x n (by omega)) (va_cwS 2 hts gX0_placesOf_X0_entryAt rfl rfl rfl hdX0_entryAt ⟨Nat.le_of_ble_eq_true rfl, Nat.le_of_ble_eq_true rfl⟩) tt_pre rfl rfl hl.1 rfl (lv_room (Nat.le_of_ble_eq_true rfl)) dX0_placesOf_21 ⟨Nat.le_of_ble_eq_true rfl, Nat.le_of_ble_eq_true rfl⟩) ?_
      have he_21 := ent_lt x n
      refine rd_call (va_runS (As := [.long y, .int (iI ((ent x n : Nat) : Int))]) (rest := [.int (iI ((n : Nat) : Int)), .long (plcN x y n)]) ⟨hx, hb, hml, hown, hts⟩ (mX0_placeIn l y (ent x n) (by omega)) (va_cwS 2 hts gX0_placesOf_X0_placeIn rfl rfl rfl hdX0_placeIn ⟨Nat.le_of_ble_eq_true rfl, Nat.le_of_ble_eq_true rfl⟩) tt_pre rfl rfl hl.1 rfl (lv_room (Nat.le_of_ble_eq_true rfl)) dX0_placesOf_24 ⟨Nat.le_of_ble_eq_true rfl, Nat.le_of_ble_eq_true rfl⟩) ?_
      have hi_24 := pin_in y (ent x n)
      refine st_i (y := iI ((pn y (ent x n) : Nat) : Int)) (congrArg iI (pn_eq (h n (by omega)))) ?_
      refine rd_call (va_runS (As := [.long (plcN x y n), .int (iI ((n : Nat) : Int)), .int (iI ((pn y (ent x n) : Nat) : Int))]) (rest := []) ⟨hx, hb, hml, hown, hts⟩ (mX0_withEntry l (plcN x y n) n (pn y (ent x n)) (by omega)) (va_cwS 3 hts gX0_placesOf_X0_withEntry rfl rfl rfl hdX0_withEntry ⟨Nat.le_of_ble_eq_true rfl, Nat.le_of_ble_eq_true rfl⟩) tt_pre rfl rfl hl.1 rfl (lv_room (Nat.le_of_ble_eq_true rfl)) dX0_placesOf_27 ⟨Nat.le_of_ble_eq_true rfl, Nat.le_of_ble_eq_true rfl⟩) ?_
      refine st_l (y := plcN x y (n + 1)) (rfl) ?_
      refine lv_lstore (lv' := [(4, .long (plcN x y (n + 1))), (0, .long x), (2, .long y), (6, .int (iI ((n : Nat) : Int)))]) hx hb dX0_placesOf_30 hl (by decide) rfl (fun ls hl => ?_)
      refine lv_iinc (v := iI ((n + 1 : Nat) : Int)) (lv' := [(6, .int (iI ((n + 1 : Nat) : Int))), (4, .long (plcN x y (n + 1))), (0, .long x), (2, .long y)]) hx hb dX0_placesOf_32 hl (k := 3) rfl (iI_inc (by omega)) (by decide) rfl (fun ls hl => ?_)
      refine lv_goto (tgt := 6) hx hb dX0_placesOf_35 (by decide) ?_
      exact ih_6_1 (n + 1) (by omega)  _ (lv_sub hl [2, 3, 1, 0] rfl)
  exact lp_6_1 12 0 (by omega)  _ (lv_sub hl [2, 3, 1, 0] rfl)

set_option maxHeartbeats 4000000 in
set_option maxRecDepth 100000 in
theorem mX0_areNeighbours (l : Launch) (x : Int64) (p k : Nat) (h : p + k ≤ 16) : rd l yX0_areNeighbours wsX0_areNeighbours { frames := 1, cells := 0, slots := 0, locals := 22 } [.long x, .int (iI ((p : Nat) : Int)), .int (iI ((k : Nat) : Int))] tt_ (some (.int (iI (bI (nbr x p k))))) := by
  refine Met.ofW (cc := cX0_areNeighbours) (maxL := 7) (ret := (some .boolean)) (by decide) rfl ?_
  intro P0 e s m args below meth c s₁ B hml hv
  obtain ⟨rfl, -⟩ := hv
  have hx := B.exec
  have hb := B.bytes
  have hr := B.returns
  have hts := atoms_spec (ws := wsX0_areNeighbours) B.pre
  have hown : s.vm.findClass RX0 = some m.cls := findClass_of_methodNamed B.named
  have hlocks := B.notSynchronized
  have hl := lv_entry ([.long x, .int (iI ((p : Nat) : Int)), .int (iI ((k : Nat) : Int))]) (n := 7) (Nat.le_of_ble_eq_true rfl)
  rw [lg_entry_eq]
  generalize (lg_sl ([.long x, .int (iI ((p : Nat) : Int)), .int (iI ((k : Nat) : Int))]) ++ List.replicate (7 - (lg_sl ([.long x, .int (iI ((p : Nat) : Int)), .int (iI ((k : Nat) : Int))])).length) Slot.unset).toArray = ls at hl ⊢
  have hl : lv_has ls 7 [(0, .long x), (2, .int (iI ((p : Nat) : Int))), (3, .int (iI ((k : Nat) : Int)))] := hl
  refine ib_bi hx hb dX0_areNeighbours_0 (by decide) ?_
  refine lv_istore (lv' := [(4, .int (iI 12)), (0, .long x), (2, .int (iI ((p : Nat) : Int))), (3, .int (iI ((k : Nat) : Int)))]) hx hb dX0_areNeighbours_2 hl (by decide) rfl (fun ls hl => ?_)
  refine ib_const hx hb dX0_areNeighbours_4 ?_
  refine lv_istore (lv' := [(5, .int (iI (-1))), (4, .int (iI 12)), (0, .long x), (2, .int (iI ((p : Nat) : Int))), (3, .int (iI ((k : Nat) : Int)))]) hx hb dX0_areNeighbours_5 hl (by decide) rfl (fun ls hl => ?_)
  refine lv_iload_n hx hb dX0_areNeighbours_7 rfl (lv_at hl 3 rfl) ?_
  refine lv_istore (lv' := [(6, .int (iI ((p : Nat) : Int))), (5, .int (iI (-1))), (4, .int (iI 12)), (0, .long x), (2, .int (iI ((p : Nat) : Int))), (3, .int (iI ((k : Nat) : Int)))]) hx hb dX0_areNeighbours_8 hl (by decide) rfl (fun ls hl => ?_)
  have lp_10_1 : ∀ (j n : Nat), n + j = k → ∀ ls : Array Slot, lv_has ls 7 [(0, .long x), (2, .int (iI ((p : Nat) : Int))), (3, .int (iI ((k : Nat) : Int))), (4, .int (iI ((loN x p n : Nat) : Int))), (5, .int (iI (hiN x p n))), (6, .int (iI ((p + n : Nat) : Int)))] → W P0 l e (headSpec wsX0_areNeighbours { frames := 1, cells := 0, slots := 0, locals := 22 }).room s m ([.long x, .int (iI ((p : Nat) : Int)), .int (iI ((k : Nat) : Int))] : List Value).toArray below meth c s.heap [] 0 0 (MQ below (rdQ (some (.int (iI (bI (nbr x p k)))))) ([.long x, .int (iI ((p : Nat) : Int)), .int (iI ((k : Nat) : Int))] : List Value).toArray s 0 0 (fun _ => False)) (F0 m 10 ls []) := by
    intro j
    induction j with
    | zero =>
      intro n hn_10  ls hl
      have hlo := loN_in x p n
      have hhi := hiN_in x p n
      refine lv_iload hx hb dX0_areNeighbours_10 (lv_at hl 5 rfl) ?_
      refine lv_iload_n hx hb dX0_areNeighbours_12 rfl (lv_at hl 1 rfl) ?_
      refine lv_iload_n hx hb dX0_areNeighbours_13 rfl (lv_at hl 2 rfl) ?_
      refine ib_add (z := ((p + k : Nat) : Int)) hx hb dX0_areNeighbours_14 (by omega) ?_
      refine ib_icmp_ge (tgt := 50) hx hb dX0_areNeighbours_15 (by decide) ⟨by omega, by omega⟩ ⟨by omega, by omega⟩ (fun c_15 => ?_) (fun c_15 => absurd c_15 (by omega))
      refine lv_iload hx hb dX0_areNeighbours_50 (lv_at hl 4 rfl) ?_
      refine lv_iload hx hb dX0_areNeighbours_52 (lv_at hl 3 rfl) ?_
      refine ib_sub (z := (hiN x p n) - ((loN x p n : Nat) : Int)) hx hb dX0_areNeighbours_54 (by omega) ?_
      refine lv_iload_n hx hb dX0_areNeighbours_55 rfl (lv_at hl 2 rfl) ?_
      refine ib_const hx hb dX0_areNeighbours_56 ?_
      refine ib_sub (z := ((k : Nat) : Int) - 1) hx hb dX0_areNeighbours_57 (by omega) ?_
      refine ib_icmp_ne (tgt := 65) hx hb dX0_areNeighbours_58 (by decide) ⟨by omega, by omega⟩ ⟨by omega, by omega⟩ (fun c_58 => ?_) (fun c_58 => ?_)
      · skip
        refine ib_const hx hb dX0_areNeighbours_65 ?_
        refine st_i (y := iI (bI (nbr x p k))) (congrArg iI (nbr_f (show n = k by omega) c_58).symm) ?_
        exact W.zret hx hb hr (bI_nar _) (fun t ht _ => ⟨rfl, ht⟩) (fun _ h => nomatch h) dX0_areNeighbours_66
      · skip
        refine ib_const hx hb dX0_areNeighbours_61 ?_
        refine lv_goto (tgt := 66) hx hb dX0_areNeighbours_62 (by decide) ?_
        refine st_i (y := iI (bI (nbr x p k))) (congrArg iI (nbr_t (show n = k by omega) c_58).symm) ?_
        exact W.zret hx hb hr (bI_nar _) (fun t ht _ => ⟨rfl, ht⟩) (fun _ h => nomatch h) dX0_areNeighbours_66
    | succ j ih_10_1 =>
      intro n hn_10  ls hl
      have hlo := loN_in x p n
      have hhi := hiN_in x p n
      refine lv_iload hx hb dX0_areNeighbours_10 (lv_at hl 5 rfl) ?_
      refine lv_iload_n hx hb dX0_areNeighbours_12 rfl (lv_at hl 1 rfl) ?_
      refine lv_iload_n hx hb dX0_areNeighbours_13 rfl (lv_at hl 2 rfl) ?_
      refine ib_add (z := ((p + k : Nat) : Int)) hx hb dX0_areNeighbours_14 (by omega) ?_
      refine ib_icmp_ge (tgt := 50) hx hb dX0_areNeighbours_15 (by decide) ⟨by omega, by omega⟩ ⟨by omega, by omega⟩ (fun c_15 => absurd c_15 (by omega)) (fun c_15 => ?_)
      refine lv_iload hx hb dX0_areNeighbours_18 (lv_at hl 3 rfl) ?_
      refine lv_lload_n hx hb dX0_areNeighbours_20 rfl (lv_at hl 0 rfl) ?_
      refine lv_iload hx hb dX0_areNeighbours_21 (lv_at hl 5 rfl) ?_
      refine rd_call (va_runS (As := [.long x, .int (iI ((p + n : Nat) : Int))]) (rest := [.int (iI ((loN x p n : Nat) : Int))]) ⟨hx, hb, hml, hown, hts⟩ (mX0_entryAt l x (p + n) (by omega)) (va_cwS 2 hts gX0_areNeighbours_X0_entryAt rfl rfl rfl hdX0_entryAt ⟨Nat.le_of_ble_eq_true rfl, Nat.le_of_ble_eq_true rfl⟩) tt_pre rfl rfl hl.1 rfl (lv_room (Nat.le_of_ble_eq_true rfl)) dX0_areNeighbours_23 ⟨Nat.le_of_ble_eq_true rfl, Nat.le_of_ble_eq_true rfl⟩) ?_
      have he_23 := ent_lt x (p + n)
      refine va_mmin hx hb (hml.trans hl.1.symm) hown (hts (.methodLink RX0 153 Lib.Math.min.name) (by decide +kernel)) (hts (.static Lib.Math.min.name) (by decide +kernel)) (hts (.initialized "java/lang/Math") (by decide +kernel)) (hts (.code Lib.Math.min.name Lib.Math.min.code 2 (some .int)) (by decide +kernel)) (Nat.le_of_ble_eq_true rfl) (Nat.le_of_ble_eq_true rfl) (Nat.le_of_ble_eq_true rfl) (Nat.le_of_ble_eq_true rfl) dX0_areNeighbours_26 ?_
      refine st_i (y := iI ((min (loN x p n) (ent x (p + n)) : Nat) : Int)) ((iI_min ⟨by omega, by omega⟩ ⟨by omega, by omega⟩).trans (congrArg iI (by omega))) ?_
      refine st_i (y := iI ((loN x p (n + 1) : Nat) : Int)) (rfl) ?_
      refine lv_istore (lv' := [(4, .int (iI ((loN x p (n + 1) : Nat) : Int))), (0, .long x), (2, .int (iI ((p : Nat) : Int))), (3, .int (iI ((k : Nat) : Int))), (5, .int (iI (hiN x p n))), (6, .int (iI ((p + n : Nat) : Int)))]) hx hb dX0_areNeighbours_29 hl (by decide) rfl (fun ls hl => ?_)
      refine lv_iload hx hb dX0_areNeighbours_31 (lv_at hl 4 rfl) ?_
      refine lv_lload_n hx hb dX0_areNeighbours_33 rfl (lv_at hl 1 rfl) ?_
      refine lv_iload hx hb dX0_areNeighbours_34 (lv_at hl 5 rfl) ?_
      refine rd_call (va_runS (As := [.long x, .int (iI ((p + n : Nat) : Int))]) (rest := [.int (iI (hiN x p n))]) ⟨hx, hb, hml, hown, hts⟩ (mX0_entryAt l x (p + n) (by omega)) (va_cwS 2 hts gX0_areNeighbours_X0_entryAt rfl rfl rfl hdX0_entryAt ⟨Nat.le_of_ble_eq_true rfl, Nat.le_of_ble_eq_true rfl⟩) tt_pre rfl rfl hl.1 rfl (lv_room (Nat.le_of_ble_eq_true rfl)) dX0_areNeighbours_36 ⟨Nat.le_of_ble_eq_true rfl, Nat.le_of_ble_eq_true rfl⟩) ?_
      have he_36 := ent_lt x (p + n)
      refine va_mmax hx hb (hml.trans hl.1.symm) hown (hts (.methodLink RX0 98 Lib.Math.max.name) (by decide +kernel)) (hts (.static Lib.Math.max.name) (by decide +kernel)) (hts (.initialized "java/lang/Math") (by decide +kernel)) (hts (.code Lib.Math.max.name Lib.Math.max.code 2 (some .int)) (by decide +kernel)) (Nat.le_of_ble_eq_true rfl) (Nat.le_of_ble_eq_true rfl) (Nat.le_of_ble_eq_true rfl) (Nat.le_of_ble_eq_true rfl) dX0_areNeighbours_39 ?_
      refine st_i (y := iI (max (hiN x p n) ((ent x (p + n) : Nat) : Int))) ((iI_max ⟨by omega, by omega⟩ ⟨by omega, by omega⟩).trans (congrArg iI (by omega))) ?_
      refine st_i (y := iI (hiN x p (n + 1))) (rfl) ?_
      refine lv_istore (lv' := [(5, .int (iI (hiN x p (n + 1)))), (4, .int (iI ((loN x p (n + 1) : Nat) : Int))), (0, .long x), (2, .int (iI ((p : Nat) : Int))), (3, .int (iI ((k : Nat) : Int))), (6, .int (iI ((p + n : Nat) : Int)))]) hx hb dX0_areNeighbours_42 hl (by decide) rfl (fun ls hl => ?_)
      refine lv_iinc (v := iI (((p + n) + 1 : Nat) : Int)) (lv' := [(6, .int (iI (((p + n) + 1 : Nat) : Int))), (5, .int (iI (hiN x p (n + 1)))), (4, .int (iI ((loN x p (n + 1) : Nat) : Int))), (0, .long x), (2, .int (iI ((p : Nat) : Int))), (3, .int (iI ((k : Nat) : Int)))]) hx hb dX0_areNeighbours_44 hl (k := 5) rfl (iI_inc (by omega)) (by decide) rfl (fun ls hl => ?_)
      refine lv_goto (tgt := 10) hx hb dX0_areNeighbours_47 (by decide) ?_
      exact ih_10_1 (n + 1) (by omega)  _ (lv_sub hl [3, 4, 5, 2, 1, 0] rfl)
  exact lp_10_1 k 0 (by omega)  _ (lv_sub hl [3, 4, 5, 2, 1, 0] rfl)

set_option maxHeartbeats 4000000 in
set_option maxRecDepth 100000 in
theorem mX0_countKept (l : Launch) (x y : Int64) (k : Nat) (hall : hasAll x y) (h1 : 1 ≤ k) (h : k ≤ 12) : rd l yX0_countKept wsX0_countKept { frames := 3, cells := 0, slots := 0, locals := 71 } [.long x, .long y, .int (iI ((k : Nat) : Int))] tt_ (some (.int (iI ((ckN (plcN x y 12) k (13 - k) : Nat) : Int)))) := by
  refine Met.ofW (cc := cX0_countKept) (maxL := 9) (ret := (some .int)) (by decide) rfl ?_
  intro P0 e s m args below meth c s₁ B hml hv
  obtain ⟨rfl, -⟩ := hv
  have hx := B.exec
  have hb := B.bytes
  have hr := B.returns
  have hts := atoms_spec (ws := wsX0_countKept) B.pre
  have hown : s.vm.findClass RX0 = some m.cls := findClass_of_methodNamed B.named
  have hlocks := B.notSynchronized
  have hl := lv_entry ([.long x, .long y, .int (iI ((k : Nat) : Int))]) (n := 9) (Nat.le_of_ble_eq_true rfl)
  rw [lg_entry_eq]
  generalize (lg_sl ([.long x, .long y, .int (iI ((k : Nat) : Int))]) ++ List.replicate (9 - (lg_sl ([.long x, .long y, .int (iI ((k : Nat) : Int))])).length) Slot.unset).toArray = ls at hl ⊢
  have hl : lv_has ls 9 [(0, .long x), (2, .long y), (4, .int (iI ((k : Nat) : Int)))] := hl
  refine lv_lload_n hx hb dX0_countKept_0 rfl (lv_at hl 0 rfl) ?_
  refine lv_lload_n hx hb dX0_countKept_1 rfl (lv_at hl 1 rfl) ?_
  refine rd_call (va_runS (As := [.long x, .long y]) (rest := []) ⟨hx, hb, hml, hown, hts⟩ (mX0_placesOf l x y hall) (va_cwS 2 hts gX0_countKept_X0_placesOf rfl rfl rfl hdX0_placesOf ⟨Nat.le_of_ble_eq_true rfl, Nat.le_of_ble_eq_true rfl⟩) tt_pre rfl rfl hl.1 rfl (lv_room (Nat.le_of_ble_eq_true rfl)) dX0_countKept_2 ⟨Nat.le_of_ble_eq_true rfl, Nat.le_of_ble_eq_true rfl⟩) ?_
  refine lv_lstore (lv' := [(5, .long (plcN x y 12)), (0, .long x), (2, .long y), (4, .int (iI ((k : Nat) : Int)))]) hx hb dX0_countKept_5 hl (by decide) rfl (fun ls hl => ?_)
  refine ib_const hx hb dX0_countKept_7 ?_
  refine lv_istore (lv' := [(7, .int (iI 0)), (5, .long (plcN x y 12)), (0, .long x), (2, .long y), (4, .int (iI ((k : Nat) : Int)))]) hx hb dX0_countKept_8 hl (by decide) rfl (fun ls hl => ?_)
  refine ib_const hx hb dX0_countKept_10 ?_
  refine lv_istore (lv' := [(8, .int (iI 0)), (7, .int (iI 0)), (5, .long (plcN x y 12)), (0, .long x), (2, .long y), (4, .int (iI ((k : Nat) : Int)))]) hx hb dX0_countKept_11 hl (by decide) rfl (fun ls hl => ?_)
  have lp_13_1 : ∀ (j n : Nat), n + j = 13 - k → ∀ ls : Array Slot, lv_has ls 9 [(4, .int (iI ((k : Nat) : Int))), (5, .long (plcN x y 12)), (7, .int (iI ((ckN (plcN x y 12) k n : Nat) : Int))), (8, .int (iI ((n : Nat) : Int)))] → W P0 l e (headSpec wsX0_countKept { frames := 3, cells := 0, slots := 0, locals := 71 }).room s m ([.long x, .long y, .int (iI ((k : Nat) : Int))] : List Value).toArray below meth c s.heap [] 0 0 (MQ below (rdQ (some (.int (iI ((ckN (plcN x y 12) k (13 - k) : Nat) : Int))))) ([.long x, .long y, .int (iI ((k : Nat) : Int))] : List Value).toArray s 0 0 (fun _ => False)) (F0 m 13 ls []) := by
    intro j
    induction j with
    | zero =>
      intro n hn_13  ls hl
      have hc := ckN_le (plcN x y 12) k n
      refine lv_iload hx hb dX0_countKept_13 (lv_at hl 3 rfl) ?_
      refine lv_iload hx hb dX0_countKept_15 (lv_at hl 0 rfl) ?_
      refine ib_add (z := ((n + k : Nat) : Int)) hx hb dX0_countKept_17 (by omega) ?_
      refine ib_bi hx hb dX0_countKept_18 (by decide) ?_
      refine ib_icmp_gt (tgt := 44) hx hb dX0_countKept_20 (by decide) ⟨by omega, by omega⟩ ⟨by omega, by omega⟩ (fun c_20 => ?_) (fun c_20 => absurd c_20 (by omega))
      refine lv_iload hx hb dX0_countKept_44 (lv_at hl 2 rfl) ?_
      refine st_i (y := iI ((ckN (plcN x y 12) k (13 - k) : Nat) : Int)) (congrArg (fun z : Nat => iI ((ckN (plcN x y 12) k z : Nat) : Int)) (show n = 13 - k by omega)) ?_
      exact W.iret hx hb hr (fun t ht _ => ⟨rfl, ht⟩) (fun _ h => nomatch h) dX0_countKept_46
    | succ j ih_13_1 =>
      intro n hn_13  ls hl
      have hc := ckN_le (plcN x y 12) k n
      refine lv_iload hx hb dX0_countKept_13 (lv_at hl 3 rfl) ?_
      refine lv_iload hx hb dX0_countKept_15 (lv_at hl 0 rfl) ?_
      refine ib_add (z := ((n + k : Nat) : Int)) hx hb dX0_countKept_17 (by omega) ?_
      refine ib_bi hx hb dX0_countKept_18 (by decide) ?_
      refine ib_icmp_gt (tgt := 44) hx hb dX0_countKept_20 (by decide) ⟨by omega, by omega⟩ ⟨by omega, by omega⟩ (fun c_20 => absurd c_20 (by omega)) (fun c_20 => ?_)
      refine lv_lload hx hb dX0_countKept_23 (lv_at hl 1 rfl) ?_
      refine lv_iload hx hb dX0_countKept_25 (lv_at hl 3 rfl) ?_
      refine lv_iload hx hb dX0_countKept_27 (lv_at hl 0 rfl) ?_
      refine rd_call (va_runS (As := [.long (plcN x y 12), .int (iI ((n : Nat) : Int)), .int (iI ((k : Nat) : Int))]) (rest := []) ⟨hx, hb, hml, hown, hts⟩ (mX0_areNeighbours l (plcN x y 12) n k (by omega)) (va_cwS 3 hts gX0_countKept_X0_areNeighbours rfl rfl rfl hdX0_areNeighbours ⟨Nat.le_of_ble_eq_true rfl, Nat.le_of_ble_eq_true rfl⟩) tt_pre rfl rfl hl.1 rfl (lv_room (Nat.le_of_ble_eq_true rfl)) dX0_countKept_29 ⟨Nat.le_of_ble_eq_true rfl, Nat.le_of_ble_eq_true rfl⟩) ?_
      refine bb_eq (tgt := 38) hx hb dX0_countKept_32 (by decide) (fun c_32 => ?_) (fun c_32 => ?_)
      · skip
        refine lv_iinc (v := iI ((n + 1 : Nat) : Int)) (lv' := [(8, .int (iI ((n + 1 : Nat) : Int))), (4, .int (iI ((k : Nat) : Int))), (5, .long (plcN x y 12)), (7, .int (iI ((ckN (plcN x y 12) k n : Nat) : Int)))]) hx hb dX0_countKept_38 hl (k := 3) rfl (iI_inc (by omega)) (by decide) rfl (fun ls hl => ?_)
        refine lv_goto (tgt := 13) hx hb dX0_countKept_41 (by decide) ?_
        have hl : lv_has ls 9 [(8, .int (iI ((n + 1 : Nat) : Int))), (4, .int (iI ((k : Nat) : Int))), (5, .long (plcN x y 12)), (7, .int (iI ((ckN (plcN x y 12) k (n + 1) : Nat) : Int)))] := by
          have e9 : iI ((ckN (plcN x y 12) k n : Nat) : Int) = iI ((ckN (plcN x y 12) k (n + 1) : Nat) : Int) := congrArg (fun z : Nat => iI ((z : Nat) : Int)) (if_neg c_32).symm
          rw [← e9]; exact hl
        exact ih_13_1 (n + 1) (by omega)  _ (lv_sub hl [1, 2, 3, 0] rfl)
      · skip
        refine lv_iinc (v := iI (((ckN (plcN x y 12) k n) + 1 : Nat) : Int)) (lv' := [(7, .int (iI (((ckN (plcN x y 12) k n) + 1 : Nat) : Int))), (4, .int (iI ((k : Nat) : Int))), (5, .long (plcN x y 12)), (8, .int (iI ((n : Nat) : Int)))]) hx hb dX0_countKept_35 hl (k := 2) rfl (iI_inc (by omega)) (by decide) rfl (fun ls hl => ?_)
        refine lv_iinc (v := iI ((n + 1 : Nat) : Int)) (lv' := [(8, .int (iI ((n + 1 : Nat) : Int))), (7, .int (iI (((ckN (plcN x y 12) k n) + 1 : Nat) : Int))), (4, .int (iI ((k : Nat) : Int))), (5, .long (plcN x y 12))]) hx hb dX0_countKept_38 hl (k := 3) rfl (iI_inc (by omega)) (by decide) rfl (fun ls hl => ?_)
        refine lv_goto (tgt := 13) hx hb dX0_countKept_41 (by decide) ?_
        have hl : lv_has ls 9 [(8, .int (iI ((n + 1 : Nat) : Int))), (7, .int (iI ((ckN (plcN x y 12) k (n + 1) : Nat) : Int))), (4, .int (iI ((k : Nat) : Int))), (5, .long (plcN x y 12))] := by
          have e9 : iI (((ckN (plcN x y 12) k n) + 1 : Nat) : Int) = iI ((ckN (plcN x y 12) k (n + 1) : Nat) : Int) := congrArg (fun z : Nat => iI ((z : Nat) : Int)) (if_pos c_32).symm
          rw [← e9]; exact hl
        exact ih_13_1 (n + 1) (by omega)  _ (lv_sub hl [2, 3, 1, 0] rfl)
  exact lp_13_1 (13 - k) 0 (by omega)  _ (lv_sub hl [5, 2, 1, 0] rfl)

set_option maxHeartbeats 4000000 in
set_option maxRecDepth 100000 in
theorem mX0_requireRow (l : Launch) (z : Int) (hz : inI z) (h : z = 0 ∨ z = 1) : rd l yX0_requireRow wsX0_requireRow { frames := 0, cells := 0, slots := 0, locals := 0 } [.int (iI z)] tt_ (none) := by
  refine Met.ofW (cc := cX0_requireRow) (maxL := 1) (ret := none) (by decide) rfl ?_
  intro P0 e s m args below meth c s₁ B hml hv
  obtain ⟨rfl, -⟩ := hv
  have hx := B.exec
  have hb := B.bytes
  have hr := B.returns
  have hts := atoms_spec (ws := wsX0_requireRow) B.pre
  have hown : s.vm.findClass RX0 = some m.cls := findClass_of_methodNamed B.named
  have hlocks := B.notSynchronized
  have hl := lv_entry ([.int (iI z)]) (n := 1) (Nat.le_of_ble_eq_true rfl)
  rw [lg_entry_eq]
  generalize (lg_sl ([.int (iI z)]) ++ List.replicate (1 - (lg_sl ([.int (iI z)])).length) Slot.unset).toArray = ls at hl ⊢
  have hl : lv_has ls 1 [(0, .int (iI z))] := hl
  have hz1 := hz.1
  have hz2 := hz.2
  refine lv_iload_n hx hb dX0_requireRow_0 rfl (lv_at hl 0 rfl) ?_
  refine ib_if_eq (tgt := 19) hx hb dX0_requireRow_1 (by decide) ⟨by omega, by omega⟩ (fun c_1 => ?_) (fun c_1 => ?_)
  · skip
    exact W.vret hx hb hr (fun t ht _ => ⟨rfl, ht⟩) (fun _ h => nomatch h) dX0_requireRow_19
  · skip
    refine lv_iload_n hx hb dX0_requireRow_4 rfl (lv_at hl 0 rfl) ?_
    refine ib_const hx hb dX0_requireRow_5 ?_
    refine ib_icmp_eq (tgt := 19) hx hb dX0_requireRow_6 (by decide) ⟨by omega, by omega⟩ ⟨by omega, by omega⟩ (fun c_6 => ?_) (fun c_6 => absurd c_6 (by omega))
    exact W.vret hx hb hr (fun t ht _ => ⟨rfl, ht⟩) (fun _ h => nomatch h) dX0_requireRow_19

set_option maxHeartbeats 4000000 in
set_option maxRecDepth 100000 in
theorem mX0_requirePlace (l : Launch) (z w : Int) (hz : inI z) (hw : inI w) (h : 0 ≤ z ∧ z ≤ w) : rd l yX0_requirePlace wsX0_requirePlace { frames := 0, cells := 0, slots := 0, locals := 0 } [.int (iI z), .int (iI w)] tt_ (none) := by
  refine Met.ofW (cc := cX0_requirePlace) (maxL := 2) (ret := none) (by decide) rfl ?_
  intro P0 e s m args below meth c s₁ B hml hv
  obtain ⟨rfl, -⟩ := hv
  have hx := B.exec
  have hb := B.bytes
  have hr := B.returns
  have hts := atoms_spec (ws := wsX0_requirePlace) B.pre
  have hown : s.vm.findClass RX0 = some m.cls := findClass_of_methodNamed B.named
  have hlocks := B.notSynchronized
  have hl := lv_entry ([.int (iI z), .int (iI w)]) (n := 2) (Nat.le_of_ble_eq_true rfl)
  rw [lg_entry_eq]
  generalize (lg_sl ([.int (iI z), .int (iI w)]) ++ List.replicate (2 - (lg_sl ([.int (iI z), .int (iI w)])).length) Slot.unset).toArray = ls at hl ⊢
  have hl : lv_has ls 2 [(0, .int (iI z)), (1, .int (iI w))] := hl
  have hz1 := hz.1
  have hz2 := hz.2
  have hw1 := hw.1
  have hw2 := hw.2
  refine lv_iload_n hx hb dX0_requirePlace_0 rfl (lv_at hl 0 rfl) ?_
  refine ib_if_lt (tgt := 9) hx hb dX0_requirePlace_1 (by decide) ⟨by omega, by omega⟩ (fun c_1 => absurd c_1 (by omega)) (fun c_1 => ?_)
  refine lv_iload_n hx hb dX0_requirePlace_4 rfl (lv_at hl 0 rfl) ?_
  refine lv_iload_n hx hb dX0_requirePlace_5 rfl (lv_at hl 1 rfl) ?_
  refine ib_icmp_le (tgt := 19) hx hb dX0_requirePlace_6 (by decide) ⟨by omega, by omega⟩ ⟨by omega, by omega⟩ (fun c_6 => ?_) (fun c_6 => absurd c_6 (by omega))
  exact W.vret hx hb hr (fun t ht _ => ⟨rfl, ht⟩) (fun _ h => nomatch h) dX0_requirePlace_19

set_option maxHeartbeats 4000000 in
set_option maxRecDepth 100000 in
theorem mX0_requireRange (l : Launch) (z v w : Int) (hz : inI z) (hv9 : inI v) (hw : inI w) (h : v ≤ z ∧ z ≤ w) : rd l yX0_requireRange wsX0_requireRange { frames := 0, cells := 0, slots := 0, locals := 0 } [.int (iI z), .int (iI v), .int (iI w)] tt_ (none) := by
  refine Met.ofW (cc := cX0_requireRange) (maxL := 3) (ret := none) (by decide) rfl ?_
  intro P0 e s m args below meth c s₁ B hml hv
  obtain ⟨rfl, -⟩ := hv
  have hx := B.exec
  have hb := B.bytes
  have hr := B.returns
  have hts := atoms_spec (ws := wsX0_requireRange) B.pre
  have hown : s.vm.findClass RX0 = some m.cls := findClass_of_methodNamed B.named
  have hlocks := B.notSynchronized
  have hl := lv_entry ([.int (iI z), .int (iI v), .int (iI w)]) (n := 3) (Nat.le_of_ble_eq_true rfl)
  rw [lg_entry_eq]
  generalize (lg_sl ([.int (iI z), .int (iI v), .int (iI w)]) ++ List.replicate (3 - (lg_sl ([.int (iI z), .int (iI v), .int (iI w)])).length) Slot.unset).toArray = ls at hl ⊢
  have hl : lv_has ls 3 [(0, .int (iI z)), (1, .int (iI v)), (2, .int (iI w))] := hl
  have hz1 := hz.1
  have hz2 := hz.2
  have hw1 := hw.1
  have hw2 := hw.2
  have hv1 := hv9.1
  have hv2 := hv9.2
  refine lv_iload_n hx hb dX0_requireRange_0 rfl (lv_at hl 0 rfl) ?_
  refine lv_iload_n hx hb dX0_requireRange_1 rfl (lv_at hl 1 rfl) ?_
  refine ib_icmp_lt (tgt := 10) hx hb dX0_requireRange_2 (by decide) ⟨by omega, by omega⟩ ⟨by omega, by omega⟩ (fun c_2 => absurd c_2 (by omega)) (fun c_2 => ?_)
  refine lv_iload_n hx hb dX0_requireRange_5 rfl (lv_at hl 0 rfl) ?_
  refine lv_iload_n hx hb dX0_requireRange_6 rfl (lv_at hl 2 rfl) ?_
  refine ib_icmp_le (tgt := 20) hx hb dX0_requireRange_7 (by decide) ⟨by omega, by omega⟩ ⟨by omega, by omega⟩ (fun c_7 => ?_) (fun c_7 => absurd c_7 (by omega))
  exact W.vret hx hb hr (fun t ht _ => ⟨rfl, ht⟩) (fun _ h => nomatch h) dX0_requireRange_20

set_option maxHeartbeats 4000000 in
set_option maxRecDepth 100000 in
theorem mX0_requireForm (l : Launch) (z w : Int) (hz : inI z) (hw : inI w) (h : 0 ≤ z ∧ z ≤ 3 ∧ 0 ≤ w ∧ w ≤ 11) : rd l yX0_requireForm wsX0_requireForm { frames := 1, cells := 0, slots := 0, locals := 22 } [.int (iI z), .int (iI w)] tt_ (none) := by
  refine Met.ofW (cc := cX0_requireForm) (maxL := 2) (ret := none) (by decide) rfl ?_
  intro P0 e s m args below meth c s₁ B hml hv
  obtain ⟨rfl, -⟩ := hv
  have hx := B.exec
  have hb := B.bytes
  have hr := B.returns
  have hts := atoms_spec (ws := wsX0_requireForm) B.pre
  have hown : s.vm.findClass RX0 = some m.cls := findClass_of_methodNamed B.named
  have hlocks := B.notSynchronized
  have hl := lv_entry ([.int (iI z), .int (iI w)]) (n := 2) (Nat.le_of_ble_eq_true rfl)
  rw [lg_entry_eq]
  generalize (lg_sl ([.int (iI z), .int (iI w)]) ++ List.replicate (2 - (lg_sl ([.int (iI z), .int (iI w)])).length) Slot.unset).toArray = ls at hl ⊢
  have hl : lv_has ls 2 [(0, .int (iI z)), (1, .int (iI w))] := hl
  have hz1 := hz.1
  have hz2 := hz.2
  have hw1 := hw.1
  have hw2 := hw.2
  refine lv_iload_n hx hb dX0_requireForm_0 rfl (lv_at hl 0 rfl) ?_
  refine ib_const hx hb dX0_requireForm_1 ?_
  refine ib_const hx hb dX0_requireForm_2 ?_
  refine rd_call (va_runS (As := [.int (iI z), .int (iI 0), .int (iI 3)]) (rest := []) ⟨hx, hb, hml, hown, hts⟩ (mX0_requireRange l z 0 3 ⟨by omega, by omega⟩ ⟨by omega, by omega⟩ ⟨by omega, by omega⟩ (by omega)) (va_cwS 3 hts gX0_requireForm_X0_requireRange rfl rfl rfl hdX0_requireRange ⟨Nat.le_of_ble_eq_true rfl, Nat.le_of_ble_eq_true rfl⟩) tt_pre rfl rfl hl.1 rfl (lv_room (Nat.le_of_ble_eq_true rfl)) dX0_requireForm_3 ⟨Nat.le_of_ble_eq_true rfl, Nat.le_of_ble_eq_true rfl⟩) ?_
  refine lv_iload_n hx hb dX0_requireForm_6 rfl (lv_at hl 1 rfl) ?_
  refine ib_const hx hb dX0_requireForm_7 ?_
  refine ib_bi hx hb dX0_requireForm_8 (by decide) ?_
  refine rd_call (va_runS (As := [.int (iI w), .int (iI 0), .int (iI 11)]) (rest := []) ⟨hx, hb, hml, hown, hts⟩ (mX0_requireRange l w 0 11 ⟨by omega, by omega⟩ ⟨by omega, by omega⟩ ⟨by omega, by omega⟩ (by omega)) (va_cwS 3 hts gX0_requireForm_X0_requireRange rfl rfl rfl hdX0_requireRange ⟨Nat.le_of_ble_eq_true rfl, Nat.le_of_ble_eq_true rfl⟩) tt_pre rfl rfl hl.1 rfl (lv_room (Nat.le_of_ble_eq_true rfl)) dX0_requireForm_10 ⟨Nat.le_of_ble_eq_true rfl, Nat.le_of_ble_eq_true rfl⟩) ?_
  exact W.vret hx hb hr (fun t ht _ => ⟨rfl, ht⟩) (fun _ h => nomatch h) dX0_requireForm_13

set_option maxHeartbeats 4000000 in
set_option maxRecDepth 100000 in
theorem mX0_requireFactor (l : Launch) (z : Int) (hz : inI z) (h : z = 1 ∨ z = 5 ∨ z = 7 ∨ z = 11) : rd l yX0_requireFactor wsX0_requireFactor { frames := 0, cells := 0, slots := 0, locals := 0 } [.int (iI z)] tt_ (none) := by
  refine Met.ofW (cc := cX0_requireFactor) (maxL := 1) (ret := none) (by decide) rfl ?_
  intro P0 e s m args below meth c s₁ B hml hv
  obtain ⟨rfl, -⟩ := hv
  have hx := B.exec
  have hb := B.bytes
  have hr := B.returns
  have hts := atoms_spec (ws := wsX0_requireFactor) B.pre
  have hown : s.vm.findClass RX0 = some m.cls := findClass_of_methodNamed B.named
  have hlocks := B.notSynchronized
  have hl := lv_entry ([.int (iI z)]) (n := 1) (Nat.le_of_ble_eq_true rfl)
  rw [lg_entry_eq]
  generalize (lg_sl ([.int (iI z)]) ++ List.replicate (1 - (lg_sl ([.int (iI z)])).length) Slot.unset).toArray = ls at hl ⊢
  have hl : lv_has ls 1 [(0, .int (iI z))] := hl
  have hz1 := hz.1
  have hz2 := hz.2
  refine lv_iload_n hx hb dX0_requireFactor_0 rfl (lv_at hl 0 rfl) ?_
  refine ib_const hx hb dX0_requireFactor_1 ?_
  refine ib_icmp_eq (tgt := 32) hx hb dX0_requireFactor_2 (by decide) ⟨by omega, by omega⟩ ⟨by omega, by omega⟩ (fun c_2 => ?_) (fun c_2 => ?_)
  · skip
    exact W.vret hx hb hr (fun t ht _ => ⟨rfl, ht⟩) (fun _ h => nomatch h) dX0_requireFactor_32
  · skip
    refine lv_iload_n hx hb dX0_requireFactor_5 rfl (lv_at hl 0 rfl) ?_
    refine ib_const hx hb dX0_requireFactor_6 ?_
    refine ib_icmp_eq (tgt := 32) hx hb dX0_requireFactor_7 (by decide) ⟨by omega, by omega⟩ ⟨by omega, by omega⟩ (fun c_7 => ?_) (fun c_7 => ?_)
    · skip
      exact W.vret hx hb hr (fun t ht _ => ⟨rfl, ht⟩) (fun _ h => nomatch h) dX0_requireFactor_32
    · skip
      refine lv_iload_n hx hb dX0_requireFactor_10 rfl (lv_at hl 0 rfl) ?_
      refine ib_bi hx hb dX0_requireFactor_11 (by decide) ?_
      refine ib_icmp_eq (tgt := 32) hx hb dX0_requireFactor_13 (by decide) ⟨by omega, by omega⟩ ⟨by omega, by omega⟩ (fun c_13 => ?_) (fun c_13 => ?_)
      · skip
        exact W.vret hx hb hr (fun t ht _ => ⟨rfl, ht⟩) (fun _ h => nomatch h) dX0_requireFactor_32
      · skip
        refine lv_iload_n hx hb dX0_requireFactor_16 rfl (lv_at hl 0 rfl) ?_
        refine ib_bi hx hb dX0_requireFactor_17 (by decide) ?_
        refine ib_icmp_eq (tgt := 32) hx hb dX0_requireFactor_19 (by decide) ⟨by omega, by omega⟩ ⟨by omega, by omega⟩ (fun c_19 => ?_) (fun c_19 => absurd c_19 (by omega))
        exact W.vret hx hb hr (fun t ht _ => ⟨rfl, ht⟩) (fun _ h => nomatch h) dX0_requireFactor_32

set_option maxHeartbeats 4000000 in
set_option maxRecDepth 100000 in
theorem mX0_requireSize (l : Launch) (z : Int) (hz : inI z) (h : z = 1 ∨ z = 2 ∨ z = 3 ∨ z = 4 ∨ z = 6 ∨ z = 12) : rd l yX0_requireSize wsX0_requireSize { frames := 0, cells := 0, slots := 0, locals := 0 } [.int (iI z)] tt_ (none) := by
  refine Met.ofW (cc := cX0_requireSize) (maxL := 1) (ret := none) (by decide) rfl ?_
  intro P0 e s m args below meth c s₁ B hml hv
  obtain ⟨rfl, -⟩ := hv
  have hx := B.exec
  have hb := B.bytes
  have hr := B.returns
  have hts := atoms_spec (ws := wsX0_requireSize) B.pre
  have hown : s.vm.findClass RX0 = some m.cls := findClass_of_methodNamed B.named
  have hlocks := B.notSynchronized
  have hl := lv_entry ([.int (iI z)]) (n := 1) (Nat.le_of_ble_eq_true rfl)
  rw [lg_entry_eq]
  generalize (lg_sl ([.int (iI z)]) ++ List.replicate (1 - (lg_sl ([.int (iI z)])).length) Slot.unset).toArray = ls at hl ⊢
  have hl : lv_has ls 1 [(0, .int (iI z))] := hl
  have hz1 := hz.1
  have hz2 := hz.2
  refine lv_iload_n hx hb dX0_requireSize_0 rfl (lv_at hl 0 rfl) ?_
  refine ib_const hx hb dX0_requireSize_1 ?_
  refine ib_icmp_eq (tgt := 42) hx hb dX0_requireSize_2 (by decide) ⟨by omega, by omega⟩ ⟨by omega, by omega⟩ (fun c_2 => ?_) (fun c_2 => ?_)
  · skip
    exact W.vret hx hb hr (fun t ht _ => ⟨rfl, ht⟩) (fun _ h => nomatch h) dX0_requireSize_42
  · skip
    refine lv_iload_n hx hb dX0_requireSize_5 rfl (lv_at hl 0 rfl) ?_
    refine ib_const hx hb dX0_requireSize_6 ?_
    refine ib_icmp_eq (tgt := 42) hx hb dX0_requireSize_7 (by decide) ⟨by omega, by omega⟩ ⟨by omega, by omega⟩ (fun c_7 => ?_) (fun c_7 => ?_)
    · skip
      exact W.vret hx hb hr (fun t ht _ => ⟨rfl, ht⟩) (fun _ h => nomatch h) dX0_requireSize_42
    · skip
      refine lv_iload_n hx hb dX0_requireSize_10 rfl (lv_at hl 0 rfl) ?_
      refine ib_const hx hb dX0_requireSize_11 ?_
      refine ib_icmp_eq (tgt := 42) hx hb dX0_requireSize_12 (by decide) ⟨by omega, by omega⟩ ⟨by omega, by omega⟩ (fun c_12 => ?_) (fun c_12 => ?_)
      · skip
        exact W.vret hx hb hr (fun t ht _ => ⟨rfl, ht⟩) (fun _ h => nomatch h) dX0_requireSize_42
      · skip
        refine lv_iload_n hx hb dX0_requireSize_15 rfl (lv_at hl 0 rfl) ?_
        refine ib_const hx hb dX0_requireSize_16 ?_
        refine ib_icmp_eq (tgt := 42) hx hb dX0_requireSize_17 (by decide) ⟨by omega, by omega⟩ ⟨by omega, by omega⟩ (fun c_17 => ?_) (fun c_17 => ?_)
        · skip
          exact W.vret hx hb hr (fun t ht _ => ⟨rfl, ht⟩) (fun _ h => nomatch h) dX0_requireSize_42
        · skip
          refine lv_iload_n hx hb dX0_requireSize_20 rfl (lv_at hl 0 rfl) ?_
          refine ib_bi hx hb dX0_requireSize_21 (by decide) ?_
          refine ib_icmp_eq (tgt := 42) hx hb dX0_requireSize_23 (by decide) ⟨by omega, by omega⟩ ⟨by omega, by omega⟩ (fun c_23 => ?_) (fun c_23 => ?_)
          · skip
            exact W.vret hx hb hr (fun t ht _ => ⟨rfl, ht⟩) (fun _ h => nomatch h) dX0_requireSize_42
          · skip
            refine lv_iload_n hx hb dX0_requireSize_26 rfl (lv_at hl 0 rfl) ?_
            refine ib_bi hx hb dX0_requireSize_27 (by decide) ?_
            refine ib_icmp_eq (tgt := 42) hx hb dX0_requireSize_29 (by decide) ⟨by omega, by omega⟩ ⟨by omega, by omega⟩ (fun c_29 => ?_) (fun c_29 => absurd c_29 (by omega))
            exact W.vret hx hb hr (fun t ht _ => ⟨rfl, ht⟩) (fun _ h => nomatch h) dX0_requireSize_42
end
section
/-! ===== rows, forms and sets as functions ===== -/
def tb (a0 a1 : Nat → Nat) (j : Nat) : Nat := if j < 12 then a0 j else a1 (j - 12)
def rw_ (r : Nat) (a0 a1 : Nat → Nat) : Nat → Nat := if r = 0 then a0 else a1
abbrev lt12 (a : Nat → Nat) : Prop := ∀ i, i < 12 → a i < 12
theorem tb_rw (a0 a1 : Nat → Nat) {r i : Nat} (hr : r < 2) (hi : i < 12) : tb a0 a1 (12 * r + i) = rw_ r a0 a1 i := by
  unfold tb rw_
  rcases (show r = 0 ∨ r = 1 by omega) with rfl | rfl
  · rw [if_pos (by omega), if_pos rfl, show 12 * 0 + i = i by omega]
  · rw [if_neg (by omega), if_neg (by decide), show 12 * 1 + i - 12 = i by omega]
theorem rw_lt {a0 a1 : Nat → Nat} (h0 : lt12 a0) (h1 : lt12 a1) (r : Nat) {i : Nat} (hi : i < 12) : rw_ r a0 a1 i < 12 := by
  unfold rw_
  split
  · exact h0 i hi
  · exact h1 i hi
/-- at which place of the row the form's tone stands -/
def fmf (code i : Nat) : Nat := if 2 ≤ code / 12 then 11 - i else i
def fmz (a : Nat → Nat) (code i : Nat) : Int := (if code / 12 % 2 = 0 then ((a (fmf code i) : Nat) : Int) - ((a 0 : Nat) : Int) else -(((a (fmf code i) : Nat) : Int) - ((a 0 : Nat) : Int))) + ((code % 12 : Nat) : Int)
/-- a form's tone -/
def fm (a : Nat → Nat) (code i : Nat) : Nat := md (fmz a code i)
theorem fm_lt (a : Nat → Nat) (code i : Nat) : fm a code i < 12 := md_lt _
def orN (p : Nat → Bool) : Nat → Bool
  | 0 => false
  | n + 1 => orN p n || p n
def alN (p : Nat → Bool) : Nat → Bool
  | 0 => true
  | n + 1 => alN p n && p n
theorem or_1 {p : Nat → Bool} {n : Nat} (h : orN p n = true) : iI 1 = iI (bI (orN p (n + 1) = true)) := congrArg iI (bI_t (by simp [orN, h])).symm
theorem or_2 {p : Nat → Bool} {n : Nat} (h : p n = true) : iI 1 = iI (bI (orN p (n + 1) = true)) := congrArg iI (bI_t (by simp [orN, h])).symm
theorem or_0 {p : Nat → Bool} {n : Nat} (h : ¬ orN p n = true) (h2 : p n = false) : iI 0 = iI (bI (orN p (n + 1) = true)) := congrArg iI (bI_f (by simp [orN, h, h2])).symm
theorem al_1 {p : Nat → Bool} {n : Nat} (h : alN p n = true) (h2 : p n = true) : iI 1 = iI (bI (alN p (n + 1) = true)) := congrArg iI (bI_t (by simp [alN, h, h2])).symm
theorem al_0 {p : Nat → Bool} {n : Nat} (h : ¬ alN p n = true) : iI 0 = iI (bI (alN p (n + 1) = true)) := congrArg iI (bI_f (by simp [alN, h])).symm
theorem al_2 {p : Nat → Bool} {n : Nat} (h2 : p n = false) : iI 0 = iI (bI (alN p (n + 1) = true)) := congrArg iI (bI_f (by simp [alN, h2])).symm
def setF (f : Nat → Nat) (p : Nat) : Nat → Nat
  | 0 => 0
  | n + 1 => setF f p n ||| 2 ^ f (p + n)
theorem setF_lt {f : Nat → Nat} (hf : ∀ i, f i < 12) (p : Nat) : ∀ n, setF f p n < 4096
  | 0 => show 0 < 4096 by decide
  | n + 1 => Nat.or_lt_two_pow (n := 12) (setF_lt hf p n) (Nat.pow_lt_pow_right (by decide) (hf _))
/-- a set moved, or turned and moved -/
def mvN (s by' : Nat) (T : Prop) [Decidable T] : Nat → Nat
  | 0 => 0
  | n + 1 => mvN s by' T n ||| (s / 2 ^ n &&& 1) * 2 ^ md (if T then ((by' : Nat) : Int) - ((n : Nat) : Int) else ((by' : Nat) : Int) + ((n : Nat) : Int))
theorem mvN_lt (s by' : Nat) (T : Prop) [Decidable T] : ∀ n, mvN s by' T n < 4096
  | 0 => show 0 < 4096 by decide
  | n + 1 => Nat.or_lt_two_pow (n := 12) (mvN_lt s by' T n) (Nat.lt_of_le_of_lt (one_lt _ _) (Nat.pow_lt_pow_right (by decide) (md_lt _)))
def lsN (s : Nat) : Nat → Nat
  | 0 => s
  | n + 1 => min (min (lsN s n) (mvN s n False 12)) (mvN s n True 12)
theorem lsN_le (s : Nat) : ∀ n, lsN s n ≤ s
  | 0 => Nat.le_refl _
  | n + 1 => Nat.le_trans (Nat.min_le_left _ _) (Nat.le_trans (Nat.min_le_left _ _) (lsN_le s n))
/-- whether a form keeps the row's segment of length k at the place p -/
def kpB (a : Nat → Nat) (code k p : Nat) : Nat → Bool := fun o => decide (setF (fm a code) o k = setF (fm a (a 0)) p k)
def skN (a : Nat → Nat) (code k : Nat) : Nat → Nat
  | 0 => 0
  | n + 1 => if orN (kpB a code k n) (13 - k) = true then skN a code k n + 1 else skN a code k n
theorem skN_le (a : Nat → Nat) (code k : Nat) : ∀ n, skN a code k n ≤ n
  | 0 => Nat.le_refl _
  | n + 1 => by
    have h := skN_le a code k n
    unfold skN
    split <;> omega
def smN (a f : Nat → Nat) (p o : Nat) : Nat → Nat → Nat
  | 0, n => n
  | j + 1, n => if p + n < 12 ∧ o + n < 12 ∧ a (p + n) = f (o + n) then smN a f p o j (n + 1) else n
theorem smN_le (a f : Nat → Nat) (p o : Nat) : ∀ j n, smN a f p o j n ≤ n + j
  | 0, n => Nat.le_refl _
  | j + 1, n => by
    have h := smN_le a f p o j (n + 1)
    unfold smN
    split <;> omega
def eqB (a : Nat → Nat) (c d : Nat) : Nat → Bool := fun i => decide (fm a c i = fm a d i)
def wtB (q : Nat → Nat) (t : Nat) : Nat → Bool := fun i => decide (q i = t)
def phB (a q : Nat → Nat) (code p : Nat) : Nat → Bool := fun k => decide (fm a code (p + k) = q k)
/-- where the phrase begins in a form -/
def plF (a q : Nat → Nat) (code w : Nat) : Int := ff (fun p => alN (phB a q code p) w) (13 - w) 0
theorem plF_in (a q : Nat → Nat) (code w : Nat) : -1 ≤ plF a q code w ∧ plF a q code w < 14 := by
  have := ff_in (fun p => alN (phB a q code p) w) (13 - w) 0
  unfold plF
  omega
theorem skN_t {a : Nat → Nat} {code k n : Nat} (h : orN (kpB a code k n) (13 - k) = true) : skN a code k n + 1 = skN a code k (n + 1) := (if_pos h).symm
theorem skN_f {a : Nat → Nat} {code k n : Nat} (h : ¬ orN (kpB a code k n) (13 - k) = true) : skN a code k n + 0 = skN a code k (n + 1) := (if_neg h).symm
theorem smN_go {a f : Nat → Nat} {p o j n : Nat} (h : p + n < 12 ∧ o + n < 12 ∧ a (p + n) = f (o + n)) : smN a f p o (j + 1) n = smN a f p o j (n + 1) := if_pos h
theorem smN_stop {a f : Nat → Nat} {p o j n : Nat} (h : ¬ (p + n < 12 ∧ o + n < 12 ∧ a (p + n) = f (o + n))) : smN a f p o (j + 1) n = n := if_neg h
end
section
theorem dX1_init_0 : decode cX1_init 0 = .ok (.aload_n 0, 1) := by decide +kernel
theorem dX1_init_1 : decode cX1_init 1 = .ok (.invokespecial 1, 3) := by decide +kernel
theorem dX1_init_4 : decode cX1_init 4 = .ok (.aload_n 0, 1) := by decide +kernel
theorem dX1_init_5 : decode cX1_init 5 = .ok (.bipush 24, 2) := by decide +kernel
theorem dX1_init_7 : decode cX1_init 7 = .ok (.newarray .int, 2) := by decide +kernel
theorem dX1_init_9 : decode cX1_init 9 = .ok (.putfield 7, 3) := by decide +kernel
theorem dX1_init_12 : decode cX1_init 12 = .ok (.aload_n 0, 1) := by decide +kernel
theorem dX1_init_13 : decode cX1_init 13 = .ok (.bipush 12, 2) := by decide +kernel
theorem dX1_init_15 : decode cX1_init 15 = .ok (.newarray .int, 2) := by decide +kernel
theorem dX1_init_17 : decode cX1_init 17 = .ok (.putfield 13, 3) := by decide +kernel
theorem dX1_init_20 : decode cX1_init 20 = .ok (.aload_n 0, 1) := by decide +kernel
theorem dX1_init_21 : decode cX1_init 21 = .ok (.bipush 12, 2) := by decide +kernel
theorem dX1_init_23 : decode cX1_init 23 = .ok (.newarray .int, 2) := by decide +kernel
theorem dX1_init_25 : decode cX1_init 25 = .ok (.putfield 16, 3) := by decide +kernel
theorem dX1_init_28 : decode cX1_init 28 = .ok (.iconst 0, 1) := by decide +kernel
theorem dX1_init_29 : decode cX1_init 29 = .ok (.istore_n 1, 1) := by decide +kernel
theorem dX1_init_30 : decode cX1_init 30 = .ok (.iload_n 1, 1) := by decide +kernel
theorem dX1_init_31 : decode cX1_init 31 = .ok (.bipush 24, 2) := by decide +kernel
theorem dX1_init_33 : decode cX1_init 33 = .ok (.if_icmp .ge 19, 3) := by decide +kernel
theorem dX1_init_36 : decode cX1_init 36 = .ok (.aload_n 0, 1) := by decide +kernel
theorem dX1_init_37 : decode cX1_init 37 = .ok (.getfield 7, 3) := by decide +kernel
theorem dX1_init_40 : decode cX1_init 40 = .ok (.iload_n 1, 1) := by decide +kernel
theorem dX1_init_41 : decode cX1_init 41 = .ok (.iload_n 1, 1) := by decide +kernel
theorem dX1_init_42 : decode cX1_init 42 = .ok (.bipush 12, 2) := by decide +kernel
theorem dX1_init_44 : decode cX1_init 44 = .ok (.irem, 1) := by decide +kernel
theorem dX1_init_45 : decode cX1_init 45 = .ok (.iastore, 1) := by decide +kernel
theorem dX1_init_46 : decode cX1_init 46 = .ok (.iinc 1 1, 3) := by decide +kernel
theorem dX1_init_49 : decode cX1_init 49 = .ok (.goto (-19), 3) := by decide +kernel
theorem dX1_init_52 : decode cX1_init 52 = .ok (.return_, 1) := by decide +kernel
theorem dX1_thrown_0 : decode cX1_thrown 0 = .ok (.aload_n 0, 1) := by decide +kernel
theorem dX1_thrown_1 : decode cX1_thrown 1 = .ok (.getfield 19, 3) := by decide +kernel
theorem dX1_thrown_4 : decode cX1_thrown 4 = .ok (.ireturn, 1) := by decide +kernel
theorem dX1_goesWell_0 : decode cX1_goesWell 0 = .ok (.aload_n 0, 1) := by decide +kernel
theorem dX1_goesWell_1 : decode cX1_goesWell 1 = .ok (.iload_n 1, 1) := by decide +kernel
theorem dX1_goesWell_2 : decode cX1_goesWell 2 = .ok (.putfield 19, 3) := by decide +kernel
theorem dX1_goesWell_5 : decode cX1_goesWell 5 = .ok (.iload_n 1, 1) := by decide +kernel
theorem dX1_goesWell_6 : decode cX1_goesWell 6 = .ok (.ifCond .ne 7, 3) := by decide +kernel
theorem dX1_goesWell_9 : decode cX1_goesWell 9 = .ok (.iconst 1, 1) := by decide +kernel
theorem dX1_goesWell_10 : decode cX1_goesWell 10 = .ok (.goto 4, 3) := by decide +kernel
theorem dX1_goesWell_13 : decode cX1_goesWell 13 = .ok (.iconst 0, 1) := by decide +kernel
theorem dX1_goesWell_14 : decode cX1_goesWell 14 = .ok (.ireturn, 1) := by decide +kernel
theorem dX1_isRow_0 : decode cX1_isRow 0 = .ok (.iload_n 0, 1) := by decide +kernel
theorem dX1_isRow_1 : decode cX1_isRow 1 = .ok (.ifCond .eq 8, 3) := by decide +kernel
theorem dX1_isRow_4 : decode cX1_isRow 4 = .ok (.iload_n 0, 1) := by decide +kernel
theorem dX1_isRow_5 : decode cX1_isRow 5 = .ok (.iconst 1, 1) := by decide +kernel
theorem dX1_isRow_6 : decode cX1_isRow 6 = .ok (.if_icmp .ne 7, 3) := by decide +kernel
theorem dX1_isRow_9 : decode cX1_isRow 9 = .ok (.iconst 1, 1) := by decide +kernel
theorem dX1_isRow_10 : decode cX1_isRow 10 = .ok (.goto 4, 3) := by decide +kernel
theorem dX1_isRow_13 : decode cX1_isRow 13 = .ok (.iconst 0, 1) := by decide +kernel
theorem dX1_isRow_14 : decode cX1_isRow 14 = .ok (.ireturn, 1) := by decide +kernel
theorem dX1_in_0 : decode cX1_in 0 = .ok (.iload_n 0, 1) := by decide +kernel
theorem dX1_in_1 : decode cX1_in 1 = .ok (.iload_n 1, 1) := by decide +kernel
theorem dX1_in_2 : decode cX1_in 2 = .ok (.if_icmp .lt 12, 3) := by decide +kernel
theorem dX1_in_5 : decode cX1_in 5 = .ok (.iload_n 0, 1) := by decide +kernel
theorem dX1_in_6 : decode cX1_in 6 = .ok (.iload_n 2, 1) := by decide +kernel
theorem dX1_in_7 : decode cX1_in 7 = .ok (.if_icmp .gt 7, 3) := by decide +kernel
theorem dX1_in_10 : decode cX1_in 10 = .ok (.iconst 1, 1) := by decide +kernel
theorem dX1_in_11 : decode cX1_in 11 = .ok (.goto 4, 3) := by decide +kernel
theorem dX1_in_14 : decode cX1_in 14 = .ok (.iconst 0, 1) := by decide +kernel
theorem dX1_in_15 : decode cX1_in 15 = .ok (.ireturn, 1) := by decide +kernel
theorem dX1_isTone_0 : decode cX1_isTone 0 = .ok (.iload_n 0, 1) := by decide +kernel
theorem dX1_isTone_1 : decode cX1_isTone 1 = .ok (.iconst 0, 1) := by decide +kernel
theorem dX1_isTone_2 : decode cX1_isTone 2 = .ok (.bipush 11, 2) := by decide +kernel
theorem dX1_isTone_4 : decode cX1_isTone 4 = .ok (.invokestatic 23, 3) := by decide +kernel
theorem dX1_isTone_7 : decode cX1_isTone 7 = .ok (.ireturn, 1) := by decide +kernel
theorem dX1_isForm_0 : decode cX1_isForm 0 = .ok (.iload_n 0, 1) := by decide +kernel
theorem dX1_isForm_1 : decode cX1_isForm 1 = .ok (.iconst 0, 1) := by decide +kernel
theorem dX1_isForm_2 : decode cX1_isForm 2 = .ok (.iconst 3, 1) := by decide +kernel
theorem dX1_isForm_3 : decode cX1_isForm 3 = .ok (.invokestatic 23, 3) := by decide +kernel
theorem dX1_isForm_6 : decode cX1_isForm 6 = .ok (.ifCond .eq 14, 3) := by decide +kernel
theorem dX1_isForm_9 : decode cX1_isForm 9 = .ok (.iload_n 1, 1) := by decide +kernel
theorem dX1_isForm_10 : decode cX1_isForm 10 = .ok (.invokestatic 27, 3) := by decide +kernel
theorem dX1_isForm_13 : decode cX1_isForm 13 = .ok (.ifCond .eq 7, 3) := by decide +kernel
theorem dX1_isForm_16 : decode cX1_isForm 16 = .ok (.iconst 1, 1) := by decide +kernel
theorem dX1_isForm_17 : decode cX1_isForm 17 = .ok (.goto 4, 3) := by decide +kernel
theorem dX1_isForm_20 : decode cX1_isForm 20 = .ok (.iconst 0, 1) := by decide +kernel
theorem dX1_isForm_21 : decode cX1_isForm 21 = .ok (.ireturn, 1) := by decide +kernel
theorem dX1_modulo_0 : decode cX1_modulo 0 = .ok (.iload_n 0, 1) := by decide +kernel
theorem dX1_modulo_1 : decode cX1_modulo 1 = .ok (.bipush 12, 2) := by decide +kernel
theorem dX1_modulo_3 : decode cX1_modulo 3 = .ok (.irem, 1) := by decide +kernel
theorem dX1_modulo_4 : decode cX1_modulo 4 = .ok (.bipush 12, 2) := by decide +kernel
theorem dX1_modulo_6 : decode cX1_modulo 6 = .ok (.iadd, 1) := by decide +kernel
theorem dX1_modulo_7 : decode cX1_modulo 7 = .ok (.bipush 12, 2) := by decide +kernel
theorem dX1_modulo_9 : decode cX1_modulo 9 = .ok (.irem, 1) := by decide +kernel
theorem dX1_modulo_10 : decode cX1_modulo 10 = .ok (.ireturn, 1) := by decide +kernel
theorem dX1_at_0 : decode cX1_at 0 = .ok (.aload_n 0, 1) := by decide +kernel
theorem dX1_at_1 : decode cX1_at 1 = .ok (.getfield 7, 3) := by decide +kernel
theorem dX1_at_4 : decode cX1_at 4 = .ok (.bipush 12, 2) := by decide +kernel
theorem dX1_at_6 : decode cX1_at 6 = .ok (.iload_n 1, 1) := by decide +kernel
theorem dX1_at_7 : decode cX1_at 7 = .ok (.imul, 1) := by decide +kernel
theorem dX1_at_8 : decode cX1_at 8 = .ok (.iload_n 2, 1) := by decide +kernel
theorem dX1_at_9 : decode cX1_at 9 = .ok (.iadd, 1) := by decide +kernel
theorem dX1_at_10 : decode cX1_at 10 = .ok (.iaload, 1) := by decide +kernel
theorem dX1_at_11 : decode cX1_at 11 = .ok (.ireturn, 1) := by decide +kernel
theorem dX1_formAt_0 : decode cX1_formAt 0 = .ok (.iload_n 2, 1) := by decide +kernel
theorem dX1_formAt_1 : decode cX1_formAt 1 = .ok (.bipush 12, 2) := by decide +kernel
theorem dX1_formAt_3 : decode cX1_formAt 3 = .ok (.idiv, 1) := by decide +kernel
theorem dX1_formAt_4 : decode cX1_formAt 4 = .ok (.istore 4, 2) := by decide +kernel
theorem dX1_formAt_6 : decode cX1_formAt 6 = .ok (.iload 4, 2) := by decide +kernel
theorem dX1_formAt_8 : decode cX1_formAt 8 = .ok (.iconst 2, 1) := by decide +kernel
theorem dX1_formAt_9 : decode cX1_formAt 9 = .ok (.if_icmp .lt 10, 3) := by decide +kernel
theorem dX1_formAt_12 : decode cX1_formAt 12 = .ok (.bipush 11, 2) := by decide +kernel
theorem dX1_formAt_14 : decode cX1_formAt 14 = .ok (.iload_n 3, 1) := by decide +kernel
theorem dX1_formAt_15 : decode cX1_formAt 15 = .ok (.isub, 1) := by decide +kernel
theorem dX1_formAt_16 : decode cX1_formAt 16 = .ok (.goto 4, 3) := by decide +kernel
theorem dX1_formAt_19 : decode cX1_formAt 19 = .ok (.iload_n 3, 1) := by decide +kernel
theorem dX1_formAt_20 : decode cX1_formAt 20 = .ok (.istore 5, 2) := by decide +kernel
theorem dX1_formAt_22 : decode cX1_formAt 22 = .ok (.aload_n 0, 1) := by decide +kernel
theorem dX1_formAt_23 : decode cX1_formAt 23 = .ok (.iload_n 1, 1) := by decide +kernel
theorem dX1_formAt_24 : decode cX1_formAt 24 = .ok (.iload 5, 2) := by decide +kernel
theorem dX1_formAt_26 : decode cX1_formAt 26 = .ok (.invokevirtual 31, 3) := by decide +kernel
theorem dX1_formAt_29 : decode cX1_formAt 29 = .ok (.aload_n 0, 1) := by decide +kernel
theorem dX1_formAt_30 : decode cX1_formAt 30 = .ok (.iload_n 1, 1) := by decide +kernel
theorem dX1_formAt_31 : decode cX1_formAt 31 = .ok (.iconst 0, 1) := by decide +kernel
theorem dX1_formAt_32 : decode cX1_formAt 32 = .ok (.invokevirtual 31, 3) := by decide +kernel
theorem dX1_formAt_35 : decode cX1_formAt 35 = .ok (.isub, 1) := by decide +kernel
theorem dX1_formAt_36 : decode cX1_formAt 36 = .ok (.istore 6, 2) := by decide +kernel
theorem dX1_formAt_38 : decode cX1_formAt 38 = .ok (.iload 4, 2) := by decide +kernel
theorem dX1_formAt_40 : decode cX1_formAt 40 = .ok (.iconst 2, 1) := by decide +kernel
theorem dX1_formAt_41 : decode cX1_formAt 41 = .ok (.irem, 1) := by decide +kernel
theorem dX1_formAt_42 : decode cX1_formAt 42 = .ok (.ifCond .ne 8, 3) := by decide +kernel
theorem dX1_formAt_45 : decode cX1_formAt 45 = .ok (.iload 6, 2) := by decide +kernel
theorem dX1_formAt_47 : decode cX1_formAt 47 = .ok (.goto 6, 3) := by decide +kernel
theorem dX1_formAt_50 : decode cX1_formAt 50 = .ok (.iload 6, 2) := by decide +kernel
theorem dX1_formAt_52 : decode cX1_formAt 52 = .ok (.ineg, 1) := by decide +kernel
theorem dX1_formAt_53 : decode cX1_formAt 53 = .ok (.iload_n 2, 1) := by decide +kernel
theorem dX1_formAt_54 : decode cX1_formAt 54 = .ok (.bipush 12, 2) := by decide +kernel
theorem dX1_formAt_56 : decode cX1_formAt 56 = .ok (.irem, 1) := by decide +kernel
theorem dX1_formAt_57 : decode cX1_formAt 57 = .ok (.iadd, 1) := by decide +kernel
theorem dX1_formAt_58 : decode cX1_formAt 58 = .ok (.invokestatic 35, 3) := by decide +kernel
theorem dX1_formAt_61 : decode cX1_formAt 61 = .ok (.ireturn, 1) := by decide +kernel
theorem dX1_codeOf_0 : decode cX1_codeOf 0 = .ok (.bipush 12, 2) := by decide +kernel
theorem dX1_codeOf_2 : decode cX1_codeOf 2 = .ok (.iload_n 0, 1) := by decide +kernel
theorem dX1_codeOf_3 : decode cX1_codeOf 3 = .ok (.imul, 1) := by decide +kernel
theorem dX1_codeOf_4 : decode cX1_codeOf 4 = .ok (.iload_n 1, 1) := by decide +kernel
theorem dX1_codeOf_5 : decode cX1_codeOf 5 = .ok (.iadd, 1) := by decide +kernel
theorem dX1_codeOf_6 : decode cX1_codeOf 6 = .ok (.ireturn, 1) := by decide +kernel
theorem dX1_put_0 : decode cX1_put 0 = .ok (.aload_n 0, 1) := by decide +kernel
theorem dX1_put_1 : decode cX1_put 1 = .ok (.iload_n 1, 1) := by decide +kernel
theorem dX1_put_2 : decode cX1_put 2 = .ok (.invokestatic 39, 3) := by decide +kernel
theorem dX1_put_5 : decode cX1_put 5 = .ok (.ifCond .eq 10, 3) := by decide +kernel
theorem dX1_put_8 : decode cX1_put 8 = .ok (.iload_n 2, 1) := by decide +kernel
theorem dX1_put_9 : decode cX1_put 9 = .ok (.invokestatic 27, 3) := by decide +kernel
theorem dX1_put_12 : decode cX1_put 12 = .ok (.ifCond .ne 7, 3) := by decide +kernel
theorem dX1_put_15 : decode cX1_put 15 = .ok (.iconst 1, 1) := by decide +kernel
theorem dX1_put_16 : decode cX1_put 16 = .ok (.goto 15, 3) := by decide +kernel
theorem dX1_put_19 : decode cX1_put 19 = .ok (.iload_n 3, 1) := by decide +kernel
theorem dX1_put_20 : decode cX1_put 20 = .ok (.invokestatic 27, 3) := by decide +kernel
theorem dX1_put_23 : decode cX1_put 23 = .ok (.ifCond .eq 7, 3) := by decide +kernel
theorem dX1_put_26 : decode cX1_put 26 = .ok (.iconst 0, 1) := by decide +kernel
theorem dX1_put_27 : decode cX1_put 27 = .ok (.goto 4, 3) := by decide +kernel
theorem dX1_put_30 : decode cX1_put 30 = .ok (.iconst 2, 1) := by decide +kernel
theorem dX1_put_31 : decode cX1_put 31 = .ok (.invokevirtual 42, 3) := by decide +kernel
theorem dX1_put_34 : decode cX1_put 34 = .ok (.ifCond .ne 5, 3) := by decide +kernel
theorem dX1_put_37 : decode cX1_put 37 = .ok (.iconst 0, 1) := by decide +kernel
theorem dX1_put_38 : decode cX1_put 38 = .ok (.ireturn, 1) := by decide +kernel
theorem dX1_put_39 : decode cX1_put 39 = .ok (.aload_n 0, 1) := by decide +kernel
theorem dX1_put_40 : decode cX1_put 40 = .ok (.iload_n 1, 1) := by decide +kernel
theorem dX1_put_41 : decode cX1_put 41 = .ok (.iload_n 2, 1) := by decide +kernel
theorem dX1_put_42 : decode cX1_put 42 = .ok (.invokevirtual 31, 3) := by decide +kernel
theorem dX1_put_45 : decode cX1_put 45 = .ok (.istore 4, 2) := by decide +kernel
theorem dX1_put_47 : decode cX1_put 47 = .ok (.iconst 0, 1) := by decide +kernel
theorem dX1_put_48 : decode cX1_put 48 = .ok (.istore 5, 2) := by decide +kernel
theorem dX1_put_50 : decode cX1_put 50 = .ok (.iload 5, 2) := by decide +kernel
theorem dX1_put_52 : decode cX1_put 52 = .ok (.bipush 12, 2) := by decide +kernel
theorem dX1_put_54 : decode cX1_put 54 = .ok (.if_icmp .ge 44, 3) := by decide +kernel
theorem dX1_put_57 : decode cX1_put 57 = .ok (.aload_n 0, 1) := by decide +kernel
theorem dX1_put_58 : decode cX1_put 58 = .ok (.getfield 7, 3) := by decide +kernel
theorem dX1_put_61 : decode cX1_put 61 = .ok (.bipush 12, 2) := by decide +kernel
theorem dX1_put_63 : decode cX1_put 63 = .ok (.iload_n 1, 1) := by decide +kernel
theorem dX1_put_64 : decode cX1_put 64 = .ok (.imul, 1) := by decide +kernel
theorem dX1_put_65 : decode cX1_put 65 = .ok (.iload 5, 2) := by decide +kernel
theorem dX1_put_67 : decode cX1_put 67 = .ok (.iadd, 1) := by decide +kernel
theorem dX1_put_68 : decode cX1_put 68 = .ok (.aload_n 0, 1) := by decide +kernel
theorem dX1_put_69 : decode cX1_put 69 = .ok (.iload_n 1, 1) := by decide +kernel
theorem dX1_put_70 : decode cX1_put 70 = .ok (.iload 5, 2) := by decide +kernel
theorem dX1_put_72 : decode cX1_put 72 = .ok (.invokevirtual 31, 3) := by decide +kernel
theorem dX1_put_75 : decode cX1_put 75 = .ok (.iload_n 3, 1) := by decide +kernel
theorem dX1_put_76 : decode cX1_put 76 = .ok (.if_icmp .ne 8, 3) := by decide +kernel
theorem dX1_put_79 : decode cX1_put 79 = .ok (.iload 4, 2) := by decide +kernel
theorem dX1_put_81 : decode cX1_put 81 = .ok (.goto 10, 3) := by decide +kernel
theorem dX1_put_84 : decode cX1_put 84 = .ok (.aload_n 0, 1) := by decide +kernel
theorem dX1_put_85 : decode cX1_put 85 = .ok (.iload_n 1, 1) := by decide +kernel
theorem dX1_put_86 : decode cX1_put 86 = .ok (.iload 5, 2) := by decide +kernel
theorem dX1_put_88 : decode cX1_put 88 = .ok (.invokevirtual 31, 3) := by decide +kernel
theorem dX1_put_91 : decode cX1_put 91 = .ok (.iastore, 1) := by decide +kernel
theorem dX1_put_92 : decode cX1_put 92 = .ok (.iinc 5 1, 3) := by decide +kernel
theorem dX1_put_95 : decode cX1_put 95 = .ok (.goto (-45), 3) := by decide +kernel
theorem dX1_put_98 : decode cX1_put 98 = .ok (.aload_n 0, 1) := by decide +kernel
theorem dX1_put_99 : decode cX1_put 99 = .ok (.getfield 7, 3) := by decide +kernel
theorem dX1_put_102 : decode cX1_put 102 = .ok (.bipush 12, 2) := by decide +kernel
theorem dX1_put_104 : decode cX1_put 104 = .ok (.iload_n 1, 1) := by decide +kernel
theorem dX1_put_105 : decode cX1_put 105 = .ok (.imul, 1) := by decide +kernel
theorem dX1_put_106 : decode cX1_put 106 = .ok (.iload_n 2, 1) := by decide +kernel
theorem dX1_put_107 : decode cX1_put 107 = .ok (.iadd, 1) := by decide +kernel
theorem dX1_put_108 : decode cX1_put 108 = .ok (.iload_n 3, 1) := by decide +kernel
theorem dX1_put_109 : decode cX1_put 109 = .ok (.iastore, 1) := by decide +kernel
theorem dX1_put_110 : decode cX1_put 110 = .ok (.iload 4, 2) := by decide +kernel
theorem dX1_put_112 : decode cX1_put 112 = .ok (.ireturn, 1) := by decide +kernel
theorem dX1_lay_0 : decode cX1_lay 0 = .ok (.iconst 0, 1) := by decide +kernel
theorem dX1_lay_1 : decode cX1_lay 1 = .ok (.istore_n 2, 1) := by decide +kernel
theorem dX1_lay_2 : decode cX1_lay 2 = .ok (.iload_n 2, 1) := by decide +kernel
theorem dX1_lay_3 : decode cX1_lay 3 = .ok (.bipush 12, 2) := by decide +kernel
theorem dX1_lay_5 : decode cX1_lay 5 = .ok (.if_icmp .ge 26, 3) := by decide +kernel
theorem dX1_lay_8 : decode cX1_lay 8 = .ok (.aload_n 0, 1) := by decide +kernel
theorem dX1_lay_9 : decode cX1_lay 9 = .ok (.getfield 7, 3) := by decide +kernel
theorem dX1_lay_12 : decode cX1_lay 12 = .ok (.bipush 12, 2) := by decide +kernel
theorem dX1_lay_14 : decode cX1_lay 14 = .ok (.iload_n 1, 1) := by decide +kernel
theorem dX1_lay_15 : decode cX1_lay 15 = .ok (.imul, 1) := by decide +kernel
theorem dX1_lay_16 : decode cX1_lay 16 = .ok (.iload_n 2, 1) := by decide +kernel
theorem dX1_lay_17 : decode cX1_lay 17 = .ok (.iadd, 1) := by decide +kernel
theorem dX1_lay_18 : decode cX1_lay 18 = .ok (.aload_n 0, 1) := by decide +kernel
theorem dX1_lay_19 : decode cX1_lay 19 = .ok (.getfield 13, 3) := by decide +kernel
theorem dX1_lay_22 : decode cX1_lay 22 = .ok (.iload_n 2, 1) := by decide +kernel
theorem dX1_lay_23 : decode cX1_lay 23 = .ok (.iaload, 1) := by decide +kernel
theorem dX1_lay_24 : decode cX1_lay 24 = .ok (.iastore, 1) := by decide +kernel
theorem dX1_lay_25 : decode cX1_lay 25 = .ok (.iinc 2 1, 3) := by decide +kernel
theorem dX1_lay_28 : decode cX1_lay 28 = .ok (.goto (-26), 3) := by decide +kernel
theorem dX1_lay_31 : decode cX1_lay 31 = .ok (.aload_n 0, 1) := by decide +kernel
theorem dX1_lay_32 : decode cX1_lay 32 = .ok (.iload_n 1, 1) := by decide +kernel
theorem dX1_lay_33 : decode cX1_lay 33 = .ok (.iconst 0, 1) := by decide +kernel
theorem dX1_lay_34 : decode cX1_lay 34 = .ok (.invokevirtual 31, 3) := by decide +kernel
theorem dX1_lay_37 : decode cX1_lay 37 = .ok (.ireturn, 1) := by decide +kernel
theorem dX1_take_0 : decode cX1_take 0 = .ok (.aload_n 0, 1) := by decide +kernel
theorem dX1_take_1 : decode cX1_take 1 = .ok (.iload_n 1, 1) := by decide +kernel
theorem dX1_take_2 : decode cX1_take 2 = .ok (.invokestatic 39, 3) := by decide +kernel
theorem dX1_take_5 : decode cX1_take 5 = .ok (.ifCond .eq 11, 3) := by decide +kernel
theorem dX1_take_8 : decode cX1_take 8 = .ok (.iload 4, 2) := by decide +kernel
theorem dX1_take_10 : decode cX1_take 10 = .ok (.invokestatic 39, 3) := by decide +kernel
theorem dX1_take_13 : decode cX1_take 13 = .ok (.ifCond .ne 7, 3) := by decide +kernel
theorem dX1_take_16 : decode cX1_take 16 = .ok (.iconst 1, 1) := by decide +kernel
theorem dX1_take_17 : decode cX1_take 17 = .ok (.goto 16, 3) := by decide +kernel
theorem dX1_take_20 : decode cX1_take 20 = .ok (.iload_n 2, 1) := by decide +kernel
theorem dX1_take_21 : decode cX1_take 21 = .ok (.iload_n 3, 1) := by decide +kernel
theorem dX1_take_22 : decode cX1_take 22 = .ok (.invokestatic 45, 3) := by decide +kernel
theorem dX1_take_25 : decode cX1_take 25 = .ok (.ifCond .eq 7, 3) := by decide +kernel
theorem dX1_take_28 : decode cX1_take 28 = .ok (.iconst 0, 1) := by decide +kernel
theorem dX1_take_29 : decode cX1_take 29 = .ok (.goto 4, 3) := by decide +kernel
theorem dX1_take_32 : decode cX1_take 32 = .ok (.iconst 2, 1) := by decide +kernel
theorem dX1_take_33 : decode cX1_take 33 = .ok (.invokevirtual 42, 3) := by decide +kernel
theorem dX1_take_36 : decode cX1_take 36 = .ok (.ifCond .ne 5, 3) := by decide +kernel
theorem dX1_take_39 : decode cX1_take 39 = .ok (.iconst 0, 1) := by decide +kernel
theorem dX1_take_40 : decode cX1_take 40 = .ok (.ireturn, 1) := by decide +kernel
theorem dX1_take_41 : decode cX1_take 41 = .ok (.iconst 0, 1) := by decide +kernel
theorem dX1_take_42 : decode cX1_take 42 = .ok (.istore 5, 2) := by decide +kernel
theorem dX1_take_44 : decode cX1_take 44 = .ok (.iload 5, 2) := by decide +kernel
theorem dX1_take_46 : decode cX1_take 46 = .ok (.bipush 12, 2) := by decide +kernel
theorem dX1_take_48 : decode cX1_take 48 = .ok (.if_icmp .ge 28, 3) := by decide +kernel
theorem dX1_take_51 : decode cX1_take 51 = .ok (.aload_n 0, 1) := by decide +kernel
theorem dX1_take_52 : decode cX1_take 52 = .ok (.getfield 13, 3) := by decide +kernel
theorem dX1_take_55 : decode cX1_take 55 = .ok (.iload 5, 2) := by decide +kernel
theorem dX1_take_57 : decode cX1_take 57 = .ok (.aload_n 0, 1) := by decide +kernel
theorem dX1_take_58 : decode cX1_take 58 = .ok (.iload_n 1, 1) := by decide +kernel
theorem dX1_take_59 : decode cX1_take 59 = .ok (.iload_n 2, 1) := by decide +kernel
theorem dX1_take_60 : decode cX1_take 60 = .ok (.iload_n 3, 1) := by decide +kernel
theorem dX1_take_61 : decode cX1_take 61 = .ok (.invokestatic 49, 3) := by decide +kernel
theorem dX1_take_64 : decode cX1_take 64 = .ok (.iload 5, 2) := by decide +kernel
theorem dX1_take_66 : decode cX1_take 66 = .ok (.invokevirtual 52, 3) := by decide +kernel
theorem dX1_take_69 : decode cX1_take 69 = .ok (.iastore, 1) := by decide +kernel
theorem dX1_take_70 : decode cX1_take 70 = .ok (.iinc 5 1, 3) := by decide +kernel
theorem dX1_take_73 : decode cX1_take 73 = .ok (.goto (-29), 3) := by decide +kernel
theorem dX1_take_76 : decode cX1_take 76 = .ok (.aload_n 0, 1) := by decide +kernel
theorem dX1_take_77 : decode cX1_take 77 = .ok (.iload 4, 2) := by decide +kernel
theorem dX1_take_79 : decode cX1_take 79 = .ok (.invokevirtual 56, 3) := by decide +kernel
theorem dX1_take_82 : decode cX1_take 82 = .ok (.ireturn, 1) := by decide +kernel
theorem dX1_multiply_0 : decode cX1_multiply 0 = .ok (.iload_n 2, 1) := by decide +kernel
theorem dX1_multiply_1 : decode cX1_multiply 1 = .ok (.iconst 1, 1) := by decide +kernel
theorem dX1_multiply_2 : decode cX1_multiply 2 = .ok (.if_icmp .eq 20, 3) := by decide +kernel
theorem dX1_multiply_5 : decode cX1_multiply 5 = .ok (.iload_n 2, 1) := by decide +kernel
theorem dX1_multiply_6 : decode cX1_multiply 6 = .ok (.iconst 5, 1) := by decide +kernel
theorem dX1_multiply_7 : decode cX1_multiply 7 = .ok (.if_icmp .eq 15, 3) := by decide +kernel
theorem dX1_multiply_10 : decode cX1_multiply 10 = .ok (.iload_n 2, 1) := by decide +kernel
theorem dX1_multiply_11 : decode cX1_multiply 11 = .ok (.bipush 7, 2) := by decide +kernel
theorem dX1_multiply_13 : decode cX1_multiply 13 = .ok (.if_icmp .eq 9, 3) := by decide +kernel
theorem dX1_multiply_16 : decode cX1_multiply 16 = .ok (.iload_n 2, 1) := by decide +kernel
theorem dX1_multiply_17 : decode cX1_multiply 17 = .ok (.bipush 11, 2) := by decide +kernel
theorem dX1_multiply_19 : decode cX1_multiply 19 = .ok (.if_icmp .ne 7, 3) := by decide +kernel
theorem dX1_multiply_22 : decode cX1_multiply 22 = .ok (.iconst 1, 1) := by decide +kernel
theorem dX1_multiply_23 : decode cX1_multiply 23 = .ok (.goto 4, 3) := by decide +kernel
theorem dX1_multiply_26 : decode cX1_multiply 26 = .ok (.iconst 0, 1) := by decide +kernel
theorem dX1_multiply_27 : decode cX1_multiply 27 = .ok (.istore_n 3, 1) := by decide +kernel
theorem dX1_multiply_28 : decode cX1_multiply 28 = .ok (.aload_n 0, 1) := by decide +kernel
theorem dX1_multiply_29 : decode cX1_multiply 29 = .ok (.iload_n 1, 1) := by decide +kernel
theorem dX1_multiply_30 : decode cX1_multiply 30 = .ok (.invokestatic 39, 3) := by decide +kernel
theorem dX1_multiply_33 : decode cX1_multiply 33 = .ok (.ifCond .ne 7, 3) := by decide +kernel
theorem dX1_multiply_36 : decode cX1_multiply 36 = .ok (.iconst 1, 1) := by decide +kernel
theorem dX1_multiply_37 : decode cX1_multiply 37 = .ok (.goto 12, 3) := by decide +kernel
theorem dX1_multiply_40 : decode cX1_multiply 40 = .ok (.iload_n 3, 1) := by decide +kernel
theorem dX1_multiply_41 : decode cX1_multiply 41 = .ok (.ifCond .eq 7, 3) := by decide +kernel
theorem dX1_multiply_44 : decode cX1_multiply 44 = .ok (.iconst 0, 1) := by decide +kernel
theorem dX1_multiply_45 : decode cX1_multiply 45 = .ok (.goto 4, 3) := by decide +kernel
theorem dX1_multiply_48 : decode cX1_multiply 48 = .ok (.iconst 2, 1) := by decide +kernel
theorem dX1_multiply_49 : decode cX1_multiply 49 = .ok (.invokevirtual 42, 3) := by decide +kernel
theorem dX1_multiply_52 : decode cX1_multiply 52 = .ok (.ifCond .ne 5, 3) := by decide +kernel
theorem dX1_multiply_55 : decode cX1_multiply 55 = .ok (.iconst 0, 1) := by decide +kernel
theorem dX1_multiply_56 : decode cX1_multiply 56 = .ok (.ireturn, 1) := by decide +kernel
theorem dX1_multiply_57 : decode cX1_multiply 57 = .ok (.iconst 0, 1) := by decide +kernel
theorem dX1_multiply_58 : decode cX1_multiply 58 = .ok (.istore 4, 2) := by decide +kernel
theorem dX1_multiply_60 : decode cX1_multiply 60 = .ok (.iload 4, 2) := by decide +kernel
theorem dX1_multiply_62 : decode cX1_multiply 62 = .ok (.bipush 12, 2) := by decide +kernel
theorem dX1_multiply_64 : decode cX1_multiply 64 = .ok (.if_icmp .ge 28, 3) := by decide +kernel
theorem dX1_multiply_67 : decode cX1_multiply 67 = .ok (.aload_n 0, 1) := by decide +kernel
theorem dX1_multiply_68 : decode cX1_multiply 68 = .ok (.getfield 13, 3) := by decide +kernel
theorem dX1_multiply_71 : decode cX1_multiply 71 = .ok (.iload 4, 2) := by decide +kernel
theorem dX1_multiply_73 : decode cX1_multiply 73 = .ok (.aload_n 0, 1) := by decide +kernel
theorem dX1_multiply_74 : decode cX1_multiply 74 = .ok (.iload_n 1, 1) := by decide +kernel
theorem dX1_multiply_75 : decode cX1_multiply 75 = .ok (.iload 4, 2) := by decide +kernel
theorem dX1_multiply_77 : decode cX1_multiply 77 = .ok (.invokevirtual 31, 3) := by decide +kernel
theorem dX1_multiply_80 : decode cX1_multiply 80 = .ok (.iload_n 2, 1) := by decide +kernel
theorem dX1_multiply_81 : decode cX1_multiply 81 = .ok (.imul, 1) := by decide +kernel
theorem dX1_multiply_82 : decode cX1_multiply 82 = .ok (.bipush 12, 2) := by decide +kernel
theorem dX1_multiply_84 : decode cX1_multiply 84 = .ok (.irem, 1) := by decide +kernel
theorem dX1_multiply_85 : decode cX1_multiply 85 = .ok (.iastore, 1) := by decide +kernel
theorem dX1_multiply_86 : decode cX1_multiply 86 = .ok (.iinc 4 1, 3) := by decide +kernel
theorem dX1_multiply_89 : decode cX1_multiply 89 = .ok (.goto (-29), 3) := by decide +kernel
theorem dX1_multiply_92 : decode cX1_multiply 92 = .ok (.aload_n 0, 1) := by decide +kernel
theorem dX1_multiply_93 : decode cX1_multiply 93 = .ok (.iload_n 1, 1) := by decide +kernel
theorem dX1_multiply_94 : decode cX1_multiply 94 = .ok (.invokevirtual 56, 3) := by decide +kernel
theorem dX1_multiply_97 : decode cX1_multiply 97 = .ok (.ireturn, 1) := by decide +kernel
theorem dX1_rotate_0 : decode cX1_rotate 0 = .ok (.aload_n 0, 1) := by decide +kernel
theorem dX1_rotate_1 : decode cX1_rotate 1 = .ok (.iload_n 1, 1) := by decide +kernel
theorem dX1_rotate_2 : decode cX1_rotate 2 = .ok (.invokestatic 39, 3) := by decide +kernel
theorem dX1_rotate_5 : decode cX1_rotate 5 = .ok (.ifCond .ne 7, 3) := by decide +kernel
theorem dX1_rotate_8 : decode cX1_rotate 8 = .ok (.iconst 1, 1) := by decide +kernel
theorem dX1_rotate_9 : decode cX1_rotate 9 = .ok (.goto 15, 3) := by decide +kernel
theorem dX1_rotate_12 : decode cX1_rotate 12 = .ok (.iload_n 2, 1) := by decide +kernel
theorem dX1_rotate_13 : decode cX1_rotate 13 = .ok (.invokestatic 27, 3) := by decide +kernel
theorem dX1_rotate_16 : decode cX1_rotate 16 = .ok (.ifCond .eq 7, 3) := by decide +kernel
theorem dX1_rotate_19 : decode cX1_rotate 19 = .ok (.iconst 0, 1) := by decide +kernel
theorem dX1_rotate_20 : decode cX1_rotate 20 = .ok (.goto 4, 3) := by decide +kernel
theorem dX1_rotate_23 : decode cX1_rotate 23 = .ok (.iconst 2, 1) := by decide +kernel
theorem dX1_rotate_24 : decode cX1_rotate 24 = .ok (.invokevirtual 42, 3) := by decide +kernel
theorem dX1_rotate_27 : decode cX1_rotate 27 = .ok (.ifCond .ne 5, 3) := by decide +kernel
theorem dX1_rotate_30 : decode cX1_rotate 30 = .ok (.iconst 0, 1) := by decide +kernel
theorem dX1_rotate_31 : decode cX1_rotate 31 = .ok (.ireturn, 1) := by decide +kernel
theorem dX1_rotate_32 : decode cX1_rotate 32 = .ok (.iconst 0, 1) := by decide +kernel
theorem dX1_rotate_33 : decode cX1_rotate 33 = .ok (.istore_n 3, 1) := by decide +kernel
theorem dX1_rotate_34 : decode cX1_rotate 34 = .ok (.iload_n 3, 1) := by decide +kernel
theorem dX1_rotate_35 : decode cX1_rotate 35 = .ok (.bipush 12, 2) := by decide +kernel
theorem dX1_rotate_37 : decode cX1_rotate 37 = .ok (.if_icmp .ge 26, 3) := by decide +kernel
theorem dX1_rotate_40 : decode cX1_rotate 40 = .ok (.aload_n 0, 1) := by decide +kernel
theorem dX1_rotate_41 : decode cX1_rotate 41 = .ok (.getfield 13, 3) := by decide +kernel
theorem dX1_rotate_44 : decode cX1_rotate 44 = .ok (.iload_n 3, 1) := by decide +kernel
theorem dX1_rotate_45 : decode cX1_rotate 45 = .ok (.aload_n 0, 1) := by decide +kernel
theorem dX1_rotate_46 : decode cX1_rotate 46 = .ok (.iload_n 1, 1) := by decide +kernel
theorem dX1_rotate_47 : decode cX1_rotate 47 = .ok (.iload_n 3, 1) := by decide +kernel
theorem dX1_rotate_48 : decode cX1_rotate 48 = .ok (.iload_n 2, 1) := by decide +kernel
theorem dX1_rotate_49 : decode cX1_rotate 49 = .ok (.iadd, 1) := by decide +kernel
theorem dX1_rotate_50 : decode cX1_rotate 50 = .ok (.bipush 12, 2) := by decide +kernel
theorem dX1_rotate_52 : decode cX1_rotate 52 = .ok (.irem, 1) := by decide +kernel
theorem dX1_rotate_53 : decode cX1_rotate 53 = .ok (.invokevirtual 31, 3) := by decide +kernel
theorem dX1_rotate_56 : decode cX1_rotate 56 = .ok (.iastore, 1) := by decide +kernel
theorem dX1_rotate_57 : decode cX1_rotate 57 = .ok (.iinc 3 1, 3) := by decide +kernel
theorem dX1_rotate_60 : decode cX1_rotate 60 = .ok (.goto (-26), 3) := by decide +kernel
theorem dX1_rotate_63 : decode cX1_rotate 63 = .ok (.aload_n 0, 1) := by decide +kernel
theorem dX1_rotate_64 : decode cX1_rotate 64 = .ok (.iload_n 1, 1) := by decide +kernel
theorem dX1_rotate_65 : decode cX1_rotate 65 = .ok (.invokevirtual 56, 3) := by decide +kernel
theorem dX1_rotate_68 : decode cX1_rotate 68 = .ok (.ireturn, 1) := by decide +kernel
theorem dX1_tone_0 : decode cX1_tone 0 = .ok (.aload_n 0, 1) := by decide +kernel
theorem dX1_tone_1 : decode cX1_tone 1 = .ok (.iload_n 1, 1) := by decide +kernel
theorem dX1_tone_2 : decode cX1_tone 2 = .ok (.invokestatic 39, 3) := by decide +kernel
theorem dX1_tone_5 : decode cX1_tone 5 = .ok (.ifCond .eq 14, 3) := by decide +kernel
theorem dX1_tone_8 : decode cX1_tone 8 = .ok (.iload_n 2, 1) := by decide +kernel
theorem dX1_tone_9 : decode cX1_tone 9 = .ok (.invokestatic 27, 3) := by decide +kernel
theorem dX1_tone_12 : decode cX1_tone 12 = .ok (.ifCond .eq 7, 3) := by decide +kernel
theorem dX1_tone_15 : decode cX1_tone 15 = .ok (.iconst 0, 1) := by decide +kernel
theorem dX1_tone_16 : decode cX1_tone 16 = .ok (.goto 4, 3) := by decide +kernel
theorem dX1_tone_19 : decode cX1_tone 19 = .ok (.iconst 1, 1) := by decide +kernel
theorem dX1_tone_20 : decode cX1_tone 20 = .ok (.invokevirtual 42, 3) := by decide +kernel
theorem dX1_tone_23 : decode cX1_tone 23 = .ok (.ifCond .eq 12, 3) := by decide +kernel
theorem dX1_tone_26 : decode cX1_tone 26 = .ok (.aload_n 0, 1) := by decide +kernel
theorem dX1_tone_27 : decode cX1_tone 27 = .ok (.iload_n 1, 1) := by decide +kernel
theorem dX1_tone_28 : decode cX1_tone 28 = .ok (.iload_n 2, 1) := by decide +kernel
theorem dX1_tone_29 : decode cX1_tone 29 = .ok (.invokevirtual 31, 3) := by decide +kernel
theorem dX1_tone_32 : decode cX1_tone 32 = .ok (.goto 4, 3) := by decide +kernel
theorem dX1_tone_35 : decode cX1_tone 35 = .ok (.iconst 0, 1) := by decide +kernel
theorem dX1_tone_36 : decode cX1_tone 36 = .ok (.ireturn, 1) := by decide +kernel
theorem dX1_step_0 : decode cX1_step 0 = .ok (.aload_n 0, 1) := by decide +kernel
theorem dX1_step_1 : decode cX1_step 1 = .ok (.iload_n 1, 1) := by decide +kernel
theorem dX1_step_2 : decode cX1_step 2 = .ok (.iload_n 2, 1) := by decide +kernel
theorem dX1_step_3 : decode cX1_step 3 = .ok (.iconst 1, 1) := by decide +kernel
theorem dX1_step_4 : decode cX1_step 4 = .ok (.iadd, 1) := by decide +kernel
theorem dX1_step_5 : decode cX1_step 5 = .ok (.invokevirtual 31, 3) := by decide +kernel
theorem dX1_step_8 : decode cX1_step 8 = .ok (.aload_n 0, 1) := by decide +kernel
theorem dX1_step_9 : decode cX1_step 9 = .ok (.iload_n 1, 1) := by decide +kernel
theorem dX1_step_10 : decode cX1_step 10 = .ok (.iload_n 2, 1) := by decide +kernel
theorem dX1_step_11 : decode cX1_step 11 = .ok (.invokevirtual 31, 3) := by decide +kernel
theorem dX1_step_14 : decode cX1_step 14 = .ok (.isub, 1) := by decide +kernel
theorem dX1_step_15 : decode cX1_step 15 = .ok (.invokestatic 35, 3) := by decide +kernel
theorem dX1_step_18 : decode cX1_step 18 = .ok (.ireturn, 1) := by decide +kernel
theorem dX1_interval_0 : decode cX1_interval 0 = .ok (.aload_n 0, 1) := by decide +kernel
theorem dX1_interval_1 : decode cX1_interval 1 = .ok (.iload_n 1, 1) := by decide +kernel
theorem dX1_interval_2 : decode cX1_interval 2 = .ok (.invokestatic 39, 3) := by decide +kernel
theorem dX1_interval_5 : decode cX1_interval 5 = .ok (.ifCond .eq 17, 3) := by decide +kernel
theorem dX1_interval_8 : decode cX1_interval 8 = .ok (.iload_n 2, 1) := by decide +kernel
theorem dX1_interval_9 : decode cX1_interval 9 = .ok (.iconst 0, 1) := by decide +kernel
theorem dX1_interval_10 : decode cX1_interval 10 = .ok (.bipush 10, 2) := by decide +kernel
theorem dX1_interval_12 : decode cX1_interval 12 = .ok (.invokestatic 23, 3) := by decide +kernel
theorem dX1_interval_15 : decode cX1_interval 15 = .ok (.ifCond .eq 7, 3) := by decide +kernel
theorem dX1_interval_18 : decode cX1_interval 18 = .ok (.iconst 0, 1) := by decide +kernel
theorem dX1_interval_19 : decode cX1_interval 19 = .ok (.goto 4, 3) := by decide +kernel
theorem dX1_interval_22 : decode cX1_interval 22 = .ok (.iconst 1, 1) := by decide +kernel
theorem dX1_interval_23 : decode cX1_interval 23 = .ok (.invokevirtual 42, 3) := by decide +kernel
theorem dX1_interval_26 : decode cX1_interval 26 = .ok (.ifCond .eq 12, 3) := by decide +kernel
theorem dX1_interval_29 : decode cX1_interval 29 = .ok (.aload_n 0, 1) := by decide +kernel
theorem dX1_interval_30 : decode cX1_interval 30 = .ok (.iload_n 1, 1) := by decide +kernel
theorem dX1_interval_31 : decode cX1_interval 31 = .ok (.iload_n 2, 1) := by decide +kernel
theorem dX1_interval_32 : decode cX1_interval 32 = .ok (.invokevirtual 59, 3) := by decide +kernel
theorem dX1_interval_35 : decode cX1_interval 35 = .ok (.goto 4, 3) := by decide +kernel
theorem dX1_interval_38 : decode cX1_interval 38 = .ok (.iconst 0, 1) := by decide +kernel
theorem dX1_interval_39 : decode cX1_interval 39 = .ok (.ireturn, 1) := by decide +kernel
theorem dX1_hasAllIntervals_0 : decode cX1_hasAllIntervals 0 = .ok (.aload_n 0, 1) := by decide +kernel
theorem dX1_hasAllIntervals_1 : decode cX1_hasAllIntervals 1 = .ok (.iload_n 1, 1) := by decide +kernel
theorem dX1_hasAllIntervals_2 : decode cX1_hasAllIntervals 2 = .ok (.invokestatic 39, 3) := by decide +kernel
theorem dX1_hasAllIntervals_5 : decode cX1_hasAllIntervals 5 = .ok (.ifCond .eq 7, 3) := by decide +kernel
theorem dX1_hasAllIntervals_8 : decode cX1_hasAllIntervals 8 = .ok (.iconst 0, 1) := by decide +kernel
theorem dX1_hasAllIntervals_9 : decode cX1_hasAllIntervals 9 = .ok (.goto 4, 3) := by decide +kernel
theorem dX1_hasAllIntervals_12 : decode cX1_hasAllIntervals 12 = .ok (.iconst 1, 1) := by decide +kernel
theorem dX1_hasAllIntervals_13 : decode cX1_hasAllIntervals 13 = .ok (.invokevirtual 42, 3) := by decide +kernel
theorem dX1_hasAllIntervals_16 : decode cX1_hasAllIntervals 16 = .ok (.ifCond .ne 5, 3) := by decide +kernel
theorem dX1_hasAllIntervals_19 : decode cX1_hasAllIntervals 19 = .ok (.iconst 0, 1) := by decide +kernel
theorem dX1_hasAllIntervals_20 : decode cX1_hasAllIntervals 20 = .ok (.ireturn, 1) := by decide +kernel
theorem dX1_hasAllIntervals_21 : decode cX1_hasAllIntervals 21 = .ok (.iconst 0, 1) := by decide +kernel
theorem dX1_hasAllIntervals_22 : decode cX1_hasAllIntervals 22 = .ok (.istore_n 2, 1) := by decide +kernel
theorem dX1_hasAllIntervals_23 : decode cX1_hasAllIntervals 23 = .ok (.iconst 0, 1) := by decide +kernel
theorem dX1_hasAllIntervals_24 : decode cX1_hasAllIntervals 24 = .ok (.istore_n 3, 1) := by decide +kernel
theorem dX1_hasAllIntervals_25 : decode cX1_hasAllIntervals 25 = .ok (.iload_n 3, 1) := by decide +kernel
theorem dX1_hasAllIntervals_26 : decode cX1_hasAllIntervals 26 = .ok (.bipush 11, 2) := by decide +kernel
theorem dX1_hasAllIntervals_28 : decode cX1_hasAllIntervals 28 = .ok (.if_icmp .ge 20, 3) := by decide +kernel
theorem dX1_hasAllIntervals_31 : decode cX1_hasAllIntervals 31 = .ok (.iload_n 2, 1) := by decide +kernel
theorem dX1_hasAllIntervals_32 : decode cX1_hasAllIntervals 32 = .ok (.iconst 1, 1) := by decide +kernel
theorem dX1_hasAllIntervals_33 : decode cX1_hasAllIntervals 33 = .ok (.aload_n 0, 1) := by decide +kernel
theorem dX1_hasAllIntervals_34 : decode cX1_hasAllIntervals 34 = .ok (.iload_n 1, 1) := by decide +kernel
theorem dX1_hasAllIntervals_35 : decode cX1_hasAllIntervals 35 = .ok (.iload_n 3, 1) := by decide +kernel
theorem dX1_hasAllIntervals_36 : decode cX1_hasAllIntervals 36 = .ok (.invokevirtual 59, 3) := by decide +kernel
theorem dX1_hasAllIntervals_39 : decode cX1_hasAllIntervals 39 = .ok (.ishl, 1) := by decide +kernel
theorem dX1_hasAllIntervals_40 : decode cX1_hasAllIntervals 40 = .ok (.ior, 1) := by decide +kernel
theorem dX1_hasAllIntervals_41 : decode cX1_hasAllIntervals 41 = .ok (.istore_n 2, 1) := by decide +kernel
theorem dX1_hasAllIntervals_42 : decode cX1_hasAllIntervals 42 = .ok (.iinc 3 1, 3) := by decide +kernel
theorem dX1_hasAllIntervals_45 : decode cX1_hasAllIntervals 45 = .ok (.goto (-20), 3) := by decide +kernel
theorem dX1_hasAllIntervals_48 : decode cX1_hasAllIntervals 48 = .ok (.iload_n 2, 1) := by decide +kernel
theorem dX1_hasAllIntervals_49 : decode cX1_hasAllIntervals 49 = .ok (.sipush 4094, 3) := by decide +kernel
theorem dX1_hasAllIntervals_52 : decode cX1_hasAllIntervals 52 = .ok (.if_icmp .ne 7, 3) := by decide +kernel
theorem dX1_hasAllIntervals_55 : decode cX1_hasAllIntervals 55 = .ok (.iconst 1, 1) := by decide +kernel
theorem dX1_hasAllIntervals_56 : decode cX1_hasAllIntervals 56 = .ok (.goto 4, 3) := by decide +kernel
theorem dX1_hasAllIntervals_59 : decode cX1_hasAllIntervals 59 = .ok (.iconst 0, 1) := by decide +kernel
theorem dX1_hasAllIntervals_60 : decode cX1_hasAllIntervals 60 = .ok (.ireturn, 1) := by decide +kernel
theorem dX1_toneOf_0 : decode cX1_toneOf 0 = .ok (.aload_n 0, 1) := by decide +kernel
theorem dX1_toneOf_1 : decode cX1_toneOf 1 = .ok (.iload_n 1, 1) := by decide +kernel
theorem dX1_toneOf_2 : decode cX1_toneOf 2 = .ok (.invokestatic 39, 3) := by decide +kernel
theorem dX1_toneOf_5 : decode cX1_toneOf 5 = .ok (.ifCond .eq 11, 3) := by decide +kernel
theorem dX1_toneOf_8 : decode cX1_toneOf 8 = .ok (.iload 4, 2) := by decide +kernel
theorem dX1_toneOf_10 : decode cX1_toneOf 10 = .ok (.invokestatic 27, 3) := by decide +kernel
theorem dX1_toneOf_13 : decode cX1_toneOf 13 = .ok (.ifCond .ne 7, 3) := by decide +kernel
theorem dX1_toneOf_16 : decode cX1_toneOf 16 = .ok (.iconst 1, 1) := by decide +kernel
theorem dX1_toneOf_17 : decode cX1_toneOf 17 = .ok (.goto 16, 3) := by decide +kernel
theorem dX1_toneOf_20 : decode cX1_toneOf 20 = .ok (.iload_n 2, 1) := by decide +kernel
theorem dX1_toneOf_21 : decode cX1_toneOf 21 = .ok (.iload_n 3, 1) := by decide +kernel
theorem dX1_toneOf_22 : decode cX1_toneOf 22 = .ok (.invokestatic 45, 3) := by decide +kernel
theorem dX1_toneOf_25 : decode cX1_toneOf 25 = .ok (.ifCond .eq 7, 3) := by decide +kernel
theorem dX1_toneOf_28 : decode cX1_toneOf 28 = .ok (.iconst 0, 1) := by decide +kernel
theorem dX1_toneOf_29 : decode cX1_toneOf 29 = .ok (.goto 4, 3) := by decide +kernel
theorem dX1_toneOf_32 : decode cX1_toneOf 32 = .ok (.iconst 2, 1) := by decide +kernel
theorem dX1_toneOf_33 : decode cX1_toneOf 33 = .ok (.invokevirtual 42, 3) := by decide +kernel
theorem dX1_toneOf_36 : decode cX1_toneOf 36 = .ok (.ifCond .eq 18, 3) := by decide +kernel
theorem dX1_toneOf_39 : decode cX1_toneOf 39 = .ok (.aload_n 0, 1) := by decide +kernel
theorem dX1_toneOf_40 : decode cX1_toneOf 40 = .ok (.iload_n 1, 1) := by decide +kernel
theorem dX1_toneOf_41 : decode cX1_toneOf 41 = .ok (.iload_n 2, 1) := by decide +kernel
theorem dX1_toneOf_42 : decode cX1_toneOf 42 = .ok (.iload_n 3, 1) := by decide +kernel
theorem dX1_toneOf_43 : decode cX1_toneOf 43 = .ok (.invokestatic 49, 3) := by decide +kernel
theorem dX1_toneOf_46 : decode cX1_toneOf 46 = .ok (.iload 4, 2) := by decide +kernel
theorem dX1_toneOf_48 : decode cX1_toneOf 48 = .ok (.invokevirtual 52, 3) := by decide +kernel
theorem dX1_toneOf_51 : decode cX1_toneOf 51 = .ok (.goto 4, 3) := by decide +kernel
theorem dX1_toneOf_54 : decode cX1_toneOf 54 = .ok (.iconst 0, 1) := by decide +kernel
theorem dX1_toneOf_55 : decode cX1_toneOf 55 = .ok (.ireturn, 1) := by decide +kernel
theorem dX1_matrix_0 : decode cX1_matrix 0 = .ok (.aload_n 0, 1) := by decide +kernel
theorem dX1_matrix_1 : decode cX1_matrix 1 = .ok (.iload_n 1, 1) := by decide +kernel
theorem dX1_matrix_2 : decode cX1_matrix 2 = .ok (.invokestatic 39, 3) := by decide +kernel
theorem dX1_matrix_5 : decode cX1_matrix 5 = .ok (.ifCond .eq 21, 3) := by decide +kernel
theorem dX1_matrix_8 : decode cX1_matrix 8 = .ok (.iload_n 2, 1) := by decide +kernel
theorem dX1_matrix_9 : decode cX1_matrix 9 = .ok (.invokestatic 27, 3) := by decide +kernel
theorem dX1_matrix_12 : decode cX1_matrix 12 = .ok (.ifCond .eq 14, 3) := by decide +kernel
theorem dX1_matrix_15 : decode cX1_matrix 15 = .ok (.iload_n 3, 1) := by decide +kernel
theorem dX1_matrix_16 : decode cX1_matrix 16 = .ok (.invokestatic 27, 3) := by decide +kernel
theorem dX1_matrix_19 : decode cX1_matrix 19 = .ok (.ifCond .eq 7, 3) := by decide +kernel
theorem dX1_matrix_22 : decode cX1_matrix 22 = .ok (.iconst 0, 1) := by decide +kernel
theorem dX1_matrix_23 : decode cX1_matrix 23 = .ok (.goto 4, 3) := by decide +kernel
theorem dX1_matrix_26 : decode cX1_matrix 26 = .ok (.iconst 1, 1) := by decide +kernel
theorem dX1_matrix_27 : decode cX1_matrix 27 = .ok (.invokevirtual 42, 3) := by decide +kernel
theorem dX1_matrix_30 : decode cX1_matrix 30 = .ok (.ifCond .ne 5, 3) := by decide +kernel
theorem dX1_matrix_33 : decode cX1_matrix 33 = .ok (.iconst 0, 1) := by decide +kernel
theorem dX1_matrix_34 : decode cX1_matrix 34 = .ok (.ireturn, 1) := by decide +kernel
theorem dX1_matrix_35 : decode cX1_matrix 35 = .ok (.aload_n 0, 1) := by decide +kernel
theorem dX1_matrix_36 : decode cX1_matrix 36 = .ok (.iload_n 1, 1) := by decide +kernel
theorem dX1_matrix_37 : decode cX1_matrix 37 = .ok (.iconst 1, 1) := by decide +kernel
theorem dX1_matrix_38 : decode cX1_matrix 38 = .ok (.aload_n 0, 1) := by decide +kernel
theorem dX1_matrix_39 : decode cX1_matrix 39 = .ok (.iload_n 1, 1) := by decide +kernel
theorem dX1_matrix_40 : decode cX1_matrix 40 = .ok (.iconst 0, 1) := by decide +kernel
theorem dX1_matrix_41 : decode cX1_matrix 41 = .ok (.invokevirtual 31, 3) := by decide +kernel
theorem dX1_matrix_44 : decode cX1_matrix 44 = .ok (.invokestatic 49, 3) := by decide +kernel
theorem dX1_matrix_47 : decode cX1_matrix 47 = .ok (.iload_n 2, 1) := by decide +kernel
theorem dX1_matrix_48 : decode cX1_matrix 48 = .ok (.invokevirtual 52, 3) := by decide +kernel
theorem dX1_matrix_51 : decode cX1_matrix 51 = .ok (.istore 4, 2) := by decide +kernel
theorem dX1_matrix_53 : decode cX1_matrix 53 = .ok (.aload_n 0, 1) := by decide +kernel
theorem dX1_matrix_54 : decode cX1_matrix 54 = .ok (.iload_n 1, 1) := by decide +kernel
theorem dX1_matrix_55 : decode cX1_matrix 55 = .ok (.iconst 0, 1) := by decide +kernel
theorem dX1_matrix_56 : decode cX1_matrix 56 = .ok (.iload 4, 2) := by decide +kernel
theorem dX1_matrix_58 : decode cX1_matrix 58 = .ok (.invokestatic 49, 3) := by decide +kernel
theorem dX1_matrix_61 : decode cX1_matrix 61 = .ok (.iload_n 3, 1) := by decide +kernel
theorem dX1_matrix_62 : decode cX1_matrix 62 = .ok (.invokevirtual 52, 3) := by decide +kernel
theorem dX1_matrix_65 : decode cX1_matrix 65 = .ok (.ireturn, 1) := by decide +kernel
theorem dX1_areSame_0 : decode cX1_areSame 0 = .ok (.iconst 1, 1) := by decide +kernel
theorem dX1_areSame_1 : decode cX1_areSame 1 = .ok (.istore 4, 2) := by decide +kernel
theorem dX1_areSame_3 : decode cX1_areSame 3 = .ok (.iconst 0, 1) := by decide +kernel
theorem dX1_areSame_4 : decode cX1_areSame 4 = .ok (.istore 5, 2) := by decide +kernel
theorem dX1_areSame_6 : decode cX1_areSame 6 = .ok (.iload 5, 2) := by decide +kernel
theorem dX1_areSame_8 : decode cX1_areSame 8 = .ok (.bipush 12, 2) := by decide +kernel
theorem dX1_areSame_10 : decode cX1_areSame 10 = .ok (.if_icmp .ge 40, 3) := by decide +kernel
theorem dX1_areSame_13 : decode cX1_areSame 13 = .ok (.iload 4, 2) := by decide +kernel
theorem dX1_areSame_15 : decode cX1_areSame 15 = .ok (.ifCond .eq 26, 3) := by decide +kernel
theorem dX1_areSame_18 : decode cX1_areSame 18 = .ok (.aload_n 0, 1) := by decide +kernel
theorem dX1_areSame_19 : decode cX1_areSame 19 = .ok (.iload_n 1, 1) := by decide +kernel
theorem dX1_areSame_20 : decode cX1_areSame 20 = .ok (.iload_n 2, 1) := by decide +kernel
theorem dX1_areSame_21 : decode cX1_areSame 21 = .ok (.iload 5, 2) := by decide +kernel
theorem dX1_areSame_23 : decode cX1_areSame 23 = .ok (.invokevirtual 52, 3) := by decide +kernel
theorem dX1_areSame_26 : decode cX1_areSame 26 = .ok (.aload_n 0, 1) := by decide +kernel
theorem dX1_areSame_27 : decode cX1_areSame 27 = .ok (.iload_n 1, 1) := by decide +kernel
theorem dX1_areSame_28 : decode cX1_areSame 28 = .ok (.iload_n 3, 1) := by decide +kernel
theorem dX1_areSame_29 : decode cX1_areSame 29 = .ok (.iload 5, 2) := by decide +kernel
theorem dX1_areSame_31 : decode cX1_areSame 31 = .ok (.invokevirtual 52, 3) := by decide +kernel
theorem dX1_areSame_34 : decode cX1_areSame 34 = .ok (.if_icmp .ne 7, 3) := by decide +kernel
theorem dX1_areSame_37 : decode cX1_areSame 37 = .ok (.iconst 1, 1) := by decide +kernel
theorem dX1_areSame_38 : decode cX1_areSame 38 = .ok (.goto 4, 3) := by decide +kernel
theorem dX1_areSame_41 : decode cX1_areSame 41 = .ok (.iconst 0, 1) := by decide +kernel
theorem dX1_areSame_42 : decode cX1_areSame 42 = .ok (.istore 4, 2) := by decide +kernel
theorem dX1_areSame_44 : decode cX1_areSame 44 = .ok (.iinc 5 1, 3) := by decide +kernel
theorem dX1_areSame_47 : decode cX1_areSame 47 = .ok (.goto (-41), 3) := by decide +kernel
theorem dX1_areSame_50 : decode cX1_areSame 50 = .ok (.iload 4, 2) := by decide +kernel
theorem dX1_areSame_52 : decode cX1_areSame 52 = .ok (.ireturn, 1) := by decide +kernel
theorem dX1_differentForms_0 : decode cX1_differentForms 0 = .ok (.aload_n 0, 1) := by decide +kernel
theorem dX1_differentForms_1 : decode cX1_differentForms 1 = .ok (.iload_n 1, 1) := by decide +kernel
theorem dX1_differentForms_2 : decode cX1_differentForms 2 = .ok (.invokestatic 39, 3) := by decide +kernel
theorem dX1_differentForms_5 : decode cX1_differentForms 5 = .ok (.ifCond .eq 7, 3) := by decide +kernel
theorem dX1_differentForms_8 : decode cX1_differentForms 8 = .ok (.iconst 0, 1) := by decide +kernel
theorem dX1_differentForms_9 : decode cX1_differentForms 9 = .ok (.goto 4, 3) := by decide +kernel
theorem dX1_differentForms_12 : decode cX1_differentForms 12 = .ok (.iconst 1, 1) := by decide +kernel
theorem dX1_differentForms_13 : decode cX1_differentForms 13 = .ok (.invokevirtual 42, 3) := by decide +kernel
theorem dX1_differentForms_16 : decode cX1_differentForms 16 = .ok (.ifCond .ne 5, 3) := by decide +kernel
theorem dX1_differentForms_19 : decode cX1_differentForms 19 = .ok (.iconst 0, 1) := by decide +kernel
theorem dX1_differentForms_20 : decode cX1_differentForms 20 = .ok (.ireturn, 1) := by decide +kernel
theorem dX1_differentForms_21 : decode cX1_differentForms 21 = .ok (.iconst 0, 1) := by decide +kernel
theorem dX1_differentForms_22 : decode cX1_differentForms 22 = .ok (.istore_n 2, 1) := by decide +kernel
theorem dX1_differentForms_23 : decode cX1_differentForms 23 = .ok (.iconst 0, 1) := by decide +kernel
theorem dX1_differentForms_24 : decode cX1_differentForms 24 = .ok (.istore_n 3, 1) := by decide +kernel
theorem dX1_differentForms_25 : decode cX1_differentForms 25 = .ok (.iload_n 3, 1) := by decide +kernel
theorem dX1_differentForms_26 : decode cX1_differentForms 26 = .ok (.bipush 48, 2) := by decide +kernel
theorem dX1_differentForms_28 : decode cX1_differentForms 28 = .ok (.if_icmp .ge 63, 3) := by decide +kernel
theorem dX1_differentForms_31 : decode cX1_differentForms 31 = .ok (.iconst 1, 1) := by decide +kernel
theorem dX1_differentForms_32 : decode cX1_differentForms 32 = .ok (.istore 4, 2) := by decide +kernel
theorem dX1_differentForms_34 : decode cX1_differentForms 34 = .ok (.iconst 0, 1) := by decide +kernel
theorem dX1_differentForms_35 : decode cX1_differentForms 35 = .ok (.istore 5, 2) := by decide +kernel
theorem dX1_differentForms_37 : decode cX1_differentForms 37 = .ok (.iload 5, 2) := by decide +kernel
theorem dX1_differentForms_39 : decode cX1_differentForms 39 = .ok (.iload_n 3, 1) := by decide +kernel
theorem dX1_differentForms_40 : decode cX1_differentForms 40 = .ok (.if_icmp .ge 32, 3) := by decide +kernel
theorem dX1_differentForms_43 : decode cX1_differentForms 43 = .ok (.iload 4, 2) := by decide +kernel
theorem dX1_differentForms_45 : decode cX1_differentForms 45 = .ok (.ifCond .eq 18, 3) := by decide +kernel
theorem dX1_differentForms_48 : decode cX1_differentForms 48 = .ok (.aload_n 0, 1) := by decide +kernel
theorem dX1_differentForms_49 : decode cX1_differentForms 49 = .ok (.iload_n 1, 1) := by decide +kernel
theorem dX1_differentForms_50 : decode cX1_differentForms 50 = .ok (.iload 5, 2) := by decide +kernel
theorem dX1_differentForms_52 : decode cX1_differentForms 52 = .ok (.iload_n 3, 1) := by decide +kernel
theorem dX1_differentForms_53 : decode cX1_differentForms 53 = .ok (.invokevirtual 62, 3) := by decide +kernel
theorem dX1_differentForms_56 : decode cX1_differentForms 56 = .ok (.ifCond .ne 7, 3) := by decide +kernel
theorem dX1_differentForms_59 : decode cX1_differentForms 59 = .ok (.iconst 1, 1) := by decide +kernel
theorem dX1_differentForms_60 : decode cX1_differentForms 60 = .ok (.goto 4, 3) := by decide +kernel
theorem dX1_differentForms_63 : decode cX1_differentForms 63 = .ok (.iconst 0, 1) := by decide +kernel
theorem dX1_differentForms_64 : decode cX1_differentForms 64 = .ok (.istore 4, 2) := by decide +kernel
theorem dX1_differentForms_66 : decode cX1_differentForms 66 = .ok (.iinc 5 1, 3) := by decide +kernel
theorem dX1_differentForms_69 : decode cX1_differentForms 69 = .ok (.goto (-32), 3) := by decide +kernel
theorem dX1_differentForms_72 : decode cX1_differentForms 72 = .ok (.iload_n 2, 1) := by decide +kernel
theorem dX1_differentForms_73 : decode cX1_differentForms 73 = .ok (.iload 4, 2) := by decide +kernel
theorem dX1_differentForms_75 : decode cX1_differentForms 75 = .ok (.ifCond .eq 7, 3) := by decide +kernel
theorem dX1_differentForms_78 : decode cX1_differentForms 78 = .ok (.iconst 1, 1) := by decide +kernel
theorem dX1_differentForms_79 : decode cX1_differentForms 79 = .ok (.goto 4, 3) := by decide +kernel
theorem dX1_differentForms_82 : decode cX1_differentForms 82 = .ok (.iconst 0, 1) := by decide +kernel
theorem dX1_differentForms_83 : decode cX1_differentForms 83 = .ok (.iadd, 1) := by decide +kernel
theorem dX1_differentForms_84 : decode cX1_differentForms 84 = .ok (.istore_n 2, 1) := by decide +kernel
theorem dX1_differentForms_85 : decode cX1_differentForms 85 = .ok (.iinc 3 1, 3) := by decide +kernel
theorem dX1_differentForms_88 : decode cX1_differentForms 88 = .ok (.goto (-63), 3) := by decide +kernel
theorem dX1_differentForms_91 : decode cX1_differentForms 91 = .ok (.iload_n 2, 1) := by decide +kernel
theorem dX1_differentForms_92 : decode cX1_differentForms 92 = .ok (.ireturn, 1) := by decide +kernel
theorem dX1_formOfOther_0 : decode cX1_formOfOther 0 = .ok (.aload_n 0, 1) := by decide +kernel
theorem dX1_formOfOther_1 : decode cX1_formOfOther 1 = .ok (.iload_n 1, 1) := by decide +kernel
theorem dX1_formOfOther_2 : decode cX1_formOfOther 2 = .ok (.invokestatic 39, 3) := by decide +kernel
theorem dX1_formOfOther_5 : decode cX1_formOfOther 5 = .ok (.ifCond .eq 7, 3) := by decide +kernel
theorem dX1_formOfOther_8 : decode cX1_formOfOther 8 = .ok (.iconst 0, 1) := by decide +kernel
theorem dX1_formOfOther_9 : decode cX1_formOfOther 9 = .ok (.goto 4, 3) := by decide +kernel
theorem dX1_formOfOther_12 : decode cX1_formOfOther 12 = .ok (.iconst 1, 1) := by decide +kernel
theorem dX1_formOfOther_13 : decode cX1_formOfOther 13 = .ok (.invokevirtual 42, 3) := by decide +kernel
theorem dX1_formOfOther_16 : decode cX1_formOfOther 16 = .ok (.ifCond .ne 5, 3) := by decide +kernel
theorem dX1_formOfOther_19 : decode cX1_formOfOther 19 = .ok (.iconst 0, 1) := by decide +kernel
theorem dX1_formOfOther_20 : decode cX1_formOfOther 20 = .ok (.ireturn, 1) := by decide +kernel
theorem dX1_formOfOther_21 : decode cX1_formOfOther 21 = .ok (.iconst 0, 1) := by decide +kernel
theorem dX1_formOfOther_22 : decode cX1_formOfOther 22 = .ok (.istore_n 2, 1) := by decide +kernel
theorem dX1_formOfOther_23 : decode cX1_formOfOther 23 = .ok (.iload_n 2, 1) := by decide +kernel
theorem dX1_formOfOther_24 : decode cX1_formOfOther 24 = .ok (.bipush 48, 2) := by decide +kernel
theorem dX1_formOfOther_26 : decode cX1_formOfOther 26 = .ok (.if_icmp .ge 63, 3) := by decide +kernel
theorem dX1_formOfOther_29 : decode cX1_formOfOther 29 = .ok (.iconst 1, 1) := by decide +kernel
theorem dX1_formOfOther_30 : decode cX1_formOfOther 30 = .ok (.istore_n 3, 1) := by decide +kernel
theorem dX1_formOfOther_31 : decode cX1_formOfOther 31 = .ok (.iconst 0, 1) := by decide +kernel
theorem dX1_formOfOther_32 : decode cX1_formOfOther 32 = .ok (.istore 4, 2) := by decide +kernel
theorem dX1_formOfOther_34 : decode cX1_formOfOther 34 = .ok (.iload 4, 2) := by decide +kernel
theorem dX1_formOfOther_36 : decode cX1_formOfOther 36 = .ok (.bipush 12, 2) := by decide +kernel
theorem dX1_formOfOther_38 : decode cX1_formOfOther 38 = .ok (.if_icmp .ge 39, 3) := by decide +kernel
theorem dX1_formOfOther_41 : decode cX1_formOfOther 41 = .ok (.iload_n 3, 1) := by decide +kernel
theorem dX1_formOfOther_42 : decode cX1_formOfOther 42 = .ok (.ifCond .eq 27, 3) := by decide +kernel
theorem dX1_formOfOther_45 : decode cX1_formOfOther 45 = .ok (.aload_n 0, 1) := by decide +kernel
theorem dX1_formOfOther_46 : decode cX1_formOfOther 46 = .ok (.iload_n 1, 1) := by decide +kernel
theorem dX1_formOfOther_47 : decode cX1_formOfOther 47 = .ok (.iload_n 2, 1) := by decide +kernel
theorem dX1_formOfOther_48 : decode cX1_formOfOther 48 = .ok (.iload 4, 2) := by decide +kernel
theorem dX1_formOfOther_50 : decode cX1_formOfOther 50 = .ok (.invokevirtual 52, 3) := by decide +kernel
theorem dX1_formOfOther_53 : decode cX1_formOfOther 53 = .ok (.aload_n 0, 1) := by decide +kernel
theorem dX1_formOfOther_54 : decode cX1_formOfOther 54 = .ok (.iconst 1, 1) := by decide +kernel
theorem dX1_formOfOther_55 : decode cX1_formOfOther 55 = .ok (.iload_n 1, 1) := by decide +kernel
theorem dX1_formOfOther_56 : decode cX1_formOfOther 56 = .ok (.isub, 1) := by decide +kernel
theorem dX1_formOfOther_57 : decode cX1_formOfOther 57 = .ok (.iload 4, 2) := by decide +kernel
theorem dX1_formOfOther_59 : decode cX1_formOfOther 59 = .ok (.invokevirtual 31, 3) := by decide +kernel
theorem dX1_formOfOther_62 : decode cX1_formOfOther 62 = .ok (.if_icmp .ne 7, 3) := by decide +kernel
theorem dX1_formOfOther_65 : decode cX1_formOfOther 65 = .ok (.iconst 1, 1) := by decide +kernel
theorem dX1_formOfOther_66 : decode cX1_formOfOther 66 = .ok (.goto 4, 3) := by decide +kernel
theorem dX1_formOfOther_69 : decode cX1_formOfOther 69 = .ok (.iconst 0, 1) := by decide +kernel
theorem dX1_formOfOther_70 : decode cX1_formOfOther 70 = .ok (.istore_n 3, 1) := by decide +kernel
theorem dX1_formOfOther_71 : decode cX1_formOfOther 71 = .ok (.iinc 4 1, 3) := by decide +kernel
theorem dX1_formOfOther_74 : decode cX1_formOfOther 74 = .ok (.goto (-40), 3) := by decide +kernel
theorem dX1_formOfOther_77 : decode cX1_formOfOther 77 = .ok (.iload_n 3, 1) := by decide +kernel
theorem dX1_formOfOther_78 : decode cX1_formOfOther 78 = .ok (.ifCond .eq 5, 3) := by decide +kernel
theorem dX1_formOfOther_81 : decode cX1_formOfOther 81 = .ok (.iload_n 2, 1) := by decide +kernel
theorem dX1_formOfOther_82 : decode cX1_formOfOther 82 = .ok (.ireturn, 1) := by decide +kernel
theorem dX1_formOfOther_83 : decode cX1_formOfOther 83 = .ok (.iinc 2 1, 3) := by decide +kernel
theorem dX1_formOfOther_86 : decode cX1_formOfOther 86 = .ok (.goto (-63), 3) := by decide +kernel
theorem dX1_formOfOther_89 : decode cX1_formOfOther 89 = .ok (.iconst (-1), 1) := by decide +kernel
theorem dX1_formOfOther_90 : decode cX1_formOfOther 90 = .ok (.ireturn, 1) := by decide +kernel
theorem dX1_setOf_0 : decode cX1_setOf 0 = .ok (.iconst 0, 1) := by decide +kernel
theorem dX1_setOf_1 : decode cX1_setOf 1 = .ok (.istore 5, 2) := by decide +kernel
theorem dX1_setOf_3 : decode cX1_setOf 3 = .ok (.iconst 0, 1) := by decide +kernel
theorem dX1_setOf_4 : decode cX1_setOf 4 = .ok (.istore 6, 2) := by decide +kernel
theorem dX1_setOf_6 : decode cX1_setOf 6 = .ok (.iload 6, 2) := by decide +kernel
theorem dX1_setOf_8 : decode cX1_setOf 8 = .ok (.iload 4, 2) := by decide +kernel
theorem dX1_setOf_10 : decode cX1_setOf 10 = .ok (.if_icmp .ge 26, 3) := by decide +kernel
theorem dX1_setOf_13 : decode cX1_setOf 13 = .ok (.iload 5, 2) := by decide +kernel
theorem dX1_setOf_15 : decode cX1_setOf 15 = .ok (.iconst 1, 1) := by decide +kernel
theorem dX1_setOf_16 : decode cX1_setOf 16 = .ok (.aload_n 0, 1) := by decide +kernel
theorem dX1_setOf_17 : decode cX1_setOf 17 = .ok (.iload_n 1, 1) := by decide +kernel
theorem dX1_setOf_18 : decode cX1_setOf 18 = .ok (.iload_n 2, 1) := by decide +kernel
theorem dX1_setOf_19 : decode cX1_setOf 19 = .ok (.iload_n 3, 1) := by decide +kernel
theorem dX1_setOf_20 : decode cX1_setOf 20 = .ok (.iload 6, 2) := by decide +kernel
theorem dX1_setOf_22 : decode cX1_setOf 22 = .ok (.iadd, 1) := by decide +kernel
theorem dX1_setOf_23 : decode cX1_setOf 23 = .ok (.invokevirtual 52, 3) := by decide +kernel
theorem dX1_setOf_26 : decode cX1_setOf 26 = .ok (.ishl, 1) := by decide +kernel
theorem dX1_setOf_27 : decode cX1_setOf 27 = .ok (.ior, 1) := by decide +kernel
theorem dX1_setOf_28 : decode cX1_setOf 28 = .ok (.istore 5, 2) := by decide +kernel
theorem dX1_setOf_30 : decode cX1_setOf 30 = .ok (.iinc 6 1, 3) := by decide +kernel
theorem dX1_setOf_33 : decode cX1_setOf 33 = .ok (.goto (-27), 3) := by decide +kernel
theorem dX1_setOf_36 : decode cX1_setOf 36 = .ok (.iload 5, 2) := by decide +kernel
theorem dX1_setOf_38 : decode cX1_setOf 38 = .ok (.ireturn, 1) := by decide +kernel
theorem dX1_itself_0 : decode cX1_itself 0 = .ok (.iconst 0, 1) := by decide +kernel
theorem dX1_itself_1 : decode cX1_itself 1 = .ok (.aload_n 0, 1) := by decide +kernel
theorem dX1_itself_2 : decode cX1_itself 2 = .ok (.iload_n 1, 1) := by decide +kernel
theorem dX1_itself_3 : decode cX1_itself 3 = .ok (.iconst 0, 1) := by decide +kernel
theorem dX1_itself_4 : decode cX1_itself 4 = .ok (.invokevirtual 31, 3) := by decide +kernel
theorem dX1_itself_7 : decode cX1_itself 7 = .ok (.invokestatic 49, 3) := by decide +kernel
theorem dX1_itself_10 : decode cX1_itself 10 = .ok (.ireturn, 1) := by decide +kernel
theorem dX1_segment_0 : decode cX1_segment 0 = .ok (.iload_n 3, 1) := by decide +kernel
theorem dX1_segment_1 : decode cX1_segment 1 = .ok (.iconst 1, 1) := by decide +kernel
theorem dX1_segment_2 : decode cX1_segment 2 = .ok (.bipush 12, 2) := by decide +kernel
theorem dX1_segment_4 : decode cX1_segment 4 = .ok (.invokestatic 23, 3) := by decide +kernel
theorem dX1_segment_7 : decode cX1_segment 7 = .ok (.ifCond .eq 15, 3) := by decide +kernel
theorem dX1_segment_10 : decode cX1_segment 10 = .ok (.iload_n 2, 1) := by decide +kernel
theorem dX1_segment_11 : decode cX1_segment 11 = .ok (.iload_n 3, 1) := by decide +kernel
theorem dX1_segment_12 : decode cX1_segment 12 = .ok (.iadd, 1) := by decide +kernel
theorem dX1_segment_13 : decode cX1_segment 13 = .ok (.bipush 12, 2) := by decide +kernel
theorem dX1_segment_15 : decode cX1_segment 15 = .ok (.if_icmp .gt 7, 3) := by decide +kernel
theorem dX1_segment_18 : decode cX1_segment 18 = .ok (.iconst 1, 1) := by decide +kernel
theorem dX1_segment_19 : decode cX1_segment 19 = .ok (.goto 4, 3) := by decide +kernel
theorem dX1_segment_22 : decode cX1_segment 22 = .ok (.iconst 0, 1) := by decide +kernel
theorem dX1_segment_23 : decode cX1_segment 23 = .ok (.istore 4, 2) := by decide +kernel
theorem dX1_segment_25 : decode cX1_segment 25 = .ok (.aload_n 0, 1) := by decide +kernel
theorem dX1_segment_26 : decode cX1_segment 26 = .ok (.iload_n 1, 1) := by decide +kernel
theorem dX1_segment_27 : decode cX1_segment 27 = .ok (.invokestatic 39, 3) := by decide +kernel
theorem dX1_segment_30 : decode cX1_segment 30 = .ok (.ifCond .eq 10, 3) := by decide +kernel
theorem dX1_segment_33 : decode cX1_segment 33 = .ok (.iload_n 2, 1) := by decide +kernel
theorem dX1_segment_34 : decode cX1_segment 34 = .ok (.invokestatic 27, 3) := by decide +kernel
theorem dX1_segment_37 : decode cX1_segment 37 = .ok (.ifCond .ne 7, 3) := by decide +kernel
theorem dX1_segment_40 : decode cX1_segment 40 = .ok (.iconst 1, 1) := by decide +kernel
theorem dX1_segment_41 : decode cX1_segment 41 = .ok (.goto 13, 3) := by decide +kernel
theorem dX1_segment_44 : decode cX1_segment 44 = .ok (.iload 4, 2) := by decide +kernel
theorem dX1_segment_46 : decode cX1_segment 46 = .ok (.ifCond .eq 7, 3) := by decide +kernel
theorem dX1_segment_49 : decode cX1_segment 49 = .ok (.iconst 0, 1) := by decide +kernel
theorem dX1_segment_50 : decode cX1_segment 50 = .ok (.goto 4, 3) := by decide +kernel
theorem dX1_segment_53 : decode cX1_segment 53 = .ok (.iconst 2, 1) := by decide +kernel
theorem dX1_segment_54 : decode cX1_segment 54 = .ok (.invokevirtual 42, 3) := by decide +kernel
theorem dX1_segment_57 : decode cX1_segment 57 = .ok (.ifCond .eq 18, 3) := by decide +kernel
theorem dX1_segment_60 : decode cX1_segment 60 = .ok (.aload_n 0, 1) := by decide +kernel
theorem dX1_segment_61 : decode cX1_segment 61 = .ok (.iload_n 1, 1) := by decide +kernel
theorem dX1_segment_62 : decode cX1_segment 62 = .ok (.aload_n 0, 1) := by decide +kernel
theorem dX1_segment_63 : decode cX1_segment 63 = .ok (.iload_n 1, 1) := by decide +kernel
theorem dX1_segment_64 : decode cX1_segment 64 = .ok (.invokevirtual 65, 3) := by decide +kernel
theorem dX1_segment_67 : decode cX1_segment 67 = .ok (.iload_n 2, 1) := by decide +kernel
theorem dX1_segment_68 : decode cX1_segment 68 = .ok (.iload_n 3, 1) := by decide +kernel
theorem dX1_segment_69 : decode cX1_segment 69 = .ok (.invokevirtual 68, 3) := by decide +kernel
theorem dX1_segment_72 : decode cX1_segment 72 = .ok (.goto 4, 3) := by decide +kernel
theorem dX1_segment_75 : decode cX1_segment 75 = .ok (.iconst 0, 1) := by decide +kernel
theorem dX1_segment_76 : decode cX1_segment 76 = .ok (.ireturn, 1) := by decide +kernel
theorem dX1_moved_0 : decode cX1_moved 0 = .ok (.iconst 0, 1) := by decide +kernel
theorem dX1_moved_1 : decode cX1_moved 1 = .ok (.istore_n 3, 1) := by decide +kernel
theorem dX1_moved_2 : decode cX1_moved 2 = .ok (.iconst 0, 1) := by decide +kernel
theorem dX1_moved_3 : decode cX1_moved 3 = .ok (.istore 4, 2) := by decide +kernel
theorem dX1_moved_5 : decode cX1_moved 5 = .ok (.iload 4, 2) := by decide +kernel
theorem dX1_moved_7 : decode cX1_moved 7 = .ok (.bipush 12, 2) := by decide +kernel
theorem dX1_moved_9 : decode cX1_moved 9 = .ok (.if_icmp .ge 37, 3) := by decide +kernel
theorem dX1_moved_12 : decode cX1_moved 12 = .ok (.iload_n 3, 1) := by decide +kernel
theorem dX1_moved_13 : decode cX1_moved 13 = .ok (.iload_n 0, 1) := by decide +kernel
theorem dX1_moved_14 : decode cX1_moved 14 = .ok (.iload 4, 2) := by decide +kernel
theorem dX1_moved_16 : decode cX1_moved 16 = .ok (.ishr, 1) := by decide +kernel
theorem dX1_moved_17 : decode cX1_moved 17 = .ok (.iconst 1, 1) := by decide +kernel
theorem dX1_moved_18 : decode cX1_moved 18 = .ok (.iand, 1) := by decide +kernel
theorem dX1_moved_19 : decode cX1_moved 19 = .ok (.iload_n 2, 1) := by decide +kernel
theorem dX1_moved_20 : decode cX1_moved 20 = .ok (.ifCond .eq 10, 3) := by decide +kernel
theorem dX1_moved_23 : decode cX1_moved 23 = .ok (.iload_n 1, 1) := by decide +kernel
theorem dX1_moved_24 : decode cX1_moved 24 = .ok (.iload 4, 2) := by decide +kernel
theorem dX1_moved_26 : decode cX1_moved 26 = .ok (.isub, 1) := by decide +kernel
theorem dX1_moved_27 : decode cX1_moved 27 = .ok (.goto 7, 3) := by decide +kernel
theorem dX1_moved_30 : decode cX1_moved 30 = .ok (.iload_n 1, 1) := by decide +kernel
theorem dX1_moved_31 : decode cX1_moved 31 = .ok (.iload 4, 2) := by decide +kernel
theorem dX1_moved_33 : decode cX1_moved 33 = .ok (.iadd, 1) := by decide +kernel
theorem dX1_moved_34 : decode cX1_moved 34 = .ok (.invokestatic 35, 3) := by decide +kernel
theorem dX1_moved_37 : decode cX1_moved 37 = .ok (.ishl, 1) := by decide +kernel
theorem dX1_moved_38 : decode cX1_moved 38 = .ok (.ior, 1) := by decide +kernel
theorem dX1_moved_39 : decode cX1_moved 39 = .ok (.istore_n 3, 1) := by decide +kernel
theorem dX1_moved_40 : decode cX1_moved 40 = .ok (.iinc 4 1, 3) := by decide +kernel
theorem dX1_moved_43 : decode cX1_moved 43 = .ok (.goto (-38), 3) := by decide +kernel
theorem dX1_moved_46 : decode cX1_moved 46 = .ok (.iload_n 3, 1) := by decide +kernel
theorem dX1_moved_47 : decode cX1_moved 47 = .ok (.ireturn, 1) := by decide +kernel
theorem dX1_least_0 : decode cX1_least 0 = .ok (.iload_n 0, 1) := by decide +kernel
theorem dX1_least_1 : decode cX1_least 1 = .ok (.istore_n 1, 1) := by decide +kernel
theorem dX1_least_2 : decode cX1_least 2 = .ok (.iconst 0, 1) := by decide +kernel
theorem dX1_least_3 : decode cX1_least 3 = .ok (.istore_n 2, 1) := by decide +kernel
theorem dX1_least_4 : decode cX1_least 4 = .ok (.iload_n 2, 1) := by decide +kernel
theorem dX1_least_5 : decode cX1_least 5 = .ok (.bipush 12, 2) := by decide +kernel
theorem dX1_least_7 : decode cX1_least 7 = .ok (.if_icmp .ge 51, 3) := by decide +kernel
theorem dX1_least_10 : decode cX1_least 10 = .ok (.iload_n 0, 1) := by decide +kernel
theorem dX1_least_11 : decode cX1_least 11 = .ok (.iload_n 2, 1) := by decide +kernel
theorem dX1_least_12 : decode cX1_least 12 = .ok (.iconst 0, 1) := by decide +kernel
theorem dX1_least_13 : decode cX1_least 13 = .ok (.invokestatic 72, 3) := by decide +kernel
theorem dX1_least_16 : decode cX1_least 16 = .ok (.iload_n 1, 1) := by decide +kernel
theorem dX1_least_17 : decode cX1_least 17 = .ok (.if_icmp .ge 12, 3) := by decide +kernel
theorem dX1_least_20 : decode cX1_least 20 = .ok (.iload_n 0, 1) := by decide +kernel
theorem dX1_least_21 : decode cX1_least 21 = .ok (.iload_n 2, 1) := by decide +kernel
theorem dX1_least_22 : decode cX1_least 22 = .ok (.iconst 0, 1) := by decide +kernel
theorem dX1_least_23 : decode cX1_least 23 = .ok (.invokestatic 72, 3) := by decide +kernel
theorem dX1_least_26 : decode cX1_least 26 = .ok (.goto 4, 3) := by decide +kernel
theorem dX1_least_29 : decode cX1_least 29 = .ok (.iload_n 1, 1) := by decide +kernel
theorem dX1_least_30 : decode cX1_least 30 = .ok (.istore_n 1, 1) := by decide +kernel
theorem dX1_least_31 : decode cX1_least 31 = .ok (.iload_n 0, 1) := by decide +kernel
theorem dX1_least_32 : decode cX1_least 32 = .ok (.iload_n 2, 1) := by decide +kernel
theorem dX1_least_33 : decode cX1_least 33 = .ok (.iconst 1, 1) := by decide +kernel
theorem dX1_least_34 : decode cX1_least 34 = .ok (.invokestatic 72, 3) := by decide +kernel
theorem dX1_least_37 : decode cX1_least 37 = .ok (.iload_n 1, 1) := by decide +kernel
theorem dX1_least_38 : decode cX1_least 38 = .ok (.if_icmp .ge 12, 3) := by decide +kernel
theorem dX1_least_41 : decode cX1_least 41 = .ok (.iload_n 0, 1) := by decide +kernel
theorem dX1_least_42 : decode cX1_least 42 = .ok (.iload_n 2, 1) := by decide +kernel
theorem dX1_least_43 : decode cX1_least 43 = .ok (.iconst 1, 1) := by decide +kernel
theorem dX1_least_44 : decode cX1_least 44 = .ok (.invokestatic 72, 3) := by decide +kernel
theorem dX1_least_47 : decode cX1_least 47 = .ok (.goto 4, 3) := by decide +kernel
theorem dX1_least_50 : decode cX1_least 50 = .ok (.iload_n 1, 1) := by decide +kernel
theorem dX1_least_51 : decode cX1_least 51 = .ok (.istore_n 1, 1) := by decide +kernel
theorem dX1_least_52 : decode cX1_least 52 = .ok (.iinc 2 1, 3) := by decide +kernel
theorem dX1_least_55 : decode cX1_least 55 = .ok (.goto (-51), 3) := by decide +kernel
theorem dX1_least_58 : decode cX1_least 58 = .ok (.iload_n 1, 1) := by decide +kernel
theorem dX1_least_59 : decode cX1_least 59 = .ok (.ireturn, 1) := by decide +kernel
theorem dX1_classOf_0 : decode cX1_classOf 0 = .ok (.aload_n 0, 1) := by decide +kernel
theorem dX1_classOf_1 : decode cX1_classOf 1 = .ok (.iload_n 1, 1) := by decide +kernel
theorem dX1_classOf_2 : decode cX1_classOf 2 = .ok (.iconst 0, 1) := by decide +kernel
theorem dX1_classOf_3 : decode cX1_classOf 3 = .ok (.sipush 4095, 3) := by decide +kernel
theorem dX1_classOf_6 : decode cX1_classOf 6 = .ok (.invokestatic 23, 3) := by decide +kernel
theorem dX1_classOf_9 : decode cX1_classOf 9 = .ok (.ifCond .eq 7, 3) := by decide +kernel
theorem dX1_classOf_12 : decode cX1_classOf 12 = .ok (.iconst 0, 1) := by decide +kernel
theorem dX1_classOf_13 : decode cX1_classOf 13 = .ok (.goto 4, 3) := by decide +kernel
theorem dX1_classOf_16 : decode cX1_classOf 16 = .ok (.iconst 1, 1) := by decide +kernel
theorem dX1_classOf_17 : decode cX1_classOf 17 = .ok (.invokevirtual 42, 3) := by decide +kernel
theorem dX1_classOf_20 : decode cX1_classOf 20 = .ok (.ifCond .eq 10, 3) := by decide +kernel
theorem dX1_classOf_23 : decode cX1_classOf 23 = .ok (.iload_n 1, 1) := by decide +kernel
theorem dX1_classOf_24 : decode cX1_classOf 24 = .ok (.invokestatic 76, 3) := by decide +kernel
theorem dX1_classOf_27 : decode cX1_classOf 27 = .ok (.goto 4, 3) := by decide +kernel
theorem dX1_classOf_30 : decode cX1_classOf 30 = .ok (.iconst 0, 1) := by decide +kernel
theorem dX1_classOf_31 : decode cX1_classOf 31 = .ok (.ireturn, 1) := by decide +kernel
theorem dX1_pairs_0 : decode cX1_pairs 0 = .ok (.aload_n 0, 1) := by decide +kernel
theorem dX1_pairs_1 : decode cX1_pairs 1 = .ok (.iload_n 1, 1) := by decide +kernel
theorem dX1_pairs_2 : decode cX1_pairs 2 = .ok (.iconst 0, 1) := by decide +kernel
theorem dX1_pairs_3 : decode cX1_pairs 3 = .ok (.sipush 4095, 3) := by decide +kernel
theorem dX1_pairs_6 : decode cX1_pairs 6 = .ok (.invokestatic 23, 3) := by decide +kernel
theorem dX1_pairs_9 : decode cX1_pairs 9 = .ok (.ifCond .eq 17, 3) := by decide +kernel
theorem dX1_pairs_12 : decode cX1_pairs 12 = .ok (.iload_n 2, 1) := by decide +kernel
theorem dX1_pairs_13 : decode cX1_pairs 13 = .ok (.iconst 1, 1) := by decide +kernel
theorem dX1_pairs_14 : decode cX1_pairs 14 = .ok (.bipush 6, 2) := by decide +kernel
theorem dX1_pairs_16 : decode cX1_pairs 16 = .ok (.invokestatic 23, 3) := by decide +kernel
theorem dX1_pairs_19 : decode cX1_pairs 19 = .ok (.ifCond .eq 7, 3) := by decide +kernel
theorem dX1_pairs_22 : decode cX1_pairs 22 = .ok (.iconst 0, 1) := by decide +kernel
theorem dX1_pairs_23 : decode cX1_pairs 23 = .ok (.goto 4, 3) := by decide +kernel
theorem dX1_pairs_26 : decode cX1_pairs 26 = .ok (.iconst 1, 1) := by decide +kernel
theorem dX1_pairs_27 : decode cX1_pairs 27 = .ok (.invokevirtual 42, 3) := by decide +kernel
theorem dX1_pairs_30 : decode cX1_pairs 30 = .ok (.ifCond .ne 5, 3) := by decide +kernel
theorem dX1_pairs_33 : decode cX1_pairs 33 = .ok (.iconst 0, 1) := by decide +kernel
theorem dX1_pairs_34 : decode cX1_pairs 34 = .ok (.ireturn, 1) := by decide +kernel
theorem dX1_pairs_35 : decode cX1_pairs 35 = .ok (.iconst 0, 1) := by decide +kernel
theorem dX1_pairs_36 : decode cX1_pairs 36 = .ok (.istore_n 3, 1) := by decide +kernel
theorem dX1_pairs_37 : decode cX1_pairs 37 = .ok (.iconst 0, 1) := by decide +kernel
theorem dX1_pairs_38 : decode cX1_pairs 38 = .ok (.istore 4, 2) := by decide +kernel
theorem dX1_pairs_40 : decode cX1_pairs 40 = .ok (.iload 4, 2) := by decide +kernel
theorem dX1_pairs_42 : decode cX1_pairs 42 = .ok (.bipush 12, 2) := by decide +kernel
theorem dX1_pairs_44 : decode cX1_pairs 44 = .ok (.if_icmp .ge 76, 3) := by decide +kernel
theorem dX1_pairs_47 : decode cX1_pairs 47 = .ok (.iconst 0, 1) := by decide +kernel
theorem dX1_pairs_48 : decode cX1_pairs 48 = .ok (.istore 5, 2) := by decide +kernel
theorem dX1_pairs_50 : decode cX1_pairs 50 = .ok (.iload 5, 2) := by decide +kernel
theorem dX1_pairs_52 : decode cX1_pairs 52 = .ok (.iload 4, 2) := by decide +kernel
theorem dX1_pairs_54 : decode cX1_pairs 54 = .ok (.if_icmp .ge 60, 3) := by decide +kernel
theorem dX1_pairs_57 : decode cX1_pairs 57 = .ok (.iload 4, 2) := by decide +kernel
theorem dX1_pairs_59 : decode cX1_pairs 59 = .ok (.iload 5, 2) := by decide +kernel
theorem dX1_pairs_61 : decode cX1_pairs 61 = .ok (.isub, 1) := by decide +kernel
theorem dX1_pairs_62 : decode cX1_pairs 62 = .ok (.iload_n 2, 1) := by decide +kernel
theorem dX1_pairs_63 : decode cX1_pairs 63 = .ok (.if_icmp .eq 15, 3) := by decide +kernel
theorem dX1_pairs_66 : decode cX1_pairs 66 = .ok (.iload 4, 2) := by decide +kernel
theorem dX1_pairs_68 : decode cX1_pairs 68 = .ok (.iload 5, 2) := by decide +kernel
theorem dX1_pairs_70 : decode cX1_pairs 70 = .ok (.isub, 1) := by decide +kernel
theorem dX1_pairs_71 : decode cX1_pairs 71 = .ok (.bipush 12, 2) := by decide +kernel
theorem dX1_pairs_73 : decode cX1_pairs 73 = .ok (.iload_n 2, 1) := by decide +kernel
theorem dX1_pairs_74 : decode cX1_pairs 74 = .ok (.isub, 1) := by decide +kernel
theorem dX1_pairs_75 : decode cX1_pairs 75 = .ok (.if_icmp .ne 7, 3) := by decide +kernel
theorem dX1_pairs_78 : decode cX1_pairs 78 = .ok (.iconst 1, 1) := by decide +kernel
theorem dX1_pairs_79 : decode cX1_pairs 79 = .ok (.goto 4, 3) := by decide +kernel
theorem dX1_pairs_82 : decode cX1_pairs 82 = .ok (.iconst 0, 1) := by decide +kernel
theorem dX1_pairs_83 : decode cX1_pairs 83 = .ok (.istore 6, 2) := by decide +kernel
theorem dX1_pairs_85 : decode cX1_pairs 85 = .ok (.iload_n 3, 1) := by decide +kernel
theorem dX1_pairs_86 : decode cX1_pairs 86 = .ok (.iload 6, 2) := by decide +kernel
theorem dX1_pairs_88 : decode cX1_pairs 88 = .ok (.ifCond .eq 17, 3) := by decide +kernel
theorem dX1_pairs_91 : decode cX1_pairs 91 = .ok (.iload_n 1, 1) := by decide +kernel
theorem dX1_pairs_92 : decode cX1_pairs 92 = .ok (.iload 4, 2) := by decide +kernel
theorem dX1_pairs_94 : decode cX1_pairs 94 = .ok (.ishr, 1) := by decide +kernel
theorem dX1_pairs_95 : decode cX1_pairs 95 = .ok (.iload_n 1, 1) := by decide +kernel
theorem dX1_pairs_96 : decode cX1_pairs 96 = .ok (.iload 5, 2) := by decide +kernel
theorem dX1_pairs_98 : decode cX1_pairs 98 = .ok (.ishr, 1) := by decide +kernel
theorem dX1_pairs_99 : decode cX1_pairs 99 = .ok (.iand, 1) := by decide +kernel
theorem dX1_pairs_100 : decode cX1_pairs 100 = .ok (.iconst 1, 1) := by decide +kernel
theorem dX1_pairs_101 : decode cX1_pairs 101 = .ok (.iand, 1) := by decide +kernel
theorem dX1_pairs_102 : decode cX1_pairs 102 = .ok (.goto 4, 3) := by decide +kernel
theorem dX1_pairs_105 : decode cX1_pairs 105 = .ok (.iconst 0, 1) := by decide +kernel
theorem dX1_pairs_106 : decode cX1_pairs 106 = .ok (.iadd, 1) := by decide +kernel
theorem dX1_pairs_107 : decode cX1_pairs 107 = .ok (.istore_n 3, 1) := by decide +kernel
theorem dX1_pairs_108 : decode cX1_pairs 108 = .ok (.iinc 5 1, 3) := by decide +kernel
theorem dX1_pairs_111 : decode cX1_pairs 111 = .ok (.goto (-61), 3) := by decide +kernel
theorem dX1_pairs_114 : decode cX1_pairs 114 = .ok (.iinc 4 1, 3) := by decide +kernel
theorem dX1_pairs_117 : decode cX1_pairs 117 = .ok (.goto (-77), 3) := by decide +kernel
theorem dX1_pairs_120 : decode cX1_pairs 120 = .ok (.iload_n 3, 1) := by decide +kernel
theorem dX1_pairs_121 : decode cX1_pairs 121 = .ok (.ireturn, 1) := by decide +kernel
theorem dX1_combining_0 : decode cX1_combining 0 = .ok (.aload_n 0, 1) := by decide +kernel
theorem dX1_combining_1 : decode cX1_combining 1 = .ok (.iload_n 1, 1) := by decide +kernel
theorem dX1_combining_2 : decode cX1_combining 2 = .ok (.invokestatic 39, 3) := by decide +kernel
theorem dX1_combining_5 : decode cX1_combining 5 = .ok (.ifCond .eq 7, 3) := by decide +kernel
theorem dX1_combining_8 : decode cX1_combining 8 = .ok (.iconst 0, 1) := by decide +kernel
theorem dX1_combining_9 : decode cX1_combining 9 = .ok (.goto 4, 3) := by decide +kernel
theorem dX1_combining_12 : decode cX1_combining 12 = .ok (.iconst 1, 1) := by decide +kernel
theorem dX1_combining_13 : decode cX1_combining 13 = .ok (.invokevirtual 42, 3) := by decide +kernel
theorem dX1_combining_16 : decode cX1_combining 16 = .ok (.ifCond .ne 5, 3) := by decide +kernel
theorem dX1_combining_19 : decode cX1_combining 19 = .ok (.lconst 0, 1) := by decide +kernel
theorem dX1_combining_20 : decode cX1_combining 20 = .ok (.lreturn, 1) := by decide +kernel
theorem dX1_combining_21 : decode cX1_combining 21 = .ok (.lconst 0, 1) := by decide +kernel
theorem dX1_combining_22 : decode cX1_combining 22 = .ok (.lstore_n 2, 1) := by decide +kernel
theorem dX1_combining_23 : decode cX1_combining 23 = .ok (.iconst 0, 1) := by decide +kernel
theorem dX1_combining_24 : decode cX1_combining 24 = .ok (.istore 4, 2) := by decide +kernel
theorem dX1_combining_26 : decode cX1_combining 26 = .ok (.iload 4, 2) := by decide +kernel
theorem dX1_combining_28 : decode cX1_combining 28 = .ok (.bipush 48, 2) := by decide +kernel
theorem dX1_combining_30 : decode cX1_combining 30 = .ok (.if_icmp .ge 59, 3) := by decide +kernel
theorem dX1_combining_33 : decode cX1_combining 33 = .ok (.aload_n 0, 1) := by decide +kernel
theorem dX1_combining_34 : decode cX1_combining 34 = .ok (.iload_n 1, 1) := by decide +kernel
theorem dX1_combining_35 : decode cX1_combining 35 = .ok (.aload_n 0, 1) := by decide +kernel
theorem dX1_combining_36 : decode cX1_combining 36 = .ok (.iload_n 1, 1) := by decide +kernel
theorem dX1_combining_37 : decode cX1_combining 37 = .ok (.invokevirtual 65, 3) := by decide +kernel
theorem dX1_combining_40 : decode cX1_combining 40 = .ok (.iconst 0, 1) := by decide +kernel
theorem dX1_combining_41 : decode cX1_combining 41 = .ok (.bipush 6, 2) := by decide +kernel
theorem dX1_combining_43 : decode cX1_combining 43 = .ok (.invokevirtual 68, 3) := by decide +kernel
theorem dX1_combining_46 : decode cX1_combining 46 = .ok (.aload_n 0, 1) := by decide +kernel
theorem dX1_combining_47 : decode cX1_combining 47 = .ok (.iload_n 1, 1) := by decide +kernel
theorem dX1_combining_48 : decode cX1_combining 48 = .ok (.iload 4, 2) := by decide +kernel
theorem dX1_combining_50 : decode cX1_combining 50 = .ok (.iconst 0, 1) := by decide +kernel
theorem dX1_combining_51 : decode cX1_combining 51 = .ok (.bipush 6, 2) := by decide +kernel
theorem dX1_combining_53 : decode cX1_combining 53 = .ok (.invokevirtual 68, 3) := by decide +kernel
theorem dX1_combining_56 : decode cX1_combining 56 = .ok (.iand, 1) := by decide +kernel
theorem dX1_combining_57 : decode cX1_combining 57 = .ok (.ifCond .ne 7, 3) := by decide +kernel
theorem dX1_combining_60 : decode cX1_combining 60 = .ok (.iconst 1, 1) := by decide +kernel
theorem dX1_combining_61 : decode cX1_combining 61 = .ok (.goto 4, 3) := by decide +kernel
theorem dX1_combining_64 : decode cX1_combining 64 = .ok (.iconst 0, 1) := by decide +kernel
theorem dX1_combining_65 : decode cX1_combining 65 = .ok (.istore 5, 2) := by decide +kernel
theorem dX1_combining_67 : decode cX1_combining 67 = .ok (.lload_n 2, 1) := by decide +kernel
theorem dX1_combining_68 : decode cX1_combining 68 = .ok (.iload 5, 2) := by decide +kernel
theorem dX1_combining_70 : decode cX1_combining 70 = .ok (.ifCond .eq 10, 3) := by decide +kernel
theorem dX1_combining_73 : decode cX1_combining 73 = .ok (.lconst 1, 1) := by decide +kernel
theorem dX1_combining_74 : decode cX1_combining 74 = .ok (.iload 4, 2) := by decide +kernel
theorem dX1_combining_76 : decode cX1_combining 76 = .ok (.lshl, 1) := by decide +kernel
theorem dX1_combining_77 : decode cX1_combining 77 = .ok (.goto 4, 3) := by decide +kernel
theorem dX1_combining_80 : decode cX1_combining 80 = .ok (.lconst 0, 1) := by decide +kernel
theorem dX1_combining_81 : decode cX1_combining 81 = .ok (.lor, 1) := by decide +kernel
theorem dX1_combining_82 : decode cX1_combining 82 = .ok (.lstore_n 2, 1) := by decide +kernel
theorem dX1_combining_83 : decode cX1_combining 83 = .ok (.iinc 4 1, 3) := by decide +kernel
theorem dX1_combining_86 : decode cX1_combining 86 = .ok (.goto (-60), 3) := by decide +kernel
theorem dX1_combining_89 : decode cX1_combining 89 = .ok (.lload_n 2, 1) := by decide +kernel
theorem dX1_combining_90 : decode cX1_combining 90 = .ok (.lreturn, 1) := by decide +kernel
theorem dX1_isDerived_0 : decode cX1_isDerived 0 = .ok (.iload_n 2, 1) := by decide +kernel
theorem dX1_isDerived_1 : decode cX1_isDerived 1 = .ok (.iconst 1, 1) := by decide +kernel
theorem dX1_isDerived_2 : decode cX1_isDerived 2 = .ok (.bipush 12, 2) := by decide +kernel
theorem dX1_isDerived_4 : decode cX1_isDerived 4 = .ok (.invokestatic 23, 3) := by decide +kernel
theorem dX1_isDerived_7 : decode cX1_isDerived 7 = .ok (.ifCond .eq 14, 3) := by decide +kernel
theorem dX1_isDerived_10 : decode cX1_isDerived 10 = .ok (.bipush 12, 2) := by decide +kernel
theorem dX1_isDerived_12 : decode cX1_isDerived 12 = .ok (.iload_n 2, 1) := by decide +kernel
theorem dX1_isDerived_13 : decode cX1_isDerived 13 = .ok (.irem, 1) := by decide +kernel
theorem dX1_isDerived_14 : decode cX1_isDerived 14 = .ok (.ifCond .ne 7, 3) := by decide +kernel
theorem dX1_isDerived_17 : decode cX1_isDerived 17 = .ok (.iconst 1, 1) := by decide +kernel
theorem dX1_isDerived_18 : decode cX1_isDerived 18 = .ok (.goto 4, 3) := by decide +kernel
theorem dX1_isDerived_21 : decode cX1_isDerived 21 = .ok (.iconst 0, 1) := by decide +kernel
theorem dX1_isDerived_22 : decode cX1_isDerived 22 = .ok (.istore_n 3, 1) := by decide +kernel
theorem dX1_isDerived_23 : decode cX1_isDerived 23 = .ok (.aload_n 0, 1) := by decide +kernel
theorem dX1_isDerived_24 : decode cX1_isDerived 24 = .ok (.iload_n 1, 1) := by decide +kernel
theorem dX1_isDerived_25 : decode cX1_isDerived 25 = .ok (.invokestatic 39, 3) := by decide +kernel
theorem dX1_isDerived_28 : decode cX1_isDerived 28 = .ok (.ifCond .ne 7, 3) := by decide +kernel
theorem dX1_isDerived_31 : decode cX1_isDerived 31 = .ok (.iconst 1, 1) := by decide +kernel
theorem dX1_isDerived_32 : decode cX1_isDerived 32 = .ok (.goto 12, 3) := by decide +kernel
theorem dX1_isDerived_35 : decode cX1_isDerived 35 = .ok (.iload_n 3, 1) := by decide +kernel
theorem dX1_isDerived_36 : decode cX1_isDerived 36 = .ok (.ifCond .eq 7, 3) := by decide +kernel
theorem dX1_isDerived_39 : decode cX1_isDerived 39 = .ok (.iconst 0, 1) := by decide +kernel
theorem dX1_isDerived_40 : decode cX1_isDerived 40 = .ok (.goto 4, 3) := by decide +kernel
theorem dX1_isDerived_43 : decode cX1_isDerived 43 = .ok (.iconst 2, 1) := by decide +kernel
theorem dX1_isDerived_44 : decode cX1_isDerived 44 = .ok (.invokevirtual 42, 3) := by decide +kernel
theorem dX1_isDerived_47 : decode cX1_isDerived 47 = .ok (.ifCond .ne 5, 3) := by decide +kernel
theorem dX1_isDerived_50 : decode cX1_isDerived 50 = .ok (.iconst 0, 1) := by decide +kernel
theorem dX1_isDerived_51 : decode cX1_isDerived 51 = .ok (.ireturn, 1) := by decide +kernel
theorem dX1_isDerived_52 : decode cX1_isDerived 52 = .ok (.iconst 1, 1) := by decide +kernel
theorem dX1_isDerived_53 : decode cX1_isDerived 53 = .ok (.istore 4, 2) := by decide +kernel
theorem dX1_isDerived_55 : decode cX1_isDerived 55 = .ok (.iconst 0, 1) := by decide +kernel
theorem dX1_isDerived_56 : decode cX1_isDerived 56 = .ok (.istore 5, 2) := by decide +kernel
theorem dX1_isDerived_58 : decode cX1_isDerived 58 = .ok (.iload 5, 2) := by decide +kernel
theorem dX1_isDerived_60 : decode cX1_isDerived 60 = .ok (.bipush 12, 2) := by decide +kernel
theorem dX1_isDerived_62 : decode cX1_isDerived 62 = .ok (.if_icmp .ge 58, 3) := by decide +kernel
theorem dX1_isDerived_65 : decode cX1_isDerived 65 = .ok (.iload 4, 2) := by decide +kernel
theorem dX1_isDerived_67 : decode cX1_isDerived 67 = .ok (.ifCond .eq 41, 3) := by decide +kernel
theorem dX1_isDerived_70 : decode cX1_isDerived 70 = .ok (.aload_n 0, 1) := by decide +kernel
theorem dX1_isDerived_71 : decode cX1_isDerived 71 = .ok (.iload_n 1, 1) := by decide +kernel
theorem dX1_isDerived_72 : decode cX1_isDerived 72 = .ok (.aload_n 0, 1) := by decide +kernel
theorem dX1_isDerived_73 : decode cX1_isDerived 73 = .ok (.iload_n 1, 1) := by decide +kernel
theorem dX1_isDerived_74 : decode cX1_isDerived 74 = .ok (.invokevirtual 65, 3) := by decide +kernel
theorem dX1_isDerived_77 : decode cX1_isDerived 77 = .ok (.iload 5, 2) := by decide +kernel
theorem dX1_isDerived_79 : decode cX1_isDerived 79 = .ok (.iload_n 2, 1) := by decide +kernel
theorem dX1_isDerived_80 : decode cX1_isDerived 80 = .ok (.invokevirtual 68, 3) := by decide +kernel
theorem dX1_isDerived_83 : decode cX1_isDerived 83 = .ok (.invokestatic 76, 3) := by decide +kernel
theorem dX1_isDerived_86 : decode cX1_isDerived 86 = .ok (.aload_n 0, 1) := by decide +kernel
theorem dX1_isDerived_87 : decode cX1_isDerived 87 = .ok (.iload_n 1, 1) := by decide +kernel
theorem dX1_isDerived_88 : decode cX1_isDerived 88 = .ok (.aload_n 0, 1) := by decide +kernel
theorem dX1_isDerived_89 : decode cX1_isDerived 89 = .ok (.iload_n 1, 1) := by decide +kernel
theorem dX1_isDerived_90 : decode cX1_isDerived 90 = .ok (.invokevirtual 65, 3) := by decide +kernel
theorem dX1_isDerived_93 : decode cX1_isDerived 93 = .ok (.iconst 0, 1) := by decide +kernel
theorem dX1_isDerived_94 : decode cX1_isDerived 94 = .ok (.iload_n 2, 1) := by decide +kernel
theorem dX1_isDerived_95 : decode cX1_isDerived 95 = .ok (.invokevirtual 68, 3) := by decide +kernel
theorem dX1_isDerived_98 : decode cX1_isDerived 98 = .ok (.invokestatic 76, 3) := by decide +kernel
theorem dX1_isDerived_101 : decode cX1_isDerived 101 = .ok (.if_icmp .ne 7, 3) := by decide +kernel
theorem dX1_isDerived_104 : decode cX1_isDerived 104 = .ok (.iconst 1, 1) := by decide +kernel
theorem dX1_isDerived_105 : decode cX1_isDerived 105 = .ok (.goto 4, 3) := by decide +kernel
theorem dX1_isDerived_108 : decode cX1_isDerived 108 = .ok (.iconst 0, 1) := by decide +kernel
theorem dX1_isDerived_109 : decode cX1_isDerived 109 = .ok (.istore 4, 2) := by decide +kernel
theorem dX1_isDerived_111 : decode cX1_isDerived 111 = .ok (.iload 5, 2) := by decide +kernel
theorem dX1_isDerived_113 : decode cX1_isDerived 113 = .ok (.iload_n 2, 1) := by decide +kernel
theorem dX1_isDerived_114 : decode cX1_isDerived 114 = .ok (.iadd, 1) := by decide +kernel
theorem dX1_isDerived_115 : decode cX1_isDerived 115 = .ok (.istore 5, 2) := by decide +kernel
theorem dX1_isDerived_117 : decode cX1_isDerived 117 = .ok (.goto (-59), 3) := by decide +kernel
theorem dX1_isDerived_120 : decode cX1_isDerived 120 = .ok (.iload 4, 2) := by decide +kernel
theorem dX1_isDerived_122 : decode cX1_isDerived 122 = .ok (.ireturn, 1) := by decide +kernel
theorem dX1_setsKept_0 : decode cX1_setsKept 0 = .ok (.iconst 0, 1) := by decide +kernel
theorem dX1_setsKept_1 : decode cX1_setsKept 1 = .ok (.istore 4, 2) := by decide +kernel
theorem dX1_setsKept_3 : decode cX1_setsKept 3 = .ok (.iconst 0, 1) := by decide +kernel
theorem dX1_setsKept_4 : decode cX1_setsKept 4 = .ok (.istore 5, 2) := by decide +kernel
theorem dX1_setsKept_6 : decode cX1_setsKept 6 = .ok (.iload 5, 2) := by decide +kernel
theorem dX1_setsKept_8 : decode cX1_setsKept 8 = .ok (.iload_n 3, 1) := by decide +kernel
theorem dX1_setsKept_9 : decode cX1_setsKept 9 = .ok (.iadd, 1) := by decide +kernel
theorem dX1_setsKept_10 : decode cX1_setsKept 10 = .ok (.bipush 12, 2) := by decide +kernel
theorem dX1_setsKept_12 : decode cX1_setsKept 12 = .ok (.if_icmp .gt 82, 3) := by decide +kernel
theorem dX1_setsKept_15 : decode cX1_setsKept 15 = .ok (.iconst 0, 1) := by decide +kernel
theorem dX1_setsKept_16 : decode cX1_setsKept 16 = .ok (.istore 6, 2) := by decide +kernel
theorem dX1_setsKept_18 : decode cX1_setsKept 18 = .ok (.iconst 0, 1) := by decide +kernel
theorem dX1_setsKept_19 : decode cX1_setsKept 19 = .ok (.istore 7, 2) := by decide +kernel
theorem dX1_setsKept_21 : decode cX1_setsKept 21 = .ok (.iload 7, 2) := by decide +kernel
theorem dX1_setsKept_23 : decode cX1_setsKept 23 = .ok (.iload_n 3, 1) := by decide +kernel
theorem dX1_setsKept_24 : decode cX1_setsKept 24 = .ok (.iadd, 1) := by decide +kernel
theorem dX1_setsKept_25 : decode cX1_setsKept 25 = .ok (.bipush 12, 2) := by decide +kernel
theorem dX1_setsKept_27 : decode cX1_setsKept 27 = .ok (.if_icmp .gt 46, 3) := by decide +kernel
theorem dX1_setsKept_30 : decode cX1_setsKept 30 = .ok (.iload 6, 2) := by decide +kernel
theorem dX1_setsKept_32 : decode cX1_setsKept 32 = .ok (.ifCond .ne 28, 3) := by decide +kernel
theorem dX1_setsKept_35 : decode cX1_setsKept 35 = .ok (.aload_n 0, 1) := by decide +kernel
theorem dX1_setsKept_36 : decode cX1_setsKept 36 = .ok (.iload_n 1, 1) := by decide +kernel
theorem dX1_setsKept_37 : decode cX1_setsKept 37 = .ok (.iload_n 2, 1) := by decide +kernel
theorem dX1_setsKept_38 : decode cX1_setsKept 38 = .ok (.iload 7, 2) := by decide +kernel
theorem dX1_setsKept_40 : decode cX1_setsKept 40 = .ok (.iload_n 3, 1) := by decide +kernel
theorem dX1_setsKept_41 : decode cX1_setsKept 41 = .ok (.invokevirtual 68, 3) := by decide +kernel
theorem dX1_setsKept_44 : decode cX1_setsKept 44 = .ok (.aload_n 0, 1) := by decide +kernel
theorem dX1_setsKept_45 : decode cX1_setsKept 45 = .ok (.iload_n 1, 1) := by decide +kernel
theorem dX1_setsKept_46 : decode cX1_setsKept 46 = .ok (.aload_n 0, 1) := by decide +kernel
theorem dX1_setsKept_47 : decode cX1_setsKept 47 = .ok (.iload_n 1, 1) := by decide +kernel
theorem dX1_setsKept_48 : decode cX1_setsKept 48 = .ok (.invokevirtual 65, 3) := by decide +kernel
theorem dX1_setsKept_51 : decode cX1_setsKept 51 = .ok (.iload 5, 2) := by decide +kernel
theorem dX1_setsKept_53 : decode cX1_setsKept 53 = .ok (.iload_n 3, 1) := by decide +kernel
theorem dX1_setsKept_54 : decode cX1_setsKept 54 = .ok (.invokevirtual 68, 3) := by decide +kernel
theorem dX1_setsKept_57 : decode cX1_setsKept 57 = .ok (.if_icmp .ne 7, 3) := by decide +kernel
theorem dX1_setsKept_60 : decode cX1_setsKept 60 = .ok (.iconst 1, 1) := by decide +kernel
theorem dX1_setsKept_61 : decode cX1_setsKept 61 = .ok (.goto 4, 3) := by decide +kernel
theorem dX1_setsKept_64 : decode cX1_setsKept 64 = .ok (.iconst 0, 1) := by decide +kernel
theorem dX1_setsKept_65 : decode cX1_setsKept 65 = .ok (.istore 6, 2) := by decide +kernel
theorem dX1_setsKept_67 : decode cX1_setsKept 67 = .ok (.iinc 7 1, 3) := by decide +kernel
theorem dX1_setsKept_70 : decode cX1_setsKept 70 = .ok (.goto (-49), 3) := by decide +kernel
theorem dX1_setsKept_73 : decode cX1_setsKept 73 = .ok (.iload 4, 2) := by decide +kernel
theorem dX1_setsKept_75 : decode cX1_setsKept 75 = .ok (.iload 6, 2) := by decide +kernel
theorem dX1_setsKept_77 : decode cX1_setsKept 77 = .ok (.ifCond .eq 7, 3) := by decide +kernel
theorem dX1_setsKept_80 : decode cX1_setsKept 80 = .ok (.iconst 1, 1) := by decide +kernel
theorem dX1_setsKept_81 : decode cX1_setsKept 81 = .ok (.goto 4, 3) := by decide +kernel
theorem dX1_setsKept_84 : decode cX1_setsKept 84 = .ok (.iconst 0, 1) := by decide +kernel
theorem dX1_setsKept_85 : decode cX1_setsKept 85 = .ok (.iadd, 1) := by decide +kernel
theorem dX1_setsKept_86 : decode cX1_setsKept 86 = .ok (.istore 4, 2) := by decide +kernel
theorem dX1_setsKept_88 : decode cX1_setsKept 88 = .ok (.iinc 5 1, 3) := by decide +kernel
theorem dX1_setsKept_91 : decode cX1_setsKept 91 = .ok (.goto (-85), 3) := by decide +kernel
theorem dX1_setsKept_94 : decode cX1_setsKept 94 = .ok (.iload 4, 2) := by decide +kernel
theorem dX1_setsKept_96 : decode cX1_setsKept 96 = .ok (.ireturn, 1) := by decide +kernel
theorem dX1_keptSets_0 : decode cX1_keptSets 0 = .ok (.iload_n 2, 1) := by decide +kernel
theorem dX1_keptSets_1 : decode cX1_keptSets 1 = .ok (.iload_n 3, 1) := by decide +kernel
theorem dX1_keptSets_2 : decode cX1_keptSets 2 = .ok (.invokestatic 45, 3) := by decide +kernel
theorem dX1_keptSets_5 : decode cX1_keptSets 5 = .ok (.ifCond .eq 18, 3) := by decide +kernel
theorem dX1_keptSets_8 : decode cX1_keptSets 8 = .ok (.iload 4, 2) := by decide +kernel
theorem dX1_keptSets_10 : decode cX1_keptSets 10 = .ok (.iconst 1, 1) := by decide +kernel
theorem dX1_keptSets_11 : decode cX1_keptSets 11 = .ok (.bipush 12, 2) := by decide +kernel
theorem dX1_keptSets_13 : decode cX1_keptSets 13 = .ok (.invokestatic 23, 3) := by decide +kernel
theorem dX1_keptSets_16 : decode cX1_keptSets 16 = .ok (.ifCond .eq 7, 3) := by decide +kernel
theorem dX1_keptSets_19 : decode cX1_keptSets 19 = .ok (.iconst 1, 1) := by decide +kernel
theorem dX1_keptSets_20 : decode cX1_keptSets 20 = .ok (.goto 4, 3) := by decide +kernel
theorem dX1_keptSets_23 : decode cX1_keptSets 23 = .ok (.iconst 0, 1) := by decide +kernel
theorem dX1_keptSets_24 : decode cX1_keptSets 24 = .ok (.istore 5, 2) := by decide +kernel
theorem dX1_keptSets_26 : decode cX1_keptSets 26 = .ok (.aload_n 0, 1) := by decide +kernel
theorem dX1_keptSets_27 : decode cX1_keptSets 27 = .ok (.iload_n 1, 1) := by decide +kernel
theorem dX1_keptSets_28 : decode cX1_keptSets 28 = .ok (.invokestatic 39, 3) := by decide +kernel
theorem dX1_keptSets_31 : decode cX1_keptSets 31 = .ok (.ifCond .ne 7, 3) := by decide +kernel
theorem dX1_keptSets_34 : decode cX1_keptSets 34 = .ok (.iconst 1, 1) := by decide +kernel
theorem dX1_keptSets_35 : decode cX1_keptSets 35 = .ok (.goto 13, 3) := by decide +kernel
theorem dX1_keptSets_38 : decode cX1_keptSets 38 = .ok (.iload 5, 2) := by decide +kernel
theorem dX1_keptSets_40 : decode cX1_keptSets 40 = .ok (.ifCond .eq 7, 3) := by decide +kernel
theorem dX1_keptSets_43 : decode cX1_keptSets 43 = .ok (.iconst 0, 1) := by decide +kernel
theorem dX1_keptSets_44 : decode cX1_keptSets 44 = .ok (.goto 4, 3) := by decide +kernel
theorem dX1_keptSets_47 : decode cX1_keptSets 47 = .ok (.iconst 2, 1) := by decide +kernel
theorem dX1_keptSets_48 : decode cX1_keptSets 48 = .ok (.invokevirtual 42, 3) := by decide +kernel
theorem dX1_keptSets_51 : decode cX1_keptSets 51 = .ok (.ifCond .eq 18, 3) := by decide +kernel
theorem dX1_keptSets_54 : decode cX1_keptSets 54 = .ok (.aload_n 0, 1) := by decide +kernel
theorem dX1_keptSets_55 : decode cX1_keptSets 55 = .ok (.iload_n 1, 1) := by decide +kernel
theorem dX1_keptSets_56 : decode cX1_keptSets 56 = .ok (.iload_n 2, 1) := by decide +kernel
theorem dX1_keptSets_57 : decode cX1_keptSets 57 = .ok (.iload_n 3, 1) := by decide +kernel
theorem dX1_keptSets_58 : decode cX1_keptSets 58 = .ok (.invokestatic 49, 3) := by decide +kernel
theorem dX1_keptSets_61 : decode cX1_keptSets 61 = .ok (.iload 4, 2) := by decide +kernel
theorem dX1_keptSets_63 : decode cX1_keptSets 63 = .ok (.invokevirtual 79, 3) := by decide +kernel
theorem dX1_keptSets_66 : decode cX1_keptSets 66 = .ok (.goto 4, 3) := by decide +kernel
theorem dX1_keptSets_69 : decode cX1_keptSets 69 = .ok (.iconst 0, 1) := by decide +kernel
theorem dX1_keptSets_70 : decode cX1_keptSets 70 = .ok (.ireturn, 1) := by decide +kernel
theorem dX1_same_0 : decode cX1_same 0 = .ok (.iconst 0, 1) := by decide +kernel
theorem dX1_same_1 : decode cX1_same 1 = .ok (.istore 5, 2) := by decide +kernel
theorem dX1_same_3 : decode cX1_same 3 = .ok (.iload_n 2, 1) := by decide +kernel
theorem dX1_same_4 : decode cX1_same 4 = .ok (.iload 5, 2) := by decide +kernel
theorem dX1_same_6 : decode cX1_same 6 = .ok (.iadd, 1) := by decide +kernel
theorem dX1_same_7 : decode cX1_same 7 = .ok (.bipush 12, 2) := by decide +kernel
theorem dX1_same_9 : decode cX1_same 9 = .ok (.if_icmp .ge 42, 3) := by decide +kernel
theorem dX1_same_12 : decode cX1_same 12 = .ok (.iload 4, 2) := by decide +kernel
theorem dX1_same_14 : decode cX1_same 14 = .ok (.iload 5, 2) := by decide +kernel
theorem dX1_same_16 : decode cX1_same 16 = .ok (.iadd, 1) := by decide +kernel
theorem dX1_same_17 : decode cX1_same 17 = .ok (.bipush 12, 2) := by decide +kernel
theorem dX1_same_19 : decode cX1_same 19 = .ok (.if_icmp .ge 32, 3) := by decide +kernel
theorem dX1_same_22 : decode cX1_same 22 = .ok (.aload_n 0, 1) := by decide +kernel
theorem dX1_same_23 : decode cX1_same 23 = .ok (.iload_n 1, 1) := by decide +kernel
theorem dX1_same_24 : decode cX1_same 24 = .ok (.iload_n 2, 1) := by decide +kernel
theorem dX1_same_25 : decode cX1_same 25 = .ok (.iload 5, 2) := by decide +kernel
theorem dX1_same_27 : decode cX1_same 27 = .ok (.iadd, 1) := by decide +kernel
theorem dX1_same_28 : decode cX1_same 28 = .ok (.invokevirtual 31, 3) := by decide +kernel
theorem dX1_same_31 : decode cX1_same 31 = .ok (.aload_n 0, 1) := by decide +kernel
theorem dX1_same_32 : decode cX1_same 32 = .ok (.iload_n 1, 1) := by decide +kernel
theorem dX1_same_33 : decode cX1_same 33 = .ok (.iload_n 3, 1) := by decide +kernel
theorem dX1_same_34 : decode cX1_same 34 = .ok (.iload 4, 2) := by decide +kernel
theorem dX1_same_36 : decode cX1_same 36 = .ok (.iload 5, 2) := by decide +kernel
theorem dX1_same_38 : decode cX1_same 38 = .ok (.iadd, 1) := by decide +kernel
theorem dX1_same_39 : decode cX1_same 39 = .ok (.invokevirtual 52, 3) := by decide +kernel
theorem dX1_same_42 : decode cX1_same 42 = .ok (.if_icmp .ne 9, 3) := by decide +kernel
theorem dX1_same_45 : decode cX1_same 45 = .ok (.iinc 5 1, 3) := by decide +kernel
theorem dX1_same_48 : decode cX1_same 48 = .ok (.goto (-45), 3) := by decide +kernel
theorem dX1_same_51 : decode cX1_same 51 = .ok (.iload 5, 2) := by decide +kernel
theorem dX1_same_53 : decode cX1_same 53 = .ok (.ireturn, 1) := by decide +kernel
theorem dX1_longestKept_0 : decode cX1_longestKept 0 = .ok (.aload_n 0, 1) := by decide +kernel
theorem dX1_longestKept_1 : decode cX1_longestKept 1 = .ok (.iload_n 1, 1) := by decide +kernel
theorem dX1_longestKept_2 : decode cX1_longestKept 2 = .ok (.invokestatic 39, 3) := by decide +kernel
theorem dX1_longestKept_5 : decode cX1_longestKept 5 = .ok (.ifCond .ne 7, 3) := by decide +kernel
theorem dX1_longestKept_8 : decode cX1_longestKept 8 = .ok (.iconst 1, 1) := by decide +kernel
theorem dX1_longestKept_9 : decode cX1_longestKept 9 = .ok (.goto 16, 3) := by decide +kernel
theorem dX1_longestKept_12 : decode cX1_longestKept 12 = .ok (.iload_n 2, 1) := by decide +kernel
theorem dX1_longestKept_13 : decode cX1_longestKept 13 = .ok (.iload_n 3, 1) := by decide +kernel
theorem dX1_longestKept_14 : decode cX1_longestKept 14 = .ok (.invokestatic 45, 3) := by decide +kernel
theorem dX1_longestKept_17 : decode cX1_longestKept 17 = .ok (.ifCond .eq 7, 3) := by decide +kernel
theorem dX1_longestKept_20 : decode cX1_longestKept 20 = .ok (.iconst 0, 1) := by decide +kernel
theorem dX1_longestKept_21 : decode cX1_longestKept 21 = .ok (.goto 4, 3) := by decide +kernel
theorem dX1_longestKept_24 : decode cX1_longestKept 24 = .ok (.iconst 2, 1) := by decide +kernel
theorem dX1_longestKept_25 : decode cX1_longestKept 25 = .ok (.invokevirtual 42, 3) := by decide +kernel
theorem dX1_longestKept_28 : decode cX1_longestKept 28 = .ok (.ifCond .ne 5, 3) := by decide +kernel
theorem dX1_longestKept_31 : decode cX1_longestKept 31 = .ok (.iconst 0, 1) := by decide +kernel
theorem dX1_longestKept_32 : decode cX1_longestKept 32 = .ok (.ireturn, 1) := by decide +kernel
theorem dX1_longestKept_33 : decode cX1_longestKept 33 = .ok (.iconst 0, 1) := by decide +kernel
theorem dX1_longestKept_34 : decode cX1_longestKept 34 = .ok (.istore 4, 2) := by decide +kernel
theorem dX1_longestKept_36 : decode cX1_longestKept 36 = .ok (.iconst 0, 1) := by decide +kernel
theorem dX1_longestKept_37 : decode cX1_longestKept 37 = .ok (.istore 5, 2) := by decide +kernel
theorem dX1_longestKept_39 : decode cX1_longestKept 39 = .ok (.iload 5, 2) := by decide +kernel
theorem dX1_longestKept_41 : decode cX1_longestKept 41 = .ok (.bipush 12, 2) := by decide +kernel
theorem dX1_longestKept_43 : decode cX1_longestKept 43 = .ok (.if_icmp .ge 57, 3) := by decide +kernel
theorem dX1_longestKept_46 : decode cX1_longestKept 46 = .ok (.iconst 0, 1) := by decide +kernel
theorem dX1_longestKept_47 : decode cX1_longestKept 47 = .ok (.istore 6, 2) := by decide +kernel
theorem dX1_longestKept_49 : decode cX1_longestKept 49 = .ok (.iload 6, 2) := by decide +kernel
theorem dX1_longestKept_51 : decode cX1_longestKept 51 = .ok (.bipush 12, 2) := by decide +kernel
theorem dX1_longestKept_53 : decode cX1_longestKept 53 = .ok (.if_icmp .ge 41, 3) := by decide +kernel
theorem dX1_longestKept_56 : decode cX1_longestKept 56 = .ok (.aload_n 0, 1) := by decide +kernel
theorem dX1_longestKept_57 : decode cX1_longestKept 57 = .ok (.iload_n 1, 1) := by decide +kernel
theorem dX1_longestKept_58 : decode cX1_longestKept 58 = .ok (.iload 5, 2) := by decide +kernel
theorem dX1_longestKept_60 : decode cX1_longestKept 60 = .ok (.iload_n 2, 1) := by decide +kernel
theorem dX1_longestKept_61 : decode cX1_longestKept 61 = .ok (.iload_n 3, 1) := by decide +kernel
theorem dX1_longestKept_62 : decode cX1_longestKept 62 = .ok (.invokestatic 49, 3) := by decide +kernel
theorem dX1_longestKept_65 : decode cX1_longestKept 65 = .ok (.iload 6, 2) := by decide +kernel
theorem dX1_longestKept_67 : decode cX1_longestKept 67 = .ok (.invokevirtual 82, 3) := by decide +kernel
theorem dX1_longestKept_70 : decode cX1_longestKept 70 = .ok (.istore 7, 2) := by decide +kernel
theorem dX1_longestKept_72 : decode cX1_longestKept 72 = .ok (.iload 7, 2) := by decide +kernel
theorem dX1_longestKept_74 : decode cX1_longestKept 74 = .ok (.iload 4, 2) := by decide +kernel
theorem dX1_longestKept_76 : decode cX1_longestKept 76 = .ok (.if_icmp .le 8, 3) := by decide +kernel
theorem dX1_longestKept_79 : decode cX1_longestKept 79 = .ok (.iload 7, 2) := by decide +kernel
theorem dX1_longestKept_81 : decode cX1_longestKept 81 = .ok (.goto 5, 3) := by decide +kernel
theorem dX1_longestKept_84 : decode cX1_longestKept 84 = .ok (.iload 4, 2) := by decide +kernel
theorem dX1_longestKept_86 : decode cX1_longestKept 86 = .ok (.istore 4, 2) := by decide +kernel
theorem dX1_longestKept_88 : decode cX1_longestKept 88 = .ok (.iinc 6 1, 3) := by decide +kernel
theorem dX1_longestKept_91 : decode cX1_longestKept 91 = .ok (.goto (-42), 3) := by decide +kernel
theorem dX1_longestKept_94 : decode cX1_longestKept 94 = .ok (.iinc 5 1, 3) := by decide +kernel
theorem dX1_longestKept_97 : decode cX1_longestKept 97 = .ok (.goto (-58), 3) := by decide +kernel
theorem dX1_longestKept_100 : decode cX1_longestKept 100 = .ok (.iload 4, 2) := by decide +kernel
theorem dX1_longestKept_102 : decode cX1_longestKept 102 = .ok (.ireturn, 1) := by decide +kernel
theorem dX1_mostKept_0 : decode cX1_mostKept 0 = .ok (.aload_n 0, 1) := by decide +kernel
theorem dX1_mostKept_1 : decode cX1_mostKept 1 = .ok (.iload_n 1, 1) := by decide +kernel
theorem dX1_mostKept_2 : decode cX1_mostKept 2 = .ok (.invokestatic 39, 3) := by decide +kernel
theorem dX1_mostKept_5 : decode cX1_mostKept 5 = .ok (.ifCond .ne 7, 3) := by decide +kernel
theorem dX1_mostKept_8 : decode cX1_mostKept 8 = .ok (.iconst 1, 1) := by decide +kernel
theorem dX1_mostKept_9 : decode cX1_mostKept 9 = .ok (.goto 18, 3) := by decide +kernel
theorem dX1_mostKept_12 : decode cX1_mostKept 12 = .ok (.iload_n 2, 1) := by decide +kernel
theorem dX1_mostKept_13 : decode cX1_mostKept 13 = .ok (.iconst 2, 1) := by decide +kernel
theorem dX1_mostKept_14 : decode cX1_mostKept 14 = .ok (.bipush 11, 2) := by decide +kernel
theorem dX1_mostKept_16 : decode cX1_mostKept 16 = .ok (.invokestatic 23, 3) := by decide +kernel
theorem dX1_mostKept_19 : decode cX1_mostKept 19 = .ok (.ifCond .eq 7, 3) := by decide +kernel
theorem dX1_mostKept_22 : decode cX1_mostKept 22 = .ok (.iconst 0, 1) := by decide +kernel
theorem dX1_mostKept_23 : decode cX1_mostKept 23 = .ok (.goto 4, 3) := by decide +kernel
theorem dX1_mostKept_26 : decode cX1_mostKept 26 = .ok (.iconst 2, 1) := by decide +kernel
theorem dX1_mostKept_27 : decode cX1_mostKept 27 = .ok (.invokevirtual 42, 3) := by decide +kernel
theorem dX1_mostKept_30 : decode cX1_mostKept 30 = .ok (.ifCond .ne 5, 3) := by decide +kernel
theorem dX1_mostKept_33 : decode cX1_mostKept 33 = .ok (.iconst 0, 1) := by decide +kernel
theorem dX1_mostKept_34 : decode cX1_mostKept 34 = .ok (.ireturn, 1) := by decide +kernel
theorem dX1_mostKept_35 : decode cX1_mostKept 35 = .ok (.iconst (-1), 1) := by decide +kernel
theorem dX1_mostKept_36 : decode cX1_mostKept 36 = .ok (.istore_n 3, 1) := by decide +kernel
theorem dX1_mostKept_37 : decode cX1_mostKept 37 = .ok (.iconst (-1), 1) := by decide +kernel
theorem dX1_mostKept_38 : decode cX1_mostKept 38 = .ok (.istore 4, 2) := by decide +kernel
theorem dX1_mostKept_40 : decode cX1_mostKept 40 = .ok (.iconst 0, 1) := by decide +kernel
theorem dX1_mostKept_41 : decode cX1_mostKept 41 = .ok (.istore 5, 2) := by decide +kernel
theorem dX1_mostKept_43 : decode cX1_mostKept 43 = .ok (.iload 5, 2) := by decide +kernel
theorem dX1_mostKept_45 : decode cX1_mostKept 45 = .ok (.bipush 48, 2) := by decide +kernel
theorem dX1_mostKept_47 : decode cX1_mostKept 47 = .ok (.if_icmp .ge 63, 3) := by decide +kernel
theorem dX1_mostKept_50 : decode cX1_mostKept 50 = .ok (.iload 5, 2) := by decide +kernel
theorem dX1_mostKept_52 : decode cX1_mostKept 52 = .ok (.aload_n 0, 1) := by decide +kernel
theorem dX1_mostKept_53 : decode cX1_mostKept 53 = .ok (.iload_n 1, 1) := by decide +kernel
theorem dX1_mostKept_54 : decode cX1_mostKept 54 = .ok (.invokevirtual 65, 3) := by decide +kernel
theorem dX1_mostKept_57 : decode cX1_mostKept 57 = .ok (.if_icmp .ne 7, 3) := by decide +kernel
theorem dX1_mostKept_60 : decode cX1_mostKept 60 = .ok (.iconst (-1), 1) := by decide +kernel
theorem dX1_mostKept_61 : decode cX1_mostKept 61 = .ok (.goto 11, 3) := by decide +kernel
theorem dX1_mostKept_64 : decode cX1_mostKept 64 = .ok (.aload_n 0, 1) := by decide +kernel
theorem dX1_mostKept_65 : decode cX1_mostKept 65 = .ok (.iload_n 1, 1) := by decide +kernel
theorem dX1_mostKept_66 : decode cX1_mostKept 66 = .ok (.iload 5, 2) := by decide +kernel
theorem dX1_mostKept_68 : decode cX1_mostKept 68 = .ok (.iload_n 2, 1) := by decide +kernel
theorem dX1_mostKept_69 : decode cX1_mostKept 69 = .ok (.invokevirtual 79, 3) := by decide +kernel
theorem dX1_mostKept_72 : decode cX1_mostKept 72 = .ok (.istore 6, 2) := by decide +kernel
theorem dX1_mostKept_74 : decode cX1_mostKept 74 = .ok (.iload 6, 2) := by decide +kernel
theorem dX1_mostKept_76 : decode cX1_mostKept 76 = .ok (.iload 4, 2) := by decide +kernel
theorem dX1_mostKept_78 : decode cX1_mostKept 78 = .ok (.if_icmp .le 8, 3) := by decide +kernel
theorem dX1_mostKept_81 : decode cX1_mostKept 81 = .ok (.iload 5, 2) := by decide +kernel
theorem dX1_mostKept_83 : decode cX1_mostKept 83 = .ok (.goto 4, 3) := by decide +kernel
theorem dX1_mostKept_86 : decode cX1_mostKept 86 = .ok (.iload_n 3, 1) := by decide +kernel
theorem dX1_mostKept_87 : decode cX1_mostKept 87 = .ok (.istore_n 3, 1) := by decide +kernel
theorem dX1_mostKept_88 : decode cX1_mostKept 88 = .ok (.iload 6, 2) := by decide +kernel
theorem dX1_mostKept_90 : decode cX1_mostKept 90 = .ok (.iload 4, 2) := by decide +kernel
theorem dX1_mostKept_92 : decode cX1_mostKept 92 = .ok (.if_icmp .le 8, 3) := by decide +kernel
theorem dX1_mostKept_95 : decode cX1_mostKept 95 = .ok (.iload 6, 2) := by decide +kernel
theorem dX1_mostKept_97 : decode cX1_mostKept 97 = .ok (.goto 5, 3) := by decide +kernel
theorem dX1_mostKept_100 : decode cX1_mostKept 100 = .ok (.iload 4, 2) := by decide +kernel
theorem dX1_mostKept_102 : decode cX1_mostKept 102 = .ok (.istore 4, 2) := by decide +kernel
theorem dX1_mostKept_104 : decode cX1_mostKept 104 = .ok (.iinc 5 1, 3) := by decide +kernel
theorem dX1_mostKept_107 : decode cX1_mostKept 107 = .ok (.goto (-64), 3) := by decide +kernel
theorem dX1_mostKept_110 : decode cX1_mostKept 110 = .ok (.iload_n 3, 1) := by decide +kernel
theorem dX1_mostKept_111 : decode cX1_mostKept 111 = .ok (.ireturn, 1) := by decide +kernel
theorem dX1_isCode_0 : decode cX1_isCode 0 = .ok (.iload_n 0, 1) := by decide +kernel
theorem dX1_isCode_1 : decode cX1_isCode 1 = .ok (.iconst 0, 1) := by decide +kernel
theorem dX1_isCode_2 : decode cX1_isCode 2 = .ok (.bipush 47, 2) := by decide +kernel
theorem dX1_isCode_4 : decode cX1_isCode 4 = .ok (.invokestatic 23, 3) := by decide +kernel
theorem dX1_isCode_7 : decode cX1_isCode 7 = .ok (.ireturn, 1) := by decide +kernel
theorem dX1_cuts_0 : decode cX1_cuts 0 = .ok (.aload_n 0, 1) := by decide +kernel
theorem dX1_cuts_1 : decode cX1_cuts 1 = .ok (.iload_n 1, 1) := by decide +kernel
theorem dX1_cuts_2 : decode cX1_cuts 2 = .ok (.invokestatic 85, 3) := by decide +kernel
theorem dX1_cuts_5 : decode cX1_cuts 5 = .ok (.ifCond .eq 14, 3) := by decide +kernel
theorem dX1_cuts_8 : decode cX1_cuts 8 = .ok (.iload_n 2, 1) := by decide +kernel
theorem dX1_cuts_9 : decode cX1_cuts 9 = .ok (.invokestatic 85, 3) := by decide +kernel
theorem dX1_cuts_12 : decode cX1_cuts 12 = .ok (.ifCond .eq 7, 3) := by decide +kernel
theorem dX1_cuts_15 : decode cX1_cuts 15 = .ok (.iconst 0, 1) := by decide +kernel
theorem dX1_cuts_16 : decode cX1_cuts 16 = .ok (.goto 4, 3) := by decide +kernel
theorem dX1_cuts_19 : decode cX1_cuts 19 = .ok (.iconst 1, 1) := by decide +kernel
theorem dX1_cuts_20 : decode cX1_cuts 20 = .ok (.invokevirtual 42, 3) := by decide +kernel
theorem dX1_cuts_23 : decode cX1_cuts 23 = .ok (.ifCond .ne 5, 3) := by decide +kernel
theorem dX1_cuts_26 : decode cX1_cuts 26 = .ok (.iconst 0, 1) := by decide +kernel
theorem dX1_cuts_27 : decode cX1_cuts 27 = .ok (.ireturn, 1) := by decide +kernel
theorem dX1_cuts_28 : decode cX1_cuts 28 = .ok (.iconst 0, 1) := by decide +kernel
theorem dX1_cuts_29 : decode cX1_cuts 29 = .ok (.istore_n 3, 1) := by decide +kernel
theorem dX1_cuts_30 : decode cX1_cuts 30 = .ok (.iconst 0, 1) := by decide +kernel
theorem dX1_cuts_31 : decode cX1_cuts 31 = .ok (.istore 4, 2) := by decide +kernel
theorem dX1_cuts_33 : decode cX1_cuts 33 = .ok (.iload 4, 2) := by decide +kernel
theorem dX1_cuts_35 : decode cX1_cuts 35 = .ok (.bipush 12, 2) := by decide +kernel
theorem dX1_cuts_37 : decode cX1_cuts 37 = .ok (.if_icmp .gt 52, 3) := by decide +kernel
theorem dX1_cuts_40 : decode cX1_cuts 40 = .ok (.aload_n 0, 1) := by decide +kernel
theorem dX1_cuts_41 : decode cX1_cuts 41 = .ok (.iconst 0, 1) := by decide +kernel
theorem dX1_cuts_42 : decode cX1_cuts 42 = .ok (.iload_n 1, 1) := by decide +kernel
theorem dX1_cuts_43 : decode cX1_cuts 43 = .ok (.iconst 0, 1) := by decide +kernel
theorem dX1_cuts_44 : decode cX1_cuts 44 = .ok (.iload 4, 2) := by decide +kernel
theorem dX1_cuts_46 : decode cX1_cuts 46 = .ok (.invokevirtual 68, 3) := by decide +kernel
theorem dX1_cuts_49 : decode cX1_cuts 49 = .ok (.aload_n 0, 1) := by decide +kernel
theorem dX1_cuts_50 : decode cX1_cuts 50 = .ok (.iconst 1, 1) := by decide +kernel
theorem dX1_cuts_51 : decode cX1_cuts 51 = .ok (.iload_n 2, 1) := by decide +kernel
theorem dX1_cuts_52 : decode cX1_cuts 52 = .ok (.iconst 0, 1) := by decide +kernel
theorem dX1_cuts_53 : decode cX1_cuts 53 = .ok (.bipush 12, 2) := by decide +kernel
theorem dX1_cuts_55 : decode cX1_cuts 55 = .ok (.iload 4, 2) := by decide +kernel
theorem dX1_cuts_57 : decode cX1_cuts 57 = .ok (.isub, 1) := by decide +kernel
theorem dX1_cuts_58 : decode cX1_cuts 58 = .ok (.invokevirtual 68, 3) := by decide +kernel
theorem dX1_cuts_61 : decode cX1_cuts 61 = .ok (.ior, 1) := by decide +kernel
theorem dX1_cuts_62 : decode cX1_cuts 62 = .ok (.istore 5, 2) := by decide +kernel
theorem dX1_cuts_64 : decode cX1_cuts 64 = .ok (.iload_n 3, 1) := by decide +kernel
theorem dX1_cuts_65 : decode cX1_cuts 65 = .ok (.iload 5, 2) := by decide +kernel
theorem dX1_cuts_67 : decode cX1_cuts 67 = .ok (.sipush 4095, 3) := by decide +kernel
theorem dX1_cuts_70 : decode cX1_cuts 70 = .ok (.if_icmp .ne 10, 3) := by decide +kernel
theorem dX1_cuts_73 : decode cX1_cuts 73 = .ok (.iconst 1, 1) := by decide +kernel
theorem dX1_cuts_74 : decode cX1_cuts 74 = .ok (.iload 4, 2) := by decide +kernel
theorem dX1_cuts_76 : decode cX1_cuts 76 = .ok (.ishl, 1) := by decide +kernel
theorem dX1_cuts_77 : decode cX1_cuts 77 = .ok (.goto 4, 3) := by decide +kernel
theorem dX1_cuts_80 : decode cX1_cuts 80 = .ok (.iconst 0, 1) := by decide +kernel
theorem dX1_cuts_81 : decode cX1_cuts 81 = .ok (.ior, 1) := by decide +kernel
theorem dX1_cuts_82 : decode cX1_cuts 82 = .ok (.istore_n 3, 1) := by decide +kernel
theorem dX1_cuts_83 : decode cX1_cuts 83 = .ok (.iinc 4 1, 3) := by decide +kernel
theorem dX1_cuts_86 : decode cX1_cuts 86 = .ok (.goto (-53), 3) := by decide +kernel
theorem dX1_cuts_89 : decode cX1_cuts 89 = .ok (.iload_n 3, 1) := by decide +kernel
theorem dX1_cuts_90 : decode cX1_cuts 90 = .ok (.ireturn, 1) := by decide +kernel
theorem dX1_isWritten_0 : decode cX1_isWritten 0 = .ok (.iconst 0, 1) := by decide +kernel
theorem dX1_isWritten_1 : decode cX1_isWritten 1 = .ok (.istore_n 2, 1) := by decide +kernel
theorem dX1_isWritten_2 : decode cX1_isWritten 2 = .ok (.iconst 0, 1) := by decide +kernel
theorem dX1_isWritten_3 : decode cX1_isWritten 3 = .ok (.istore_n 3, 1) := by decide +kernel
theorem dX1_isWritten_4 : decode cX1_isWritten 4 = .ok (.iload_n 3, 1) := by decide +kernel
theorem dX1_isWritten_5 : decode cX1_isWritten 5 = .ok (.aload_n 0, 1) := by decide +kernel
theorem dX1_isWritten_6 : decode cX1_isWritten 6 = .ok (.getfield 88, 3) := by decide +kernel
theorem dX1_isWritten_9 : decode cX1_isWritten 9 = .ok (.if_icmp .ge 29, 3) := by decide +kernel
theorem dX1_isWritten_12 : decode cX1_isWritten 12 = .ok (.iload_n 2, 1) := by decide +kernel
theorem dX1_isWritten_13 : decode cX1_isWritten 13 = .ok (.ifCond .ne 13, 3) := by decide +kernel
theorem dX1_isWritten_16 : decode cX1_isWritten 16 = .ok (.aload_n 0, 1) := by decide +kernel
theorem dX1_isWritten_17 : decode cX1_isWritten 17 = .ok (.getfield 16, 3) := by decide +kernel
theorem dX1_isWritten_20 : decode cX1_isWritten 20 = .ok (.iload_n 3, 1) := by decide +kernel
theorem dX1_isWritten_21 : decode cX1_isWritten 21 = .ok (.iaload, 1) := by decide +kernel
theorem dX1_isWritten_22 : decode cX1_isWritten 22 = .ok (.iload_n 1, 1) := by decide +kernel
theorem dX1_isWritten_23 : decode cX1_isWritten 23 = .ok (.if_icmp .ne 7, 3) := by decide +kernel
theorem dX1_isWritten_26 : decode cX1_isWritten 26 = .ok (.iconst 1, 1) := by decide +kernel
theorem dX1_isWritten_27 : decode cX1_isWritten 27 = .ok (.goto 4, 3) := by decide +kernel
theorem dX1_isWritten_30 : decode cX1_isWritten 30 = .ok (.iconst 0, 1) := by decide +kernel
theorem dX1_isWritten_31 : decode cX1_isWritten 31 = .ok (.istore_n 2, 1) := by decide +kernel
theorem dX1_isWritten_32 : decode cX1_isWritten 32 = .ok (.iinc 3 1, 3) := by decide +kernel
theorem dX1_isWritten_35 : decode cX1_isWritten 35 = .ok (.goto (-31), 3) := by decide +kernel
theorem dX1_isWritten_38 : decode cX1_isWritten 38 = .ok (.iload_n 2, 1) := by decide +kernel
theorem dX1_isWritten_39 : decode cX1_isWritten 39 = .ok (.ireturn, 1) := by decide +kernel
theorem dX1_write_0 : decode cX1_write 0 = .ok (.aload_n 0, 1) := by decide +kernel
theorem dX1_write_1 : decode cX1_write 1 = .ok (.iload_n 1, 1) := by decide +kernel
theorem dX1_write_2 : decode cX1_write 2 = .ok (.invokestatic 27, 3) := by decide +kernel
theorem dX1_write_5 : decode cX1_write 5 = .ok (.ifCond .ne 7, 3) := by decide +kernel
theorem dX1_write_8 : decode cX1_write 8 = .ok (.iconst 1, 1) := by decide +kernel
theorem dX1_write_9 : decode cX1_write 9 = .ok (.goto 16, 3) := by decide +kernel
theorem dX1_write_12 : decode cX1_write 12 = .ok (.aload_n 0, 1) := by decide +kernel
theorem dX1_write_13 : decode cX1_write 13 = .ok (.iload_n 1, 1) := by decide +kernel
theorem dX1_write_14 : decode cX1_write 14 = .ok (.invokevirtual 91, 3) := by decide +kernel
theorem dX1_write_17 : decode cX1_write 17 = .ok (.ifCond .eq 7, 3) := by decide +kernel
theorem dX1_write_20 : decode cX1_write 20 = .ok (.iconst 2, 1) := by decide +kernel
theorem dX1_write_21 : decode cX1_write 21 = .ok (.goto 4, 3) := by decide +kernel
theorem dX1_write_24 : decode cX1_write 24 = .ok (.iconst 0, 1) := by decide +kernel
theorem dX1_write_25 : decode cX1_write 25 = .ok (.invokevirtual 42, 3) := by decide +kernel
theorem dX1_write_28 : decode cX1_write 28 = .ok (.ifCond .ne 5, 3) := by decide +kernel
theorem dX1_write_31 : decode cX1_write 31 = .ok (.iconst 0, 1) := by decide +kernel
theorem dX1_write_32 : decode cX1_write 32 = .ok (.ireturn, 1) := by decide +kernel
theorem dX1_write_33 : decode cX1_write 33 = .ok (.aload_n 0, 1) := by decide +kernel
theorem dX1_write_34 : decode cX1_write 34 = .ok (.getfield 16, 3) := by decide +kernel
theorem dX1_write_37 : decode cX1_write 37 = .ok (.aload_n 0, 1) := by decide +kernel
theorem dX1_write_38 : decode cX1_write 38 = .ok (.getfield 88, 3) := by decide +kernel
theorem dX1_write_41 : decode cX1_write 41 = .ok (.iload_n 1, 1) := by decide +kernel
theorem dX1_write_42 : decode cX1_write 42 = .ok (.iastore, 1) := by decide +kernel
theorem dX1_write_43 : decode cX1_write 43 = .ok (.aload_n 0, 1) := by decide +kernel
theorem dX1_write_44 : decode cX1_write 44 = .ok (.dup, 1) := by decide +kernel
theorem dX1_write_45 : decode cX1_write 45 = .ok (.getfield 88, 3) := by decide +kernel
theorem dX1_write_48 : decode cX1_write 48 = .ok (.iconst 1, 1) := by decide +kernel
theorem dX1_write_49 : decode cX1_write 49 = .ok (.iadd, 1) := by decide +kernel
theorem dX1_write_50 : decode cX1_write 50 = .ok (.putfield 88, 3) := by decide +kernel
theorem dX1_write_53 : decode cX1_write 53 = .ok (.aload_n 0, 1) := by decide +kernel
theorem dX1_write_54 : decode cX1_write 54 = .ok (.getfield 88, 3) := by decide +kernel
theorem dX1_write_57 : decode cX1_write 57 = .ok (.ireturn, 1) := by decide +kernel
theorem dX1_erase_0 : decode cX1_erase 0 = .ok (.aload_n 0, 1) := by decide +kernel
theorem dX1_erase_1 : decode cX1_erase 1 = .ok (.iconst 0, 1) := by decide +kernel
theorem dX1_erase_2 : decode cX1_erase 2 = .ok (.putfield 19, 3) := by decide +kernel
theorem dX1_erase_5 : decode cX1_erase 5 = .ok (.aload_n 0, 1) := by decide +kernel
theorem dX1_erase_6 : decode cX1_erase 6 = .ok (.getfield 88, 3) := by decide +kernel
theorem dX1_erase_9 : decode cX1_erase 9 = .ok (.istore_n 1, 1) := by decide +kernel
theorem dX1_erase_10 : decode cX1_erase 10 = .ok (.aload_n 0, 1) := by decide +kernel
theorem dX1_erase_11 : decode cX1_erase 11 = .ok (.iconst 0, 1) := by decide +kernel
theorem dX1_erase_12 : decode cX1_erase 12 = .ok (.putfield 88, 3) := by decide +kernel
theorem dX1_erase_15 : decode cX1_erase 15 = .ok (.iload_n 1, 1) := by decide +kernel
theorem dX1_erase_16 : decode cX1_erase 16 = .ok (.ireturn, 1) := by decide +kernel
theorem dX1_placeIn_0 : decode cX1_placeIn 0 = .ok (.iconst 0, 1) := by decide +kernel
theorem dX1_placeIn_1 : decode cX1_placeIn 1 = .ok (.istore_n 3, 1) := by decide +kernel
theorem dX1_placeIn_2 : decode cX1_placeIn 2 = .ok (.iload_n 3, 1) := by decide +kernel
theorem dX1_placeIn_3 : decode cX1_placeIn 3 = .ok (.aload_n 0, 1) := by decide +kernel
theorem dX1_placeIn_4 : decode cX1_placeIn 4 = .ok (.getfield 88, 3) := by decide +kernel
theorem dX1_placeIn_7 : decode cX1_placeIn 7 = .ok (.iadd, 1) := by decide +kernel
theorem dX1_placeIn_8 : decode cX1_placeIn 8 = .ok (.bipush 12, 2) := by decide +kernel
theorem dX1_placeIn_10 : decode cX1_placeIn 10 = .ok (.if_icmp .gt 69, 3) := by decide +kernel
theorem dX1_placeIn_13 : decode cX1_placeIn 13 = .ok (.iconst 1, 1) := by decide +kernel
theorem dX1_placeIn_14 : decode cX1_placeIn 14 = .ok (.istore 4, 2) := by decide +kernel
theorem dX1_placeIn_16 : decode cX1_placeIn 16 = .ok (.iconst 0, 1) := by decide +kernel
theorem dX1_placeIn_17 : decode cX1_placeIn 17 = .ok (.istore 5, 2) := by decide +kernel
theorem dX1_placeIn_19 : decode cX1_placeIn 19 = .ok (.iload 5, 2) := by decide +kernel
theorem dX1_placeIn_21 : decode cX1_placeIn 21 = .ok (.aload_n 0, 1) := by decide +kernel
theorem dX1_placeIn_22 : decode cX1_placeIn 22 = .ok (.getfield 88, 3) := by decide +kernel
theorem dX1_placeIn_25 : decode cX1_placeIn 25 = .ok (.if_icmp .ge 41, 3) := by decide +kernel
theorem dX1_placeIn_28 : decode cX1_placeIn 28 = .ok (.iload 4, 2) := by decide +kernel
theorem dX1_placeIn_30 : decode cX1_placeIn 30 = .ok (.ifCond .eq 27, 3) := by decide +kernel
theorem dX1_placeIn_33 : decode cX1_placeIn 33 = .ok (.aload_n 0, 1) := by decide +kernel
theorem dX1_placeIn_34 : decode cX1_placeIn 34 = .ok (.iload_n 1, 1) := by decide +kernel
theorem dX1_placeIn_35 : decode cX1_placeIn 35 = .ok (.iload_n 2, 1) := by decide +kernel
theorem dX1_placeIn_36 : decode cX1_placeIn 36 = .ok (.iload_n 3, 1) := by decide +kernel
theorem dX1_placeIn_37 : decode cX1_placeIn 37 = .ok (.iload 5, 2) := by decide +kernel
theorem dX1_placeIn_39 : decode cX1_placeIn 39 = .ok (.iadd, 1) := by decide +kernel
theorem dX1_placeIn_40 : decode cX1_placeIn 40 = .ok (.invokevirtual 52, 3) := by decide +kernel
theorem dX1_placeIn_43 : decode cX1_placeIn 43 = .ok (.aload_n 0, 1) := by decide +kernel
theorem dX1_placeIn_44 : decode cX1_placeIn 44 = .ok (.getfield 16, 3) := by decide +kernel
theorem dX1_placeIn_47 : decode cX1_placeIn 47 = .ok (.iload 5, 2) := by decide +kernel
theorem dX1_placeIn_49 : decode cX1_placeIn 49 = .ok (.iaload, 1) := by decide +kernel
theorem dX1_placeIn_50 : decode cX1_placeIn 50 = .ok (.if_icmp .ne 7, 3) := by decide +kernel
theorem dX1_placeIn_53 : decode cX1_placeIn 53 = .ok (.iconst 1, 1) := by decide +kernel
theorem dX1_placeIn_54 : decode cX1_placeIn 54 = .ok (.goto 4, 3) := by decide +kernel
theorem dX1_placeIn_57 : decode cX1_placeIn 57 = .ok (.iconst 0, 1) := by decide +kernel
theorem dX1_placeIn_58 : decode cX1_placeIn 58 = .ok (.istore 4, 2) := by decide +kernel
theorem dX1_placeIn_60 : decode cX1_placeIn 60 = .ok (.iinc 5 1, 3) := by decide +kernel
theorem dX1_placeIn_63 : decode cX1_placeIn 63 = .ok (.goto (-44), 3) := by decide +kernel
theorem dX1_placeIn_66 : decode cX1_placeIn 66 = .ok (.iload 4, 2) := by decide +kernel
theorem dX1_placeIn_68 : decode cX1_placeIn 68 = .ok (.ifCond .eq 5, 3) := by decide +kernel
theorem dX1_placeIn_71 : decode cX1_placeIn 71 = .ok (.iload_n 3, 1) := by decide +kernel
theorem dX1_placeIn_72 : decode cX1_placeIn 72 = .ok (.ireturn, 1) := by decide +kernel
theorem dX1_placeIn_73 : decode cX1_placeIn 73 = .ok (.iinc 3 1, 3) := by decide +kernel
theorem dX1_placeIn_76 : decode cX1_placeIn 76 = .ok (.goto (-74), 3) := by decide +kernel
theorem dX1_placeIn_79 : decode cX1_placeIn 79 = .ok (.iconst (-1), 1) := by decide +kernel
theorem dX1_placeIn_80 : decode cX1_placeIn 80 = .ok (.ireturn, 1) := by decide +kernel
theorem dX1_formsWithPhrase_0 : decode cX1_formsWithPhrase 0 = .ok (.aload_n 0, 1) := by decide +kernel
theorem dX1_formsWithPhrase_1 : decode cX1_formsWithPhrase 1 = .ok (.iload_n 1, 1) := by decide +kernel
theorem dX1_formsWithPhrase_2 : decode cX1_formsWithPhrase 2 = .ok (.invokestatic 39, 3) := by decide +kernel
theorem dX1_formsWithPhrase_5 : decode cX1_formsWithPhrase 5 = .ok (.ifCond .eq 7, 3) := by decide +kernel
theorem dX1_formsWithPhrase_8 : decode cX1_formsWithPhrase 8 = .ok (.iconst 0, 1) := by decide +kernel
theorem dX1_formsWithPhrase_9 : decode cX1_formsWithPhrase 9 = .ok (.goto 4, 3) := by decide +kernel
theorem dX1_formsWithPhrase_12 : decode cX1_formsWithPhrase 12 = .ok (.iconst 1, 1) := by decide +kernel
theorem dX1_formsWithPhrase_13 : decode cX1_formsWithPhrase 13 = .ok (.invokevirtual 42, 3) := by decide +kernel
theorem dX1_formsWithPhrase_16 : decode cX1_formsWithPhrase 16 = .ok (.ifCond .ne 5, 3) := by decide +kernel
theorem dX1_formsWithPhrase_19 : decode cX1_formsWithPhrase 19 = .ok (.lconst 0, 1) := by decide +kernel
theorem dX1_formsWithPhrase_20 : decode cX1_formsWithPhrase 20 = .ok (.lreturn, 1) := by decide +kernel
theorem dX1_formsWithPhrase_21 : decode cX1_formsWithPhrase 21 = .ok (.lconst 0, 1) := by decide +kernel
theorem dX1_formsWithPhrase_22 : decode cX1_formsWithPhrase 22 = .ok (.lstore_n 2, 1) := by decide +kernel
theorem dX1_formsWithPhrase_23 : decode cX1_formsWithPhrase 23 = .ok (.iconst 0, 1) := by decide +kernel
theorem dX1_formsWithPhrase_24 : decode cX1_formsWithPhrase 24 = .ok (.istore 4, 2) := by decide +kernel
theorem dX1_formsWithPhrase_26 : decode cX1_formsWithPhrase 26 = .ok (.iload 4, 2) := by decide +kernel
theorem dX1_formsWithPhrase_28 : decode cX1_formsWithPhrase 28 = .ok (.bipush 48, 2) := by decide +kernel
theorem dX1_formsWithPhrase_30 : decode cX1_formsWithPhrase 30 = .ok (.if_icmp .ge 31, 3) := by decide +kernel
theorem dX1_formsWithPhrase_33 : decode cX1_formsWithPhrase 33 = .ok (.lload_n 2, 1) := by decide +kernel
theorem dX1_formsWithPhrase_34 : decode cX1_formsWithPhrase 34 = .ok (.aload_n 0, 1) := by decide +kernel
theorem dX1_formsWithPhrase_35 : decode cX1_formsWithPhrase 35 = .ok (.iload_n 1, 1) := by decide +kernel
theorem dX1_formsWithPhrase_36 : decode cX1_formsWithPhrase 36 = .ok (.iload 4, 2) := by decide +kernel
theorem dX1_formsWithPhrase_38 : decode cX1_formsWithPhrase 38 = .ok (.invokevirtual 94, 3) := by decide +kernel
theorem dX1_formsWithPhrase_41 : decode cX1_formsWithPhrase 41 = .ok (.iconst (-1), 1) := by decide +kernel
theorem dX1_formsWithPhrase_42 : decode cX1_formsWithPhrase 42 = .ok (.if_icmp .ne 7, 3) := by decide +kernel
theorem dX1_formsWithPhrase_45 : decode cX1_formsWithPhrase 45 = .ok (.lconst 0, 1) := by decide +kernel
theorem dX1_formsWithPhrase_46 : decode cX1_formsWithPhrase 46 = .ok (.goto 7, 3) := by decide +kernel
theorem dX1_formsWithPhrase_49 : decode cX1_formsWithPhrase 49 = .ok (.lconst 1, 1) := by decide +kernel
theorem dX1_formsWithPhrase_50 : decode cX1_formsWithPhrase 50 = .ok (.iload 4, 2) := by decide +kernel
theorem dX1_formsWithPhrase_52 : decode cX1_formsWithPhrase 52 = .ok (.lshl, 1) := by decide +kernel
theorem dX1_formsWithPhrase_53 : decode cX1_formsWithPhrase 53 = .ok (.lor, 1) := by decide +kernel
theorem dX1_formsWithPhrase_54 : decode cX1_formsWithPhrase 54 = .ok (.lstore_n 2, 1) := by decide +kernel
theorem dX1_formsWithPhrase_55 : decode cX1_formsWithPhrase 55 = .ok (.iinc 4 1, 3) := by decide +kernel
theorem dX1_formsWithPhrase_58 : decode cX1_formsWithPhrase 58 = .ok (.goto (-32), 3) := by decide +kernel
theorem dX1_formsWithPhrase_61 : decode cX1_formsWithPhrase 61 = .ok (.lload_n 2, 1) := by decide +kernel
theorem dX1_formsWithPhrase_62 : decode cX1_formsWithPhrase 62 = .ok (.lreturn, 1) := by decide +kernel
theorem dX1_placeOfPhrase_0 : decode cX1_placeOfPhrase 0 = .ok (.aload_n 0, 1) := by decide +kernel
theorem dX1_placeOfPhrase_1 : decode cX1_placeOfPhrase 1 = .ok (.iload_n 1, 1) := by decide +kernel
theorem dX1_placeOfPhrase_2 : decode cX1_placeOfPhrase 2 = .ok (.invokestatic 39, 3) := by decide +kernel
theorem dX1_placeOfPhrase_5 : decode cX1_placeOfPhrase 5 = .ok (.ifCond .ne 7, 3) := by decide +kernel
theorem dX1_placeOfPhrase_8 : decode cX1_placeOfPhrase 8 = .ok (.iconst 1, 1) := by decide +kernel
theorem dX1_placeOfPhrase_9 : decode cX1_placeOfPhrase 9 = .ok (.goto 15, 3) := by decide +kernel
theorem dX1_placeOfPhrase_12 : decode cX1_placeOfPhrase 12 = .ok (.iload_n 2, 1) := by decide +kernel
theorem dX1_placeOfPhrase_13 : decode cX1_placeOfPhrase 13 = .ok (.invokestatic 85, 3) := by decide +kernel
theorem dX1_placeOfPhrase_16 : decode cX1_placeOfPhrase 16 = .ok (.ifCond .eq 7, 3) := by decide +kernel
theorem dX1_placeOfPhrase_19 : decode cX1_placeOfPhrase 19 = .ok (.iconst 0, 1) := by decide +kernel
theorem dX1_placeOfPhrase_20 : decode cX1_placeOfPhrase 20 = .ok (.goto 4, 3) := by decide +kernel
theorem dX1_placeOfPhrase_23 : decode cX1_placeOfPhrase 23 = .ok (.iconst 2, 1) := by decide +kernel
theorem dX1_placeOfPhrase_24 : decode cX1_placeOfPhrase 24 = .ok (.invokevirtual 42, 3) := by decide +kernel
theorem dX1_placeOfPhrase_27 : decode cX1_placeOfPhrase 27 = .ok (.ifCond .eq 23, 3) := by decide +kernel
theorem dX1_placeOfPhrase_30 : decode cX1_placeOfPhrase 30 = .ok (.aload_n 0, 1) := by decide +kernel
theorem dX1_placeOfPhrase_31 : decode cX1_placeOfPhrase 31 = .ok (.getfield 88, 3) := by decide +kernel
theorem dX1_placeOfPhrase_34 : decode cX1_placeOfPhrase 34 = .ok (.ifCond .ne 7, 3) := by decide +kernel
theorem dX1_placeOfPhrase_37 : decode cX1_placeOfPhrase 37 = .ok (.iconst (-1), 1) := by decide +kernel
theorem dX1_placeOfPhrase_38 : decode cX1_placeOfPhrase 38 = .ok (.goto 13, 3) := by decide +kernel
theorem dX1_placeOfPhrase_41 : decode cX1_placeOfPhrase 41 = .ok (.aload_n 0, 1) := by decide +kernel
theorem dX1_placeOfPhrase_42 : decode cX1_placeOfPhrase 42 = .ok (.iload_n 1, 1) := by decide +kernel
theorem dX1_placeOfPhrase_43 : decode cX1_placeOfPhrase 43 = .ok (.iload_n 2, 1) := by decide +kernel
theorem dX1_placeOfPhrase_44 : decode cX1_placeOfPhrase 44 = .ok (.invokevirtual 94, 3) := by decide +kernel
theorem dX1_placeOfPhrase_47 : decode cX1_placeOfPhrase 47 = .ok (.goto 4, 3) := by decide +kernel
theorem dX1_placeOfPhrase_50 : decode cX1_placeOfPhrase 50 = .ok (.iconst 0, 1) := by decide +kernel
theorem dX1_placeOfPhrase_51 : decode cX1_placeOfPhrase 51 = .ok (.ireturn, 1) := by decide +kernel
theorem dX1_complete_0 : decode cX1_complete 0 = .ok (.aload_n 0, 1) := by decide +kernel
theorem dX1_complete_1 : decode cX1_complete 1 = .ok (.iload_n 1, 1) := by decide +kernel
theorem dX1_complete_2 : decode cX1_complete 2 = .ok (.invokestatic 39, 3) := by decide +kernel
theorem dX1_complete_5 : decode cX1_complete 5 = .ok (.ifCond .eq 7, 3) := by decide +kernel
theorem dX1_complete_8 : decode cX1_complete 8 = .ok (.iconst 0, 1) := by decide +kernel
theorem dX1_complete_9 : decode cX1_complete 9 = .ok (.goto 4, 3) := by decide +kernel
theorem dX1_complete_12 : decode cX1_complete 12 = .ok (.iconst 1, 1) := by decide +kernel
theorem dX1_complete_13 : decode cX1_complete 13 = .ok (.invokevirtual 42, 3) := by decide +kernel
theorem dX1_complete_16 : decode cX1_complete 16 = .ok (.ifCond .ne 5, 3) := by decide +kernel
theorem dX1_complete_19 : decode cX1_complete 19 = .ok (.iconst 0, 1) := by decide +kernel
theorem dX1_complete_20 : decode cX1_complete 20 = .ok (.ireturn, 1) := by decide +kernel
theorem dX1_complete_21 : decode cX1_complete 21 = .ok (.iconst 0, 1) := by decide +kernel
theorem dX1_complete_22 : decode cX1_complete 22 = .ok (.istore_n 2, 1) := by decide +kernel
theorem dX1_complete_23 : decode cX1_complete 23 = .ok (.iconst 0, 1) := by decide +kernel
theorem dX1_complete_24 : decode cX1_complete 24 = .ok (.istore_n 3, 1) := by decide +kernel
theorem dX1_complete_25 : decode cX1_complete 25 = .ok (.iload_n 3, 1) := by decide +kernel
theorem dX1_complete_26 : decode cX1_complete 26 = .ok (.aload_n 0, 1) := by decide +kernel
theorem dX1_complete_27 : decode cX1_complete 27 = .ok (.getfield 88, 3) := by decide +kernel
theorem dX1_complete_30 : decode cX1_complete 30 = .ok (.if_icmp .ge 24, 3) := by decide +kernel
theorem dX1_complete_33 : decode cX1_complete 33 = .ok (.aload_n 0, 1) := by decide +kernel
theorem dX1_complete_34 : decode cX1_complete 34 = .ok (.getfield 13, 3) := by decide +kernel
theorem dX1_complete_37 : decode cX1_complete 37 = .ok (.iload_n 2, 1) := by decide +kernel
theorem dX1_complete_38 : decode cX1_complete 38 = .ok (.aload_n 0, 1) := by decide +kernel
theorem dX1_complete_39 : decode cX1_complete 39 = .ok (.getfield 16, 3) := by decide +kernel
theorem dX1_complete_42 : decode cX1_complete 42 = .ok (.iload_n 3, 1) := by decide +kernel
theorem dX1_complete_43 : decode cX1_complete 43 = .ok (.iaload, 1) := by decide +kernel
theorem dX1_complete_44 : decode cX1_complete 44 = .ok (.iastore, 1) := by decide +kernel
theorem dX1_complete_45 : decode cX1_complete 45 = .ok (.iinc 2 1, 3) := by decide +kernel
theorem dX1_complete_48 : decode cX1_complete 48 = .ok (.iinc 3 1, 3) := by decide +kernel
theorem dX1_complete_51 : decode cX1_complete 51 = .ok (.goto (-26), 3) := by decide +kernel
theorem dX1_complete_54 : decode cX1_complete 54 = .ok (.iconst 0, 1) := by decide +kernel
theorem dX1_complete_55 : decode cX1_complete 55 = .ok (.istore_n 3, 1) := by decide +kernel
theorem dX1_complete_56 : decode cX1_complete 56 = .ok (.iload_n 3, 1) := by decide +kernel
theorem dX1_complete_57 : decode cX1_complete 57 = .ok (.bipush 12, 2) := by decide +kernel
theorem dX1_complete_59 : decode cX1_complete 59 = .ok (.if_icmp .ge 37, 3) := by decide +kernel
theorem dX1_complete_62 : decode cX1_complete 62 = .ok (.aload_n 0, 1) := by decide +kernel
theorem dX1_complete_63 : decode cX1_complete 63 = .ok (.aload_n 0, 1) := by decide +kernel
theorem dX1_complete_64 : decode cX1_complete 64 = .ok (.iload_n 1, 1) := by decide +kernel
theorem dX1_complete_65 : decode cX1_complete 65 = .ok (.iload_n 3, 1) := by decide +kernel
theorem dX1_complete_66 : decode cX1_complete 66 = .ok (.invokevirtual 31, 3) := by decide +kernel
theorem dX1_complete_69 : decode cX1_complete 69 = .ok (.invokevirtual 91, 3) := by decide +kernel
theorem dX1_complete_72 : decode cX1_complete 72 = .ok (.ifCond .ne 18, 3) := by decide +kernel
theorem dX1_complete_75 : decode cX1_complete 75 = .ok (.aload_n 0, 1) := by decide +kernel
theorem dX1_complete_76 : decode cX1_complete 76 = .ok (.getfield 13, 3) := by decide +kernel
theorem dX1_complete_79 : decode cX1_complete 79 = .ok (.iload_n 2, 1) := by decide +kernel
theorem dX1_complete_80 : decode cX1_complete 80 = .ok (.aload_n 0, 1) := by decide +kernel
theorem dX1_complete_81 : decode cX1_complete 81 = .ok (.iload_n 1, 1) := by decide +kernel
theorem dX1_complete_82 : decode cX1_complete 82 = .ok (.iload_n 3, 1) := by decide +kernel
theorem dX1_complete_83 : decode cX1_complete 83 = .ok (.invokevirtual 31, 3) := by decide +kernel
theorem dX1_complete_86 : decode cX1_complete 86 = .ok (.iastore, 1) := by decide +kernel
theorem dX1_complete_87 : decode cX1_complete 87 = .ok (.iinc 2 1, 3) := by decide +kernel
theorem dX1_complete_90 : decode cX1_complete 90 = .ok (.iinc 3 1, 3) := by decide +kernel
theorem dX1_complete_93 : decode cX1_complete 93 = .ok (.goto (-37), 3) := by decide +kernel
theorem dX1_complete_96 : decode cX1_complete 96 = .ok (.aload_n 0, 1) := by decide +kernel
theorem dX1_complete_97 : decode cX1_complete 97 = .ok (.iload_n 1, 1) := by decide +kernel
theorem dX1_complete_98 : decode cX1_complete 98 = .ok (.invokevirtual 56, 3) := by decide +kernel
theorem dX1_complete_101 : decode cX1_complete 101 = .ok (.ireturn, 1) := by decide +kernel
end
section
set_option maxRecDepth 20000 in
theorem ggX1_isTone_X1_in : GoodIn wsX1_isTone wsX1_in := goodIn_r _ [4] (by decide +kernel) (by decide +kernel)
set_option maxRecDepth 20000 in
theorem gX1_isTone_X1_in : GoodIn wsX1_isTone (va_wsS RX1 23 yX1_in wsX1_in) := goodIn_app (goodIn_of _ (by decide +kernel)) ggX1_isTone_X1_in
set_option maxRecDepth 20000 in
theorem ggX1_isForm_X1_in : GoodIn wsX1_isForm wsX1_in := goodIn_r _ [4] (by decide +kernel) (by decide +kernel)
set_option maxRecDepth 20000 in
theorem gX1_isForm_X1_in : GoodIn wsX1_isForm (va_wsS RX1 23 yX1_in wsX1_in) := goodIn_app (goodIn_of _ (by decide +kernel)) ggX1_isForm_X1_in
set_option maxRecDepth 20000 in
theorem ggX1_isForm_X1_isTone : GoodIn wsX1_isForm wsX1_isTone := goodIn_r _ [7, 1, 2, 3, 4] (by decide +kernel) (by decide +kernel)
set_option maxRecDepth 20000 in
theorem gX1_isForm_X1_isTone : GoodIn wsX1_isForm (va_wsS RX1 27 yX1_isTone wsX1_isTone) := goodIn_app (goodIn_of _ (by decide +kernel)) ggX1_isForm_X1_isTone
set_option maxRecDepth 20000 in
theorem ggX1_formAt_X1_at : GoodIn wsX1_formAt wsX1_at := goodIn_r _ [5, 6, 10, 11, 12, 13, 14] (by decide +kernel) (by decide +kernel)
set_option maxRecDepth 20000 in
theorem gX1_formAt_X1_at : GoodIn wsX1_formAt (wsV RX1 31 RX1 yX1_at wsX1_at) := goodIn_app (goodIn_of _ (by decide +kernel)) ggX1_formAt_X1_at
set_option maxRecDepth 20000 in
theorem ggX1_formAt_X1_modulo : GoodIn wsX1_formAt wsX1_modulo := goodIn_r _ [9] (by decide +kernel) (by decide +kernel)
set_option maxRecDepth 20000 in
theorem gX1_formAt_X1_modulo : GoodIn wsX1_formAt (va_wsS RX1 35 yX1_modulo wsX1_modulo) := goodIn_app (goodIn_of _ (by decide +kernel)) ggX1_formAt_X1_modulo
set_option maxRecDepth 20000 in
theorem ggX1_put_X1_isRow : GoodIn wsX1_put wsX1_isRow := goodIn_r _ [5] (by decide +kernel) (by decide +kernel)
set_option maxRecDepth 20000 in
theorem gX1_put_X1_isRow : GoodIn wsX1_put (va_wsS RX1 39 yX1_isRow wsX1_isRow) := goodIn_app (goodIn_of _ (by decide +kernel)) ggX1_put_X1_isRow
set_option maxRecDepth 20000 in
theorem ggX1_put_X1_isTone : GoodIn wsX1_put wsX1_isTone := goodIn_r _ [8, 9, 10, 4, 11] (by decide +kernel) (by decide +kernel)
set_option maxRecDepth 20000 in
theorem gX1_put_X1_isTone : GoodIn wsX1_put (va_wsS RX1 27 yX1_isTone wsX1_isTone) := goodIn_app (goodIn_of _ (by decide +kernel)) ggX1_put_X1_isTone
set_option maxRecDepth 20000 in
theorem ggX1_put_X1_goesWell : GoodIn wsX1_put wsX1_goesWell := goodIn_r _ [15, 16, 21, 22, 23, 24, 25] (by decide +kernel) (by decide +kernel)
set_option maxRecDepth 20000 in
theorem gX1_put_X1_goesWell : GoodIn wsX1_put (wsV RX1 42 RX1 yX1_goesWell wsX1_goesWell) := goodIn_app (goodIn_of _ (by decide +kernel)) ggX1_put_X1_goesWell
set_option maxRecDepth 20000 in
theorem ggX1_put_X1_at : GoodIn wsX1_put wsX1_at := goodIn_r _ [20, 1, 21, 22, 23, 24, 25] (by decide +kernel) (by decide +kernel)
set_option maxRecDepth 20000 in
theorem gX1_put_X1_at : GoodIn wsX1_put (wsV RX1 31 RX1 yX1_at wsX1_at) := goodIn_app (goodIn_of _ (by decide +kernel)) ggX1_put_X1_at
set_option maxRecDepth 20000 in
theorem ggX1_lay_X1_at : GoodIn wsX1_lay wsX1_at := goodIn_r _ [7, 1, 8, 9, 10, 11, 12] (by decide +kernel) (by decide +kernel)
set_option maxRecDepth 20000 in
theorem gX1_lay_X1_at : GoodIn wsX1_lay (wsV RX1 31 RX1 yX1_at wsX1_at) := goodIn_app (goodIn_of _ (by decide +kernel)) ggX1_lay_X1_at
set_option maxRecDepth 20000 in
theorem ggX1_take_X1_isRow : GoodIn wsX1_take wsX1_isRow := goodIn_r _ [5] (by decide +kernel) (by decide +kernel)
set_option maxRecDepth 20000 in
theorem gX1_take_X1_isRow : GoodIn wsX1_take (va_wsS RX1 39 yX1_isRow wsX1_isRow) := goodIn_app (goodIn_of _ (by decide +kernel)) ggX1_take_X1_isRow
set_option maxRecDepth 20000 in
theorem ggX1_take_X1_isForm : GoodIn wsX1_take wsX1_isForm := goodIn_r _ [8, 9, 10, 4, 11, 12, 13, 14] (by decide +kernel) (by decide +kernel)
set_option maxRecDepth 20000 in
theorem gX1_take_X1_isForm : GoodIn wsX1_take (va_wsS RX1 45 yX1_isForm wsX1_isForm) := goodIn_app (goodIn_of _ (by decide +kernel)) ggX1_take_X1_isForm
set_option maxRecDepth 20000 in
theorem ggX1_take_X1_goesWell : GoodIn wsX1_take wsX1_goesWell := goodIn_r _ [18, 19, 39, 40, 41, 42, 43] (by decide +kernel) (by decide +kernel)
set_option maxRecDepth 20000 in
theorem gX1_take_X1_goesWell : GoodIn wsX1_take (wsV RX1 42 RX1 yX1_goesWell wsX1_goesWell) := goodIn_app (goodIn_of _ (by decide +kernel)) ggX1_take_X1_goesWell
set_option maxRecDepth 20000 in
theorem ggX1_take_X1_codeOf : GoodIn wsX1_take wsX1_codeOf := goodIn_r _ [22] (by decide +kernel) (by decide +kernel)
set_option maxRecDepth 20000 in
theorem gX1_take_X1_codeOf : GoodIn wsX1_take (va_wsS RX1 49 yX1_codeOf wsX1_codeOf) := goodIn_app (goodIn_of _ (by decide +kernel)) ggX1_take_X1_codeOf
set_option maxRecDepth 20000 in
theorem ggX1_take_X1_formAt : GoodIn wsX1_take wsX1_formAt := goodIn_r _ [26, 27, 28, 29, 4, 30, 31, 32, 33, 34, 39, 40, 41, 42, 43] (by decide +kernel) (by decide +kernel)
set_option maxRecDepth 20000 in
theorem gX1_take_X1_formAt : GoodIn wsX1_take (wsV RX1 52 RX1 yX1_formAt wsX1_formAt) := goodIn_app (goodIn_of _ (by decide +kernel)) ggX1_take_X1_formAt
set_option maxRecDepth 20000 in
theorem ggX1_take_X1_lay : GoodIn wsX1_take wsX1_lay := goodIn_r _ [38, 31, 1, 27, 28, 29, 4, 30, 39, 40, 41, 42, 43] (by decide +kernel) (by decide +kernel)
set_option maxRecDepth 20000 in
theorem gX1_take_X1_lay : GoodIn wsX1_take (wsV RX1 56 RX1 yX1_lay wsX1_lay) := goodIn_app (goodIn_of _ (by decide +kernel)) ggX1_take_X1_lay
set_option maxRecDepth 20000 in
theorem ggX1_multiply_X1_isRow : GoodIn wsX1_multiply wsX1_isRow := goodIn_r _ [5] (by decide +kernel) (by decide +kernel)
set_option maxRecDepth 20000 in
theorem gX1_multiply_X1_isRow : GoodIn wsX1_multiply (va_wsS RX1 39 yX1_isRow wsX1_isRow) := goodIn_app (goodIn_of _ (by decide +kernel)) ggX1_multiply_X1_isRow
set_option maxRecDepth 20000 in
theorem ggX1_multiply_X1_goesWell : GoodIn wsX1_multiply wsX1_goesWell := goodIn_r _ [9, 10, 20, 21, 22, 23, 24] (by decide +kernel) (by decide +kernel)
set_option maxRecDepth 20000 in
theorem gX1_multiply_X1_goesWell : GoodIn wsX1_multiply (wsV RX1 42 RX1 yX1_goesWell wsX1_goesWell) := goodIn_app (goodIn_of _ (by decide +kernel)) ggX1_multiply_X1_goesWell
set_option maxRecDepth 20000 in
theorem ggX1_multiply_X1_at : GoodIn wsX1_multiply wsX1_at := goodIn_r _ [14, 15, 20, 21, 22, 23, 24] (by decide +kernel) (by decide +kernel)
set_option maxRecDepth 20000 in
theorem gX1_multiply_X1_at : GoodIn wsX1_multiply (wsV RX1 31 RX1 yX1_at wsX1_at) := goodIn_app (goodIn_of _ (by decide +kernel)) ggX1_multiply_X1_at
set_option maxRecDepth 20000 in
theorem ggX1_multiply_X1_lay : GoodIn wsX1_multiply wsX1_lay := goodIn_r _ [19, 15, 1, 11, 12, 13, 4, 14, 20, 21, 22, 23, 24] (by decide +kernel) (by decide +kernel)
set_option maxRecDepth 20000 in
theorem gX1_multiply_X1_lay : GoodIn wsX1_multiply (wsV RX1 56 RX1 yX1_lay wsX1_lay) := goodIn_app (goodIn_of _ (by decide +kernel)) ggX1_multiply_X1_lay
set_option maxRecDepth 20000 in
theorem ggX1_rotate_X1_isRow : GoodIn wsX1_rotate wsX1_isRow := goodIn_r _ [5] (by decide +kernel) (by decide +kernel)
set_option maxRecDepth 20000 in
theorem gX1_rotate_X1_isRow : GoodIn wsX1_rotate (va_wsS RX1 39 yX1_isRow wsX1_isRow) := goodIn_app (goodIn_of _ (by decide +kernel)) ggX1_rotate_X1_isRow
set_option maxRecDepth 20000 in
theorem ggX1_rotate_X1_isTone : GoodIn wsX1_rotate wsX1_isTone := goodIn_r _ [8, 9, 10, 4, 11] (by decide +kernel) (by decide +kernel)
set_option maxRecDepth 20000 in
theorem gX1_rotate_X1_isTone : GoodIn wsX1_rotate (va_wsS RX1 27 yX1_isTone wsX1_isTone) := goodIn_app (goodIn_of _ (by decide +kernel)) ggX1_rotate_X1_isTone
set_option maxRecDepth 20000 in
theorem ggX1_rotate_X1_goesWell : GoodIn wsX1_rotate wsX1_goesWell := goodIn_r _ [15, 16, 26, 27, 28, 29, 30] (by decide +kernel) (by decide +kernel)
set_option maxRecDepth 20000 in
theorem gX1_rotate_X1_goesWell : GoodIn wsX1_rotate (wsV RX1 42 RX1 yX1_goesWell wsX1_goesWell) := goodIn_app (goodIn_of _ (by decide +kernel)) ggX1_rotate_X1_goesWell
set_option maxRecDepth 20000 in
theorem ggX1_rotate_X1_at : GoodIn wsX1_rotate wsX1_at := goodIn_r _ [20, 21, 26, 27, 28, 29, 30] (by decide +kernel) (by decide +kernel)
set_option maxRecDepth 20000 in
theorem gX1_rotate_X1_at : GoodIn wsX1_rotate (wsV RX1 31 RX1 yX1_at wsX1_at) := goodIn_app (goodIn_of _ (by decide +kernel)) ggX1_rotate_X1_at
set_option maxRecDepth 20000 in
theorem ggX1_rotate_X1_lay : GoodIn wsX1_rotate wsX1_lay := goodIn_r _ [25, 21, 1, 17, 18, 19, 4, 20, 26, 27, 28, 29, 30] (by decide +kernel) (by decide +kernel)
set_option maxRecDepth 20000 in
theorem gX1_rotate_X1_lay : GoodIn wsX1_rotate (wsV RX1 56 RX1 yX1_lay wsX1_lay) := goodIn_app (goodIn_of _ (by decide +kernel)) ggX1_rotate_X1_lay
set_option maxRecDepth 20000 in
theorem ggX1_tone_X1_isRow : GoodIn wsX1_tone wsX1_isRow := goodIn_r _ [4] (by decide +kernel) (by decide +kernel)
set_option maxRecDepth 20000 in
theorem gX1_tone_X1_isRow : GoodIn wsX1_tone (va_wsS RX1 39 yX1_isRow wsX1_isRow) := goodIn_app (goodIn_of _ (by decide +kernel)) ggX1_tone_X1_isRow
set_option maxRecDepth 20000 in
theorem ggX1_tone_X1_isTone : GoodIn wsX1_tone wsX1_isTone := goodIn_r _ [7, 8, 9, 3, 10] (by decide +kernel) (by decide +kernel)
set_option maxRecDepth 20000 in
theorem gX1_tone_X1_isTone : GoodIn wsX1_tone (va_wsS RX1 27 yX1_isTone wsX1_isTone) := goodIn_app (goodIn_of _ (by decide +kernel)) ggX1_tone_X1_isTone
set_option maxRecDepth 20000 in
theorem ggX1_tone_X1_goesWell : GoodIn wsX1_tone wsX1_goesWell := goodIn_r _ [14, 15, 21, 22, 23, 24, 25] (by decide +kernel) (by decide +kernel)
set_option maxRecDepth 20000 in
theorem gX1_tone_X1_goesWell : GoodIn wsX1_tone (wsV RX1 42 RX1 yX1_goesWell wsX1_goesWell) := goodIn_app (goodIn_of _ (by decide +kernel)) ggX1_tone_X1_goesWell
set_option maxRecDepth 20000 in
theorem ggX1_tone_X1_at : GoodIn wsX1_tone wsX1_at := goodIn_r _ [19, 20, 21, 22, 23, 24, 25] (by decide +kernel) (by decide +kernel)
set_option maxRecDepth 20000 in
theorem gX1_tone_X1_at : GoodIn wsX1_tone (wsV RX1 31 RX1 yX1_at wsX1_at) := goodIn_app (goodIn_of _ (by decide +kernel)) ggX1_tone_X1_at
set_option maxRecDepth 20000 in
theorem ggX1_step_X1_at : GoodIn wsX1_step wsX1_at := goodIn_r _ [5, 6, 10, 11, 12, 13, 14] (by decide +kernel) (by decide +kernel)
set_option maxRecDepth 20000 in
theorem gX1_step_X1_at : GoodIn wsX1_step (wsV RX1 31 RX1 yX1_at wsX1_at) := goodIn_app (goodIn_of _ (by decide +kernel)) ggX1_step_X1_at
set_option maxRecDepth 20000 in
theorem ggX1_step_X1_modulo : GoodIn wsX1_step wsX1_modulo := goodIn_r _ [9] (by decide +kernel) (by decide +kernel)
set_option maxRecDepth 20000 in
theorem gX1_step_X1_modulo : GoodIn wsX1_step (va_wsS RX1 35 yX1_modulo wsX1_modulo) := goodIn_app (goodIn_of _ (by decide +kernel)) ggX1_step_X1_modulo
set_option maxRecDepth 20000 in
theorem ggX1_interval_X1_isRow : GoodIn wsX1_interval wsX1_isRow := goodIn_r _ [4] (by decide +kernel) (by decide +kernel)
set_option maxRecDepth 20000 in
theorem gX1_interval_X1_isRow : GoodIn wsX1_interval (va_wsS RX1 39 yX1_isRow wsX1_isRow) := goodIn_app (goodIn_of _ (by decide +kernel)) ggX1_interval_X1_isRow
set_option maxRecDepth 20000 in
theorem ggX1_interval_X1_in : GoodIn wsX1_interval wsX1_in := goodIn_r _ [7] (by decide +kernel) (by decide +kernel)
set_option maxRecDepth 20000 in
theorem gX1_interval_X1_in : GoodIn wsX1_interval (va_wsS RX1 23 yX1_in wsX1_in) := goodIn_app (goodIn_of _ (by decide +kernel)) ggX1_interval_X1_in
set_option maxRecDepth 20000 in
theorem ggX1_interval_X1_goesWell : GoodIn wsX1_interval wsX1_goesWell := goodIn_r _ [11, 12, 25, 26, 27, 28, 29] (by decide +kernel) (by decide +kernel)
set_option maxRecDepth 20000 in
theorem gX1_interval_X1_goesWell : GoodIn wsX1_interval (wsV RX1 42 RX1 yX1_goesWell wsX1_goesWell) := goodIn_app (goodIn_of _ (by decide +kernel)) ggX1_interval_X1_goesWell
set_option maxRecDepth 20000 in
theorem ggX1_interval_X1_step : GoodIn wsX1_interval wsX1_step := goodIn_r _ [16, 17, 18, 19, 3, 20, 21, 22, 23, 24, 25, 26, 27, 28, 29] (by decide +kernel) (by decide +kernel)
set_option maxRecDepth 20000 in
theorem gX1_interval_X1_step : GoodIn wsX1_interval (wsV RX1 59 RX1 yX1_step wsX1_step) := goodIn_app (goodIn_of _ (by decide +kernel)) ggX1_interval_X1_step
set_option maxRecDepth 20000 in
theorem ggX1_hasAllIntervals_X1_isRow : GoodIn wsX1_hasAllIntervals wsX1_isRow := goodIn_r _ [4] (by decide +kernel) (by decide +kernel)
set_option maxRecDepth 20000 in
theorem gX1_hasAllIntervals_X1_isRow : GoodIn wsX1_hasAllIntervals (va_wsS RX1 39 yX1_isRow wsX1_isRow) := goodIn_app (goodIn_of _ (by decide +kernel)) ggX1_hasAllIntervals_X1_isRow
set_option maxRecDepth 20000 in
theorem ggX1_hasAllIntervals_X1_goesWell : GoodIn wsX1_hasAllIntervals wsX1_goesWell := goodIn_r _ [8, 9, 22, 23, 24, 25, 26] (by decide +kernel) (by decide +kernel)
set_option maxRecDepth 20000 in
theorem gX1_hasAllIntervals_X1_goesWell : GoodIn wsX1_hasAllIntervals (wsV RX1 42 RX1 yX1_goesWell wsX1_goesWell) := goodIn_app (goodIn_of _ (by decide +kernel)) ggX1_hasAllIntervals_X1_goesWell
set_option maxRecDepth 20000 in
theorem ggX1_hasAllIntervals_X1_step : GoodIn wsX1_hasAllIntervals wsX1_step := goodIn_r _ [13, 14, 15, 16, 3, 17, 18, 19, 20, 21, 22, 23, 24, 25, 26] (by decide +kernel) (by decide +kernel)
set_option maxRecDepth 20000 in
theorem gX1_hasAllIntervals_X1_step : GoodIn wsX1_hasAllIntervals (wsV RX1 59 RX1 yX1_step wsX1_step) := goodIn_app (goodIn_of _ (by decide +kernel)) ggX1_hasAllIntervals_X1_step
set_option maxRecDepth 20000 in
theorem ggX1_toneOf_X1_isRow : GoodIn wsX1_toneOf wsX1_isRow := goodIn_r _ [4] (by decide +kernel) (by decide +kernel)
set_option maxRecDepth 20000 in
theorem gX1_toneOf_X1_isRow : GoodIn wsX1_toneOf (va_wsS RX1 39 yX1_isRow wsX1_isRow) := goodIn_app (goodIn_of _ (by decide +kernel)) ggX1_toneOf_X1_isRow
set_option maxRecDepth 20000 in
theorem ggX1_toneOf_X1_isTone : GoodIn wsX1_toneOf wsX1_isTone := goodIn_r _ [7, 8, 9, 3, 10] (by decide +kernel) (by decide +kernel)
set_option maxRecDepth 20000 in
theorem gX1_toneOf_X1_isTone : GoodIn wsX1_toneOf (va_wsS RX1 27 yX1_isTone wsX1_isTone) := goodIn_app (goodIn_of _ (by decide +kernel)) ggX1_toneOf_X1_isTone
set_option maxRecDepth 20000 in
theorem ggX1_toneOf_X1_isForm : GoodIn wsX1_toneOf wsX1_isForm := goodIn_r _ [13, 8, 9, 3, 10, 5, 6, 7] (by decide +kernel) (by decide +kernel)
set_option maxRecDepth 20000 in
theorem gX1_toneOf_X1_isForm : GoodIn wsX1_toneOf (va_wsS RX1 45 yX1_isForm wsX1_isForm) := goodIn_app (goodIn_of _ (by decide +kernel)) ggX1_toneOf_X1_isForm
set_option maxRecDepth 20000 in
theorem ggX1_toneOf_X1_goesWell : GoodIn wsX1_toneOf wsX1_goesWell := goodIn_r _ [17, 18, 34, 35, 36, 37, 38] (by decide +kernel) (by decide +kernel)
set_option maxRecDepth 20000 in
theorem gX1_toneOf_X1_goesWell : GoodIn wsX1_toneOf (wsV RX1 42 RX1 yX1_goesWell wsX1_goesWell) := goodIn_app (goodIn_of _ (by decide +kernel)) ggX1_toneOf_X1_goesWell
set_option maxRecDepth 20000 in
theorem ggX1_toneOf_X1_codeOf : GoodIn wsX1_toneOf wsX1_codeOf := goodIn_r _ [21] (by decide +kernel) (by decide +kernel)
set_option maxRecDepth 20000 in
theorem gX1_toneOf_X1_codeOf : GoodIn wsX1_toneOf (va_wsS RX1 49 yX1_codeOf wsX1_codeOf) := goodIn_app (goodIn_of _ (by decide +kernel)) ggX1_toneOf_X1_codeOf
set_option maxRecDepth 20000 in
theorem ggX1_toneOf_X1_formAt : GoodIn wsX1_toneOf wsX1_formAt := goodIn_r _ [25, 26, 27, 28, 3, 29, 30, 31, 32, 33, 34, 35, 36, 37, 38] (by decide +kernel) (by decide +kernel)
set_option maxRecDepth 20000 in
theorem gX1_toneOf_X1_formAt : GoodIn wsX1_toneOf (wsV RX1 52 RX1 yX1_formAt wsX1_formAt) := goodIn_app (goodIn_of _ (by decide +kernel)) ggX1_toneOf_X1_formAt
set_option maxRecDepth 20000 in
theorem ggX1_matrix_X1_isRow : GoodIn wsX1_matrix wsX1_isRow := goodIn_r _ [4] (by decide +kernel) (by decide +kernel)
set_option maxRecDepth 20000 in
theorem gX1_matrix_X1_isRow : GoodIn wsX1_matrix (va_wsS RX1 39 yX1_isRow wsX1_isRow) := goodIn_app (goodIn_of _ (by decide +kernel)) ggX1_matrix_X1_isRow
set_option maxRecDepth 20000 in
theorem ggX1_matrix_X1_isTone : GoodIn wsX1_matrix wsX1_isTone := goodIn_r _ [7, 8, 9, 3, 10] (by decide +kernel) (by decide +kernel)
set_option maxRecDepth 20000 in
theorem gX1_matrix_X1_isTone : GoodIn wsX1_matrix (va_wsS RX1 27 yX1_isTone wsX1_isTone) := goodIn_app (goodIn_of _ (by decide +kernel)) ggX1_matrix_X1_isTone
set_option maxRecDepth 20000 in
theorem ggX1_matrix_X1_goesWell : GoodIn wsX1_matrix wsX1_goesWell := goodIn_r _ [14, 15, 31, 32, 33, 34, 35] (by decide +kernel) (by decide +kernel)
set_option maxRecDepth 20000 in
theorem gX1_matrix_X1_goesWell : GoodIn wsX1_matrix (wsV RX1 42 RX1 yX1_goesWell wsX1_goesWell) := goodIn_app (goodIn_of _ (by decide +kernel)) ggX1_matrix_X1_goesWell
set_option maxRecDepth 20000 in
theorem ggX1_matrix_X1_at : GoodIn wsX1_matrix wsX1_at := goodIn_r _ [19, 20, 31, 32, 33, 34, 35] (by decide +kernel) (by decide +kernel)
set_option maxRecDepth 20000 in
theorem gX1_matrix_X1_at : GoodIn wsX1_matrix (wsV RX1 31 RX1 yX1_at wsX1_at) := goodIn_app (goodIn_of _ (by decide +kernel)) ggX1_matrix_X1_at
set_option maxRecDepth 20000 in
theorem ggX1_matrix_X1_codeOf : GoodIn wsX1_matrix wsX1_codeOf := goodIn_r _ [23] (by decide +kernel) (by decide +kernel)
set_option maxRecDepth 20000 in
theorem gX1_matrix_X1_codeOf : GoodIn wsX1_matrix (va_wsS RX1 49 yX1_codeOf wsX1_codeOf) := goodIn_app (goodIn_of _ (by decide +kernel)) ggX1_matrix_X1_codeOf
set_option maxRecDepth 20000 in
theorem ggX1_matrix_X1_formAt : GoodIn wsX1_matrix wsX1_formAt := goodIn_r _ [27, 16, 17, 18, 3, 19, 20, 28, 29, 30, 31, 32, 33, 34, 35] (by decide +kernel) (by decide +kernel)
set_option maxRecDepth 20000 in
theorem gX1_matrix_X1_formAt : GoodIn wsX1_matrix (wsV RX1 52 RX1 yX1_formAt wsX1_formAt) := goodIn_app (goodIn_of _ (by decide +kernel)) ggX1_matrix_X1_formAt
set_option maxRecDepth 20000 in
theorem ggX1_areSame_X1_formAt : GoodIn wsX1_areSame wsX1_formAt := goodIn_r _ [5, 6, 7, 8, 4, 9, 10, 11, 12, 13, 14, 15, 16, 17, 18] (by decide +kernel) (by decide +kernel)
set_option maxRecDepth 20000 in
theorem gX1_areSame_X1_formAt : GoodIn wsX1_areSame (wsV RX1 52 RX1 yX1_formAt wsX1_formAt) := goodIn_app (goodIn_of _ (by decide +kernel)) ggX1_areSame_X1_formAt
set_option maxRecDepth 20000 in
theorem ggX1_differentForms_X1_isRow : GoodIn wsX1_differentForms wsX1_isRow := goodIn_r _ [4] (by decide +kernel) (by decide +kernel)
set_option maxRecDepth 20000 in
theorem gX1_differentForms_X1_isRow : GoodIn wsX1_differentForms (va_wsS RX1 39 yX1_isRow wsX1_isRow) := goodIn_app (goodIn_of _ (by decide +kernel)) ggX1_differentForms_X1_isRow
set_option maxRecDepth 20000 in
theorem ggX1_differentForms_X1_goesWell : GoodIn wsX1_differentForms wsX1_goesWell := goodIn_r _ [8, 9, 26, 27, 28, 29, 30] (by decide +kernel) (by decide +kernel)
set_option maxRecDepth 20000 in
theorem gX1_differentForms_X1_goesWell : GoodIn wsX1_differentForms (wsV RX1 42 RX1 yX1_goesWell wsX1_goesWell) := goodIn_app (goodIn_of _ (by decide +kernel)) ggX1_differentForms_X1_goesWell
set_option maxRecDepth 20000 in
theorem ggX1_differentForms_X1_areSame : GoodIn wsX1_differentForms wsX1_areSame := goodIn_r _ [13, 14, 15, 16, 3, 17, 18, 19, 20, 21, 22, 23, 24, 25, 26, 27, 28, 29, 30] (by decide +kernel) (by decide +kernel)
set_option maxRecDepth 20000 in
theorem gX1_differentForms_X1_areSame : GoodIn wsX1_differentForms (wsV RX1 62 RX1 yX1_areSame wsX1_areSame) := goodIn_app (goodIn_of _ (by decide +kernel)) ggX1_differentForms_X1_areSame
set_option maxRecDepth 20000 in
theorem ggX1_formOfOther_X1_isRow : GoodIn wsX1_formOfOther wsX1_isRow := goodIn_r _ [4] (by decide +kernel) (by decide +kernel)
set_option maxRecDepth 20000 in
theorem gX1_formOfOther_X1_isRow : GoodIn wsX1_formOfOther (va_wsS RX1 39 yX1_isRow wsX1_isRow) := goodIn_app (goodIn_of _ (by decide +kernel)) ggX1_formOfOther_X1_isRow
set_option maxRecDepth 20000 in
theorem ggX1_formOfOther_X1_goesWell : GoodIn wsX1_formOfOther wsX1_goesWell := goodIn_r _ [8, 9, 22, 23, 24, 25, 26] (by decide +kernel) (by decide +kernel)
set_option maxRecDepth 20000 in
theorem gX1_formOfOther_X1_goesWell : GoodIn wsX1_formOfOther (wsV RX1 42 RX1 yX1_goesWell wsX1_goesWell) := goodIn_app (goodIn_of _ (by decide +kernel)) ggX1_formOfOther_X1_goesWell
set_option maxRecDepth 20000 in
theorem ggX1_formOfOther_X1_formAt : GoodIn wsX1_formOfOther wsX1_formAt := goodIn_r _ [13, 14, 15, 16, 3, 17, 18, 19, 20, 21, 22, 23, 24, 25, 26] (by decide +kernel) (by decide +kernel)
set_option maxRecDepth 20000 in
theorem gX1_formOfOther_X1_formAt : GoodIn wsX1_formOfOther (wsV RX1 52 RX1 yX1_formAt wsX1_formAt) := goodIn_app (goodIn_of _ (by decide +kernel)) ggX1_formOfOther_X1_formAt
set_option maxRecDepth 20000 in
theorem ggX1_formOfOther_X1_at : GoodIn wsX1_formOfOther wsX1_at := goodIn_r _ [17, 18, 22, 23, 24, 25, 26] (by decide +kernel) (by decide +kernel)
set_option maxRecDepth 20000 in
theorem gX1_formOfOther_X1_at : GoodIn wsX1_formOfOther (wsV RX1 31 RX1 yX1_at wsX1_at) := goodIn_app (goodIn_of _ (by decide +kernel)) ggX1_formOfOther_X1_at
set_option maxRecDepth 20000 in
theorem ggX1_setOf_X1_formAt : GoodIn wsX1_setOf wsX1_formAt := goodIn_r _ [5, 6, 7, 8, 4, 9, 10, 11, 12, 13, 14, 15, 16, 17, 18] (by decide +kernel) (by decide +kernel)
set_option maxRecDepth 20000 in
theorem gX1_setOf_X1_formAt : GoodIn wsX1_setOf (wsV RX1 52 RX1 yX1_formAt wsX1_formAt) := goodIn_app (goodIn_of _ (by decide +kernel)) ggX1_setOf_X1_formAt
set_option maxRecDepth 20000 in
theorem ggX1_itself_X1_at : GoodIn wsX1_itself wsX1_at := goodIn_r _ [5, 6, 10, 11, 12, 13, 14] (by decide +kernel) (by decide +kernel)
set_option maxRecDepth 20000 in
theorem gX1_itself_X1_at : GoodIn wsX1_itself (wsV RX1 31 RX1 yX1_at wsX1_at) := goodIn_app (goodIn_of _ (by decide +kernel)) ggX1_itself_X1_at
set_option maxRecDepth 20000 in
theorem ggX1_itself_X1_codeOf : GoodIn wsX1_itself wsX1_codeOf := goodIn_r _ [9] (by decide +kernel) (by decide +kernel)
set_option maxRecDepth 20000 in
theorem gX1_itself_X1_codeOf : GoodIn wsX1_itself (va_wsS RX1 49 yX1_codeOf wsX1_codeOf) := goodIn_app (goodIn_of _ (by decide +kernel)) ggX1_itself_X1_codeOf
set_option maxRecDepth 20000 in
theorem ggX1_segment_X1_in : GoodIn wsX1_segment wsX1_in := goodIn_r _ [4] (by decide +kernel) (by decide +kernel)
set_option maxRecDepth 20000 in
theorem gX1_segment_X1_in : GoodIn wsX1_segment (va_wsS RX1 23 yX1_in wsX1_in) := goodIn_app (goodIn_of _ (by decide +kernel)) ggX1_segment_X1_in
set_option maxRecDepth 20000 in
theorem ggX1_segment_X1_isRow : GoodIn wsX1_segment wsX1_isRow := goodIn_r _ [7] (by decide +kernel) (by decide +kernel)
set_option maxRecDepth 20000 in
theorem gX1_segment_X1_isRow : GoodIn wsX1_segment (va_wsS RX1 39 yX1_isRow wsX1_isRow) := goodIn_app (goodIn_of _ (by decide +kernel)) ggX1_segment_X1_isRow
set_option maxRecDepth 20000 in
theorem ggX1_segment_X1_isTone : GoodIn wsX1_segment wsX1_isTone := goodIn_r _ [10, 1, 2, 3, 4] (by decide +kernel) (by decide +kernel)
set_option maxRecDepth 20000 in
theorem gX1_segment_X1_isTone : GoodIn wsX1_segment (va_wsS RX1 27 yX1_isTone wsX1_isTone) := goodIn_app (goodIn_of _ (by decide +kernel)) ggX1_segment_X1_isTone
set_option maxRecDepth 20000 in
theorem ggX1_segment_X1_goesWell : GoodIn wsX1_segment wsX1_goesWell := goodIn_r _ [14, 15, 39, 40, 41, 42, 43] (by decide +kernel) (by decide +kernel)
set_option maxRecDepth 20000 in
theorem gX1_segment_X1_goesWell : GoodIn wsX1_segment (wsV RX1 42 RX1 yX1_goesWell wsX1_goesWell) := goodIn_app (goodIn_of _ (by decide +kernel)) ggX1_segment_X1_goesWell
set_option maxRecDepth 20000 in
theorem ggX1_segment_X1_itself : GoodIn wsX1_segment wsX1_itself := goodIn_r _ [19, 20, 21, 22, 3, 23, 24, 25, 26, 27, 39, 40, 41, 42, 43] (by decide +kernel) (by decide +kernel)
set_option maxRecDepth 20000 in
theorem gX1_segment_X1_itself : GoodIn wsX1_segment (wsV RX1 65 RX1 yX1_itself wsX1_itself) := goodIn_app (goodIn_of _ (by decide +kernel)) ggX1_segment_X1_itself
set_option maxRecDepth 20000 in
theorem ggX1_segment_X1_setOf : GoodIn wsX1_segment wsX1_setOf := goodIn_r _ [31, 32, 33, 34, 3, 35, 20, 21, 22, 23, 24, 36, 37, 38, 39, 40, 41, 42, 43] (by decide +kernel) (by decide +kernel)
set_option maxRecDepth 20000 in
theorem gX1_segment_X1_setOf : GoodIn wsX1_segment (wsV RX1 68 RX1 yX1_setOf wsX1_setOf) := goodIn_app (goodIn_of _ (by decide +kernel)) ggX1_segment_X1_setOf
set_option maxRecDepth 20000 in
theorem ggX1_moved_X1_modulo : GoodIn wsX1_moved wsX1_modulo := goodIn_r _ [4] (by decide +kernel) (by decide +kernel)
set_option maxRecDepth 20000 in
theorem gX1_moved_X1_modulo : GoodIn wsX1_moved (va_wsS RX1 35 yX1_modulo wsX1_modulo) := goodIn_app (goodIn_of _ (by decide +kernel)) ggX1_moved_X1_modulo
set_option maxRecDepth 20000 in
theorem ggX1_least_X1_moved : GoodIn wsX1_least wsX1_moved := goodIn_r _ [4, 5, 6, 3, 7] (by decide +kernel) (by decide +kernel)
set_option maxRecDepth 20000 in
theorem gX1_least_X1_moved : GoodIn wsX1_least (va_wsS RX1 72 yX1_moved wsX1_moved) := goodIn_app (goodIn_of _ (by decide +kernel)) ggX1_least_X1_moved
set_option maxRecDepth 20000 in
theorem ggX1_classOf_X1_in : GoodIn wsX1_classOf wsX1_in := goodIn_r _ [4] (by decide +kernel) (by decide +kernel)
set_option maxRecDepth 20000 in
theorem gX1_classOf_X1_in : GoodIn wsX1_classOf (va_wsS RX1 23 yX1_in wsX1_in) := goodIn_app (goodIn_of _ (by decide +kernel)) ggX1_classOf_X1_in
set_option maxRecDepth 20000 in
theorem ggX1_classOf_X1_goesWell : GoodIn wsX1_classOf wsX1_goesWell := goodIn_r _ [8, 9, 19, 20, 21, 22, 23] (by decide +kernel) (by decide +kernel)
set_option maxRecDepth 20000 in
theorem gX1_classOf_X1_goesWell : GoodIn wsX1_classOf (wsV RX1 42 RX1 yX1_goesWell wsX1_goesWell) := goodIn_app (goodIn_of _ (by decide +kernel)) ggX1_classOf_X1_goesWell
set_option maxRecDepth 20000 in
theorem ggX1_classOf_X1_least : GoodIn wsX1_classOf wsX1_least := goodIn_r _ [12, 13, 14, 3, 15, 16, 17, 18] (by decide +kernel) (by decide +kernel)
set_option maxRecDepth 20000 in
theorem gX1_classOf_X1_least : GoodIn wsX1_classOf (va_wsS RX1 76 yX1_least wsX1_least) := goodIn_app (goodIn_of _ (by decide +kernel)) ggX1_classOf_X1_least
set_option maxRecDepth 20000 in
theorem ggX1_pairs_X1_in : GoodIn wsX1_pairs wsX1_in := goodIn_r _ [4] (by decide +kernel) (by decide +kernel)
set_option maxRecDepth 20000 in
theorem gX1_pairs_X1_in : GoodIn wsX1_pairs (va_wsS RX1 23 yX1_in wsX1_in) := goodIn_app (goodIn_of _ (by decide +kernel)) ggX1_pairs_X1_in
set_option maxRecDepth 20000 in
theorem ggX1_pairs_X1_goesWell : GoodIn wsX1_pairs wsX1_goesWell := goodIn_r _ [8, 9, 10, 11, 12, 13, 14] (by decide +kernel) (by decide +kernel)
set_option maxRecDepth 20000 in
theorem gX1_pairs_X1_goesWell : GoodIn wsX1_pairs (wsV RX1 42 RX1 yX1_goesWell wsX1_goesWell) := goodIn_app (goodIn_of _ (by decide +kernel)) ggX1_pairs_X1_goesWell
set_option maxRecDepth 20000 in
theorem ggX1_combining_X1_isRow : GoodIn wsX1_combining wsX1_isRow := goodIn_r _ [4] (by decide +kernel) (by decide +kernel)
set_option maxRecDepth 20000 in
theorem gX1_combining_X1_isRow : GoodIn wsX1_combining (va_wsS RX1 39 yX1_isRow wsX1_isRow) := goodIn_app (goodIn_of _ (by decide +kernel)) ggX1_combining_X1_isRow
set_option maxRecDepth 20000 in
theorem ggX1_combining_X1_goesWell : GoodIn wsX1_combining wsX1_goesWell := goodIn_r _ [8, 9, 33, 34, 35, 36, 37] (by decide +kernel) (by decide +kernel)
set_option maxRecDepth 20000 in
theorem gX1_combining_X1_goesWell : GoodIn wsX1_combining (wsV RX1 42 RX1 yX1_goesWell wsX1_goesWell) := goodIn_app (goodIn_of _ (by decide +kernel)) ggX1_combining_X1_goesWell
set_option maxRecDepth 20000 in
theorem ggX1_combining_X1_itself : GoodIn wsX1_combining wsX1_itself := goodIn_r _ [13, 14, 15, 16, 3, 17, 18, 19, 20, 21, 33, 34, 35, 36, 37] (by decide +kernel) (by decide +kernel)
set_option maxRecDepth 20000 in
theorem gX1_combining_X1_itself : GoodIn wsX1_combining (wsV RX1 65 RX1 yX1_itself wsX1_itself) := goodIn_app (goodIn_of _ (by decide +kernel)) ggX1_combining_X1_itself
set_option maxRecDepth 20000 in
theorem ggX1_combining_X1_setOf : GoodIn wsX1_combining wsX1_setOf := goodIn_r _ [25, 26, 27, 28, 3, 29, 14, 15, 16, 17, 18, 30, 31, 32, 33, 34, 35, 36, 37] (by decide +kernel) (by decide +kernel)
set_option maxRecDepth 20000 in
theorem gX1_combining_X1_setOf : GoodIn wsX1_combining (wsV RX1 68 RX1 yX1_setOf wsX1_setOf) := goodIn_app (goodIn_of _ (by decide +kernel)) ggX1_combining_X1_setOf
set_option maxRecDepth 20000 in
theorem ggX1_isDerived_X1_in : GoodIn wsX1_isDerived wsX1_in := goodIn_r _ [4] (by decide +kernel) (by decide +kernel)
set_option maxRecDepth 20000 in
theorem gX1_isDerived_X1_in : GoodIn wsX1_isDerived (va_wsS RX1 23 yX1_in wsX1_in) := goodIn_app (goodIn_of _ (by decide +kernel)) ggX1_isDerived_X1_in
set_option maxRecDepth 20000 in
theorem ggX1_isDerived_X1_isRow : GoodIn wsX1_isDerived wsX1_isRow := goodIn_r _ [7] (by decide +kernel) (by decide +kernel)
set_option maxRecDepth 20000 in
theorem gX1_isDerived_X1_isRow : GoodIn wsX1_isDerived (va_wsS RX1 39 yX1_isRow wsX1_isRow) := goodIn_app (goodIn_of _ (by decide +kernel)) ggX1_isDerived_X1_isRow
set_option maxRecDepth 20000 in
theorem ggX1_isDerived_X1_goesWell : GoodIn wsX1_isDerived wsX1_goesWell := goodIn_r _ [11, 12, 42, 43, 44, 45, 46] (by decide +kernel) (by decide +kernel)
set_option maxRecDepth 20000 in
theorem gX1_isDerived_X1_goesWell : GoodIn wsX1_isDerived (wsV RX1 42 RX1 yX1_goesWell wsX1_goesWell) := goodIn_app (goodIn_of _ (by decide +kernel)) ggX1_isDerived_X1_goesWell
set_option maxRecDepth 20000 in
theorem ggX1_isDerived_X1_itself : GoodIn wsX1_isDerived wsX1_itself := goodIn_r _ [16, 17, 18, 19, 3, 20, 21, 22, 23, 24, 42, 43, 44, 45, 46] (by decide +kernel) (by decide +kernel)
set_option maxRecDepth 20000 in
theorem gX1_isDerived_X1_itself : GoodIn wsX1_isDerived (wsV RX1 65 RX1 yX1_itself wsX1_itself) := goodIn_app (goodIn_of _ (by decide +kernel)) ggX1_isDerived_X1_itself
set_option maxRecDepth 20000 in
theorem ggX1_isDerived_X1_setOf : GoodIn wsX1_isDerived wsX1_setOf := goodIn_r _ [28, 29, 30, 31, 3, 32, 17, 18, 19, 20, 21, 33, 34, 35, 42, 43, 44, 45, 46] (by decide +kernel) (by decide +kernel)
set_option maxRecDepth 20000 in
theorem gX1_isDerived_X1_setOf : GoodIn wsX1_isDerived (wsV RX1 68 RX1 yX1_setOf wsX1_setOf) := goodIn_app (goodIn_of _ (by decide +kernel)) ggX1_isDerived_X1_setOf
set_option maxRecDepth 20000 in
theorem ggX1_isDerived_X1_least : GoodIn wsX1_isDerived wsX1_least := goodIn_r _ [38, 39, 40, 3, 41, 33, 34, 35] (by decide +kernel) (by decide +kernel)
set_option maxRecDepth 20000 in
theorem gX1_isDerived_X1_least : GoodIn wsX1_isDerived (va_wsS RX1 76 yX1_least wsX1_least) := goodIn_app (goodIn_of _ (by decide +kernel)) ggX1_isDerived_X1_least
set_option maxRecDepth 20000 in
theorem ggX1_setsKept_X1_setOf : GoodIn wsX1_setsKept wsX1_setOf := goodIn_r _ [5, 6, 7, 8, 4, 9, 10, 11, 12, 13, 14, 15, 16, 17, 25, 26, 27, 28, 29] (by decide +kernel) (by decide +kernel)
set_option maxRecDepth 20000 in
theorem gX1_setsKept_X1_setOf : GoodIn wsX1_setsKept (wsV RX1 68 RX1 yX1_setOf wsX1_setOf) := goodIn_app (goodIn_of _ (by decide +kernel)) ggX1_setsKept_X1_setOf
set_option maxRecDepth 20000 in
theorem ggX1_setsKept_X1_itself : GoodIn wsX1_setsKept wsX1_itself := goodIn_r _ [21, 10, 11, 12, 4, 13, 14, 22, 23, 24, 25, 26, 27, 28, 29] (by decide +kernel) (by decide +kernel)
set_option maxRecDepth 20000 in
theorem gX1_setsKept_X1_itself : GoodIn wsX1_setsKept (wsV RX1 65 RX1 yX1_itself wsX1_itself) := goodIn_app (goodIn_of _ (by decide +kernel)) ggX1_setsKept_X1_itself
set_option maxRecDepth 20000 in
theorem ggX1_keptSets_X1_isForm : GoodIn wsX1_keptSets wsX1_isForm := goodIn_r _ [4, 5, 6, 3, 7, 8, 9, 10] (by decide +kernel) (by decide +kernel)
set_option maxRecDepth 20000 in
theorem gX1_keptSets_X1_isForm : GoodIn wsX1_keptSets (va_wsS RX1 45 yX1_isForm wsX1_isForm) := goodIn_app (goodIn_of _ (by decide +kernel)) ggX1_keptSets_X1_isForm
set_option maxRecDepth 20000 in
theorem ggX1_keptSets_X1_in : GoodIn wsX1_keptSets wsX1_in := goodIn_r _ [7] (by decide +kernel) (by decide +kernel)
set_option maxRecDepth 20000 in
theorem gX1_keptSets_X1_in : GoodIn wsX1_keptSets (va_wsS RX1 23 yX1_in wsX1_in) := goodIn_app (goodIn_of _ (by decide +kernel)) ggX1_keptSets_X1_in
set_option maxRecDepth 20000 in
theorem ggX1_keptSets_X1_isRow : GoodIn wsX1_keptSets wsX1_isRow := goodIn_r _ [13] (by decide +kernel) (by decide +kernel)
set_option maxRecDepth 20000 in
theorem gX1_keptSets_X1_isRow : GoodIn wsX1_keptSets (va_wsS RX1 39 yX1_isRow wsX1_isRow) := goodIn_app (goodIn_of _ (by decide +kernel)) ggX1_keptSets_X1_isRow
set_option maxRecDepth 20000 in
theorem ggX1_keptSets_X1_goesWell : GoodIn wsX1_keptSets wsX1_goesWell := goodIn_r _ [17, 18, 46, 47, 48, 49, 50] (by decide +kernel) (by decide +kernel)
set_option maxRecDepth 20000 in
theorem gX1_keptSets_X1_goesWell : GoodIn wsX1_keptSets (wsV RX1 42 RX1 yX1_goesWell wsX1_goesWell) := goodIn_app (goodIn_of _ (by decide +kernel)) ggX1_keptSets_X1_goesWell
set_option maxRecDepth 20000 in
theorem ggX1_keptSets_X1_codeOf : GoodIn wsX1_keptSets wsX1_codeOf := goodIn_r _ [21] (by decide +kernel) (by decide +kernel)
set_option maxRecDepth 20000 in
theorem gX1_keptSets_X1_codeOf : GoodIn wsX1_keptSets (va_wsS RX1 49 yX1_codeOf wsX1_codeOf) := goodIn_app (goodIn_of _ (by decide +kernel)) ggX1_keptSets_X1_codeOf
set_option maxRecDepth 20000 in
theorem ggX1_keptSets_X1_setsKept : GoodIn wsX1_keptSets wsX1_setsKept := goodIn_r _ [25, 26, 27, 28, 3, 29, 30, 31, 32, 33, 34, 35, 36, 37, 38, 39, 40, 41, 42, 43, 44, 45, 19, 20, 21, 46, 47, 48, 49, 50] (by decide +kernel) (by decide +kernel)
set_option maxRecDepth 20000 in
theorem gX1_keptSets_X1_setsKept : GoodIn wsX1_keptSets (wsV RX1 79 RX1 yX1_setsKept wsX1_setsKept) := goodIn_app (goodIn_of _ (by decide +kernel)) ggX1_keptSets_X1_setsKept
set_option maxRecDepth 20000 in
theorem ggX1_same_X1_at : GoodIn wsX1_same wsX1_at := goodIn_r _ [5, 6, 14, 15, 16, 17, 18] (by decide +kernel) (by decide +kernel)
set_option maxRecDepth 20000 in
theorem gX1_same_X1_at : GoodIn wsX1_same (wsV RX1 31 RX1 yX1_at wsX1_at) := goodIn_app (goodIn_of _ (by decide +kernel)) ggX1_same_X1_at
set_option maxRecDepth 20000 in
theorem ggX1_same_X1_formAt : GoodIn wsX1_same wsX1_formAt := goodIn_r _ [10, 1, 2, 3, 4, 5, 6, 11, 12, 13, 14, 15, 16, 17, 18] (by decide +kernel) (by decide +kernel)
set_option maxRecDepth 20000 in
theorem gX1_same_X1_formAt : GoodIn wsX1_same (wsV RX1 52 RX1 yX1_formAt wsX1_formAt) := goodIn_app (goodIn_of _ (by decide +kernel)) ggX1_same_X1_formAt
set_option maxRecDepth 20000 in
theorem ggX1_longestKept_X1_isRow : GoodIn wsX1_longestKept wsX1_isRow := goodIn_r _ [4] (by decide +kernel) (by decide +kernel)
set_option maxRecDepth 20000 in
theorem gX1_longestKept_X1_isRow : GoodIn wsX1_longestKept (va_wsS RX1 39 yX1_isRow wsX1_isRow) := goodIn_app (goodIn_of _ (by decide +kernel)) ggX1_longestKept_X1_isRow
set_option maxRecDepth 20000 in
theorem ggX1_longestKept_X1_isForm : GoodIn wsX1_longestKept wsX1_isForm := goodIn_r _ [7, 8, 9, 3, 10, 11, 12, 13] (by decide +kernel) (by decide +kernel)
set_option maxRecDepth 20000 in
theorem gX1_longestKept_X1_isForm : GoodIn wsX1_longestKept (va_wsS RX1 45 yX1_isForm wsX1_isForm) := goodIn_app (goodIn_of _ (by decide +kernel)) ggX1_longestKept_X1_isForm
set_option maxRecDepth 20000 in
theorem ggX1_longestKept_X1_goesWell : GoodIn wsX1_longestKept wsX1_goesWell := goodIn_r _ [17, 18, 38, 39, 40, 41, 42] (by decide +kernel) (by decide +kernel)
set_option maxRecDepth 20000 in
theorem gX1_longestKept_X1_goesWell : GoodIn wsX1_longestKept (wsV RX1 42 RX1 yX1_goesWell wsX1_goesWell) := goodIn_app (goodIn_of _ (by decide +kernel)) ggX1_longestKept_X1_goesWell
set_option maxRecDepth 20000 in
theorem ggX1_longestKept_X1_codeOf : GoodIn wsX1_longestKept wsX1_codeOf := goodIn_r _ [21] (by decide +kernel) (by decide +kernel)
set_option maxRecDepth 20000 in
theorem gX1_longestKept_X1_codeOf : GoodIn wsX1_longestKept (va_wsS RX1 49 yX1_codeOf wsX1_codeOf) := goodIn_app (goodIn_of _ (by decide +kernel)) ggX1_longestKept_X1_codeOf
set_option maxRecDepth 20000 in
theorem ggX1_longestKept_X1_same : GoodIn wsX1_longestKept wsX1_same := goodIn_r _ [25, 26, 27, 28, 3, 29, 30, 31, 32, 33, 34, 35, 36, 37, 38, 39, 40, 41, 42] (by decide +kernel) (by decide +kernel)
set_option maxRecDepth 20000 in
theorem gX1_longestKept_X1_same : GoodIn wsX1_longestKept (wsV RX1 82 RX1 yX1_same wsX1_same) := goodIn_app (goodIn_of _ (by decide +kernel)) ggX1_longestKept_X1_same
set_option maxRecDepth 20000 in
theorem ggX1_mostKept_X1_isRow : GoodIn wsX1_mostKept wsX1_isRow := goodIn_r _ [4] (by decide +kernel) (by decide +kernel)
set_option maxRecDepth 20000 in
theorem gX1_mostKept_X1_isRow : GoodIn wsX1_mostKept (va_wsS RX1 39 yX1_isRow wsX1_isRow) := goodIn_app (goodIn_of _ (by decide +kernel)) ggX1_mostKept_X1_isRow
set_option maxRecDepth 20000 in
theorem ggX1_mostKept_X1_in : GoodIn wsX1_mostKept wsX1_in := goodIn_r _ [7] (by decide +kernel) (by decide +kernel)
set_option maxRecDepth 20000 in
theorem gX1_mostKept_X1_in : GoodIn wsX1_mostKept (va_wsS RX1 23 yX1_in wsX1_in) := goodIn_app (goodIn_of _ (by decide +kernel)) ggX1_mostKept_X1_in
set_option maxRecDepth 20000 in
theorem ggX1_mostKept_X1_goesWell : GoodIn wsX1_mostKept wsX1_goesWell := goodIn_r _ [11, 12, 40, 41, 42, 43, 44] (by decide +kernel) (by decide +kernel)
set_option maxRecDepth 20000 in
theorem gX1_mostKept_X1_goesWell : GoodIn wsX1_mostKept (wsV RX1 42 RX1 yX1_goesWell wsX1_goesWell) := goodIn_app (goodIn_of _ (by decide +kernel)) ggX1_mostKept_X1_goesWell
set_option maxRecDepth 20000 in
theorem ggX1_mostKept_X1_itself : GoodIn wsX1_mostKept wsX1_itself := goodIn_r _ [16, 17, 18, 19, 3, 20, 21, 22, 23, 24, 40, 41, 42, 43, 44] (by decide +kernel) (by decide +kernel)
set_option maxRecDepth 20000 in
theorem gX1_mostKept_X1_itself : GoodIn wsX1_mostKept (wsV RX1 65 RX1 yX1_itself wsX1_itself) := goodIn_app (goodIn_of _ (by decide +kernel)) ggX1_mostKept_X1_itself
set_option maxRecDepth 20000 in
theorem ggX1_mostKept_X1_setsKept : GoodIn wsX1_mostKept wsX1_setsKept := goodIn_r _ [28, 29, 30, 31, 3, 32, 33, 34, 35, 36, 17, 18, 19, 20, 21, 37, 38, 39, 13, 14, 15, 16, 22, 23, 24, 40, 41, 42, 43, 44] (by decide +kernel) (by decide +kernel)
set_option maxRecDepth 20000 in
theorem gX1_mostKept_X1_setsKept : GoodIn wsX1_mostKept (wsV RX1 79 RX1 yX1_setsKept wsX1_setsKept) := goodIn_app (goodIn_of _ (by decide +kernel)) ggX1_mostKept_X1_setsKept
set_option maxRecDepth 20000 in
theorem ggX1_isCode_X1_in : GoodIn wsX1_isCode wsX1_in := goodIn_r _ [4] (by decide +kernel) (by decide +kernel)
set_option maxRecDepth 20000 in
theorem gX1_isCode_X1_in : GoodIn wsX1_isCode (va_wsS RX1 23 yX1_in wsX1_in) := goodIn_app (goodIn_of _ (by decide +kernel)) ggX1_isCode_X1_in
set_option maxRecDepth 20000 in
theorem ggX1_cuts_X1_isCode : GoodIn wsX1_cuts wsX1_isCode := goodIn_r _ [4, 5, 6, 3, 7] (by decide +kernel) (by decide +kernel)
set_option maxRecDepth 20000 in
theorem gX1_cuts_X1_isCode : GoodIn wsX1_cuts (va_wsS RX1 85 yX1_isCode wsX1_isCode) := goodIn_app (goodIn_of _ (by decide +kernel)) ggX1_cuts_X1_isCode
set_option maxRecDepth 20000 in
theorem ggX1_cuts_X1_goesWell : GoodIn wsX1_cuts wsX1_goesWell := goodIn_r _ [11, 12, 29, 30, 31, 32, 33] (by decide +kernel) (by decide +kernel)
set_option maxRecDepth 20000 in
theorem gX1_cuts_X1_goesWell : GoodIn wsX1_cuts (wsV RX1 42 RX1 yX1_goesWell wsX1_goesWell) := goodIn_app (goodIn_of _ (by decide +kernel)) ggX1_cuts_X1_goesWell
set_option maxRecDepth 20000 in
theorem ggX1_cuts_X1_setOf : GoodIn wsX1_cuts wsX1_setOf := goodIn_r _ [16, 17, 18, 19, 3, 20, 21, 22, 23, 24, 25, 26, 27, 28, 29, 30, 31, 32, 33] (by decide +kernel) (by decide +kernel)
set_option maxRecDepth 20000 in
theorem gX1_cuts_X1_setOf : GoodIn wsX1_cuts (wsV RX1 68 RX1 yX1_setOf wsX1_setOf) := goodIn_app (goodIn_of _ (by decide +kernel)) ggX1_cuts_X1_setOf
set_option maxRecDepth 20000 in
theorem ggX1_write_X1_isTone : GoodIn wsX1_write wsX1_isTone := goodIn_r _ [6, 7, 8, 5, 9] (by decide +kernel) (by decide +kernel)
set_option maxRecDepth 20000 in
theorem gX1_write_X1_isTone : GoodIn wsX1_write (va_wsS RX1 27 yX1_isTone wsX1_isTone) := goodIn_app (goodIn_of _ (by decide +kernel)) ggX1_write_X1_isTone
set_option maxRecDepth 20000 in
theorem ggX1_write_X1_isWritten : GoodIn wsX1_write wsX1_isWritten := goodIn_r _ [13, 2, 1, 19, 20, 21, 22, 23] (by decide +kernel) (by decide +kernel)
set_option maxRecDepth 20000 in
theorem gX1_write_X1_isWritten : GoodIn wsX1_write (wsV RX1 91 RX1 yX1_isWritten wsX1_isWritten) := goodIn_app (goodIn_of _ (by decide +kernel)) ggX1_write_X1_isWritten
set_option maxRecDepth 20000 in
theorem ggX1_write_X1_goesWell : GoodIn wsX1_write wsX1_goesWell := goodIn_r _ [17, 18, 19, 20, 21, 22, 23] (by decide +kernel) (by decide +kernel)
set_option maxRecDepth 20000 in
theorem gX1_write_X1_goesWell : GoodIn wsX1_write (wsV RX1 42 RX1 yX1_goesWell wsX1_goesWell) := goodIn_app (goodIn_of _ (by decide +kernel)) ggX1_write_X1_goesWell
set_option maxRecDepth 20000 in
theorem ggX1_placeIn_X1_formAt : GoodIn wsX1_placeIn wsX1_formAt := goodIn_r _ [7, 8, 9, 10, 6, 11, 12, 13, 14, 15, 16, 17, 18, 19, 20] (by decide +kernel) (by decide +kernel)
set_option maxRecDepth 20000 in
theorem gX1_placeIn_X1_formAt : GoodIn wsX1_placeIn (wsV RX1 52 RX1 yX1_formAt wsX1_formAt) := goodIn_app (goodIn_of _ (by decide +kernel)) ggX1_placeIn_X1_formAt
set_option maxRecDepth 20000 in
theorem ggX1_formsWithPhrase_X1_isRow : GoodIn wsX1_formsWithPhrase wsX1_isRow := goodIn_r _ [4] (by decide +kernel) (by decide +kernel)
set_option maxRecDepth 20000 in
theorem gX1_formsWithPhrase_X1_isRow : GoodIn wsX1_formsWithPhrase (va_wsS RX1 39 yX1_isRow wsX1_isRow) := goodIn_app (goodIn_of _ (by decide +kernel)) ggX1_formsWithPhrase_X1_isRow
set_option maxRecDepth 20000 in
theorem ggX1_formsWithPhrase_X1_goesWell : GoodIn wsX1_formsWithPhrase wsX1_goesWell := goodIn_r _ [8, 9, 28, 29, 30, 31, 32] (by decide +kernel) (by decide +kernel)
set_option maxRecDepth 20000 in
theorem gX1_formsWithPhrase_X1_goesWell : GoodIn wsX1_formsWithPhrase (wsV RX1 42 RX1 yX1_goesWell wsX1_goesWell) := goodIn_app (goodIn_of _ (by decide +kernel)) ggX1_formsWithPhrase_X1_goesWell
set_option maxRecDepth 20000 in
theorem ggX1_formsWithPhrase_X1_placeIn : GoodIn wsX1_formsWithPhrase wsX1_placeIn := goodIn_r _ [13, 14, 15, 16, 17, 18, 3, 19, 20, 21, 22, 23, 24, 25, 26, 27, 28, 29, 30, 31, 32] (by decide +kernel) (by decide +kernel)
set_option maxRecDepth 20000 in
theorem gX1_formsWithPhrase_X1_placeIn : GoodIn wsX1_formsWithPhrase (wsV RX1 94 RX1 yX1_placeIn wsX1_placeIn) := goodIn_app (goodIn_of _ (by decide +kernel)) ggX1_formsWithPhrase_X1_placeIn
set_option maxRecDepth 20000 in
theorem ggX1_placeOfPhrase_X1_isRow : GoodIn wsX1_placeOfPhrase wsX1_isRow := goodIn_r _ [5] (by decide +kernel) (by decide +kernel)
set_option maxRecDepth 20000 in
theorem gX1_placeOfPhrase_X1_isRow : GoodIn wsX1_placeOfPhrase (va_wsS RX1 39 yX1_isRow wsX1_isRow) := goodIn_app (goodIn_of _ (by decide +kernel)) ggX1_placeOfPhrase_X1_isRow
set_option maxRecDepth 20000 in
theorem ggX1_placeOfPhrase_X1_isCode : GoodIn wsX1_placeOfPhrase wsX1_isCode := goodIn_r _ [8, 9, 10, 4, 11] (by decide +kernel) (by decide +kernel)
set_option maxRecDepth 20000 in
theorem gX1_placeOfPhrase_X1_isCode : GoodIn wsX1_placeOfPhrase (va_wsS RX1 85 yX1_isCode wsX1_isCode) := goodIn_app (goodIn_of _ (by decide +kernel)) ggX1_placeOfPhrase_X1_isCode
set_option maxRecDepth 20000 in
theorem ggX1_placeOfPhrase_X1_goesWell : GoodIn wsX1_placeOfPhrase wsX1_goesWell := goodIn_r _ [15, 16, 34, 35, 36, 37, 38] (by decide +kernel) (by decide +kernel)
set_option maxRecDepth 20000 in
theorem gX1_placeOfPhrase_X1_goesWell : GoodIn wsX1_placeOfPhrase (wsV RX1 42 RX1 yX1_goesWell wsX1_goesWell) := goodIn_app (goodIn_of _ (by decide +kernel)) ggX1_placeOfPhrase_X1_goesWell
set_option maxRecDepth 20000 in
theorem ggX1_placeOfPhrase_X1_placeIn : GoodIn wsX1_placeOfPhrase wsX1_placeIn := goodIn_r _ [20, 1, 21, 22, 23, 24, 4, 25, 26, 27, 28, 29, 30, 31, 32, 33, 34, 35, 36, 37, 38] (by decide +kernel) (by decide +kernel)
set_option maxRecDepth 20000 in
theorem gX1_placeOfPhrase_X1_placeIn : GoodIn wsX1_placeOfPhrase (wsV RX1 94 RX1 yX1_placeIn wsX1_placeIn) := goodIn_app (goodIn_of _ (by decide +kernel)) ggX1_placeOfPhrase_X1_placeIn
set_option maxRecDepth 20000 in
theorem ggX1_complete_X1_isRow : GoodIn wsX1_complete wsX1_isRow := goodIn_r _ [7] (by decide +kernel) (by decide +kernel)
set_option maxRecDepth 20000 in
theorem gX1_complete_X1_isRow : GoodIn wsX1_complete (va_wsS RX1 39 yX1_isRow wsX1_isRow) := goodIn_app (goodIn_of _ (by decide +kernel)) ggX1_complete_X1_isRow
set_option maxRecDepth 20000 in
theorem ggX1_complete_X1_goesWell : GoodIn wsX1_complete wsX1_goesWell := goodIn_r _ [11, 12, 26, 27, 28, 29, 30] (by decide +kernel) (by decide +kernel)
set_option maxRecDepth 20000 in
theorem gX1_complete_X1_goesWell : GoodIn wsX1_complete (wsV RX1 42 RX1 yX1_goesWell wsX1_goesWell) := goodIn_app (goodIn_of _ (by decide +kernel)) ggX1_complete_X1_goesWell
set_option maxRecDepth 20000 in
theorem ggX1_complete_X1_at : GoodIn wsX1_complete wsX1_at := goodIn_r _ [16, 17, 26, 27, 28, 29, 30] (by decide +kernel) (by decide +kernel)
set_option maxRecDepth 20000 in
theorem gX1_complete_X1_at : GoodIn wsX1_complete (wsV RX1 31 RX1 yX1_at wsX1_at) := goodIn_app (goodIn_of _ (by decide +kernel)) ggX1_complete_X1_at
set_option maxRecDepth 20000 in
theorem ggX1_complete_X1_isWritten : GoodIn wsX1_complete wsX1_isWritten := goodIn_r _ [21, 1, 3, 26, 27, 28, 29, 30] (by decide +kernel) (by decide +kernel)
set_option maxRecDepth 20000 in
theorem gX1_complete_X1_isWritten : GoodIn wsX1_complete (wsV RX1 91 RX1 yX1_isWritten wsX1_isWritten) := goodIn_app (goodIn_of _ (by decide +kernel)) ggX1_complete_X1_isWritten
set_option maxRecDepth 20000 in
theorem ggX1_complete_X1_lay : GoodIn wsX1_complete wsX1_lay := goodIn_r _ [25, 17, 2, 13, 14, 15, 6, 16, 26, 27, 28, 29, 30] (by decide +kernel) (by decide +kernel)
set_option maxRecDepth 20000 in
theorem gX1_complete_X1_lay : GoodIn wsX1_complete (wsV RX1 56 RX1 yX1_lay wsX1_lay) := goodIn_app (goodIn_of _ (by decide +kernel)) ggX1_complete_X1_lay
end
section
theorem hdX1_codeOf : yX1_codeOf.cls ≠ "java/lang/invoke/MethodHandle" ∧ yX1_codeOf.cls ≠ "java/lang/invoke/VarHandle" ∧ (parseMethodDescriptor yX1_codeOf.desc).map (fun d => d.parameters.length) = some 2 := by decide +kernel
theorem hdX1_in : yX1_in.cls ≠ "java/lang/invoke/MethodHandle" ∧ yX1_in.cls ≠ "java/lang/invoke/VarHandle" ∧ (parseMethodDescriptor yX1_in.desc).map (fun d => d.parameters.length) = some 3 := by decide +kernel
theorem hdX1_isTone : yX1_isTone.cls ≠ "java/lang/invoke/MethodHandle" ∧ yX1_isTone.cls ≠ "java/lang/invoke/VarHandle" ∧ (parseMethodDescriptor yX1_isTone.desc).map (fun d => d.parameters.length) = some 1 := by decide +kernel
theorem hdX1_modulo : yX1_modulo.cls ≠ "java/lang/invoke/MethodHandle" ∧ yX1_modulo.cls ≠ "java/lang/invoke/VarHandle" ∧ (parseMethodDescriptor yX1_modulo.desc).map (fun d => d.parameters.length) = some 1 := by decide +kernel
theorem hdX1_moved : yX1_moved.cls ≠ "java/lang/invoke/MethodHandle" ∧ yX1_moved.cls ≠ "java/lang/invoke/VarHandle" ∧ (parseMethodDescriptor yX1_moved.desc).map (fun d => d.parameters.length) = some 3 := by decide +kernel
theorem hvX1_at : yX1_at.cls = RX1 ∧ yX1_at.cls ≠ "java/lang/invoke/MethodHandle" ∧ yX1_at.cls ≠ "java/lang/invoke/VarHandle" ∧ (parseMethodDescriptor yX1_at.desc).map (fun d => d.parameters.length) = some 2 := by decide +kernel
theorem hvX1_formAt : yX1_formAt.cls = RX1 ∧ yX1_formAt.cls ≠ "java/lang/invoke/MethodHandle" ∧ yX1_formAt.cls ≠ "java/lang/invoke/VarHandle" ∧ (parseMethodDescriptor yX1_formAt.desc).map (fun d => d.parameters.length) = some 3 := by decide +kernel
theorem hvX1_itself : yX1_itself.cls = RX1 ∧ yX1_itself.cls ≠ "java/lang/invoke/MethodHandle" ∧ yX1_itself.cls ≠ "java/lang/invoke/VarHandle" ∧ (parseMethodDescriptor yX1_itself.desc).map (fun d => d.parameters.length) = some 1 := by decide +kernel
theorem hvX1_setOf : yX1_setOf.cls = RX1 ∧ yX1_setOf.cls ≠ "java/lang/invoke/MethodHandle" ∧ yX1_setOf.cls ≠ "java/lang/invoke/VarHandle" ∧ (parseMethodDescriptor yX1_setOf.desc).map (fun d => d.parameters.length) = some 4 := by decide +kernel
set_option maxHeartbeats 4000000 in
set_option maxRecDepth 100000 in
theorem mX1_isRow (l : Launch) (z : Int) (hz : inI z) : rd l yX1_isRow wsX1_isRow { frames := 0, cells := 0, slots := 0, locals := 0 } [.int (iI z)] tt_ (some (.int (iI (bI (z = 0 ∨ z = 1))))) := by
  refine Met.ofW (cc := cX1_isRow) (maxL := 1) (ret := (some .boolean)) (by decide) rfl ?_
  intro P0 e s m args below meth c s₁ B hml hv
  obtain ⟨rfl, -⟩ := hv
  have hx := B.exec
  have hb := B.bytes
  have hr := B.returns
  have hts := atoms_spec (ws := wsX1_isRow) B.pre
  have hown : s.vm.findClass RX1 = some m.cls := findClass_of_methodNamed B.named
  have hlocks := B.notSynchronized
  have hl := lv_entry ([.int (iI z)]) (n := 1) (Nat.le_of_ble_eq_true rfl)
  rw [lg_entry_eq]
  generalize (lg_sl ([.int (iI z)]) ++ List.replicate (1 - (lg_sl ([.int (iI z)])).length) Slot.unset).toArray = ls at hl ⊢
  have hl : lv_has ls 1 [(0, .int (iI z))] := hl
  have hz1 := hz.1
  have hz2 := hz.2
  refine lv_iload_n hx hb dX1_isRow_0 rfl (lv_at hl 0 rfl) ?_
  refine ib_if_eq (tgt := 9) hx hb dX1_isRow_1 (by decide) ⟨by omega, by omega⟩ (fun c_1 => ?_) (fun c_1 => ?_)
  · skip
    refine ib_const hx hb dX1_isRow_9 ?_
    refine lv_goto (tgt := 14) hx hb dX1_isRow_10 (by decide) ?_
    refine st_i (y := iI (bI (z = 0 ∨ z = 1))) (congrArg iI (bI_t (by omega)).symm) ?_
    exact W.zret hx hb hr (bI_nar _) (fun t ht _ => ⟨rfl, ht⟩) (fun _ h => nomatch h) dX1_isRow_14
  · skip
    refine lv_iload_n hx hb dX1_isRow_4 rfl (lv_at hl 0 rfl) ?_
    refine ib_const hx hb dX1_isRow_5 ?_
    refine ib_icmp_ne (tgt := 13) hx hb dX1_isRow_6 (by decide) ⟨by omega, by omega⟩ ⟨by omega, by omega⟩ (fun c_6 => ?_) (fun c_6 => ?_)
    · skip
      refine ib_const hx hb dX1_isRow_13 ?_
      refine st_i (y := iI (bI (z = 0 ∨ z = 1))) (congrArg iI (bI_f (by omega)).symm) ?_
      exact W.zret hx hb hr (bI_nar _) (fun t ht _ => ⟨rfl, ht⟩) (fun _ h => nomatch h) dX1_isRow_14
    · skip
      refine ib_const hx hb dX1_isRow_9 ?_
      refine lv_goto (tgt := 14) hx hb dX1_isRow_10 (by decide) ?_
      refine st_i (y := iI (bI (z = 0 ∨ z = 1))) (congrArg iI (bI_t (by omega)).symm) ?_
      exact W.zret hx hb hr (bI_nar _) (fun t ht _ => ⟨rfl, ht⟩) (fun _ h => nomatch h) dX1_isRow_14

set_option maxHeartbeats 4000000 in
set_option maxRecDepth 100000 in
theorem mX1_in (l : Launch) (z v w : Int) (hz : inI z) (hv9 : inI v) (hw : inI w) : rd l yX1_in wsX1_in { frames := 0, cells := 0, slots := 0, locals := 0 } [.int (iI z), .int (iI v), .int (iI w)] tt_ (some (.int (iI (bI (v ≤ z ∧ z ≤ w))))) := by
  refine Met.ofW (cc := cX1_in) (maxL := 3) (ret := (some .boolean)) (by decide) rfl ?_
  intro P0 e s m args below meth c s₁ B hml hv
  obtain ⟨rfl, -⟩ := hv
  have hx := B.exec
  have hb := B.bytes
  have hr := B.returns
  have hts := atoms_spec (ws := wsX1_in) B.pre
  have hown : s.vm.findClass RX1 = some m.cls := findClass_of_methodNamed B.named
  have hlocks := B.notSynchronized
  have hl := lv_entry ([.int (iI z), .int (iI v), .int (iI w)]) (n := 3) (Nat.le_of_ble_eq_true rfl)
  rw [lg_entry_eq]
  generalize (lg_sl ([.int (iI z), .int (iI v), .int (iI w)]) ++ List.replicate (3 - (lg_sl ([.int (iI z), .int (iI v), .int (iI w)])).length) Slot.unset).toArray = ls at hl ⊢
  have hl : lv_has ls 3 [(0, .int (iI z)), (1, .int (iI v)), (2, .int (iI w))] := hl
  have hz1 := hz.1
  have hz2 := hz.2
  have hw1 := hw.1
  have hw2 := hw.2
  have hv1 := hv9.1
  have hv2 := hv9.2
  refine lv_iload_n hx hb dX1_in_0 rfl (lv_at hl 0 rfl) ?_
  refine lv_iload_n hx hb dX1_in_1 rfl (lv_at hl 1 rfl) ?_
  refine ib_icmp_lt (tgt := 14) hx hb dX1_in_2 (by decide) ⟨by omega, by omega⟩ ⟨by omega, by omega⟩ (fun c_2 => ?_) (fun c_2 => ?_)
  · skip
    refine ib_const hx hb dX1_in_14 ?_
    refine st_i (y := iI (bI (v ≤ z ∧ z ≤ w))) (congrArg iI (bI_f (by omega)).symm) ?_
    exact W.zret hx hb hr (bI_nar _) (fun t ht _ => ⟨rfl, ht⟩) (fun _ h => nomatch h) dX1_in_15
  · skip
    refine lv_iload_n hx hb dX1_in_5 rfl (lv_at hl 0 rfl) ?_
    refine lv_iload_n hx hb dX1_in_6 rfl (lv_at hl 2 rfl) ?_
    refine ib_icmp_gt (tgt := 14) hx hb dX1_in_7 (by decide) ⟨by omega, by omega⟩ ⟨by omega, by omega⟩ (fun c_7 => ?_) (fun c_7 => ?_)
    · skip
      refine ib_const hx hb dX1_in_14 ?_
      refine st_i (y := iI (bI (v ≤ z ∧ z ≤ w))) (congrArg iI (bI_f (by omega)).symm) ?_
      exact W.zret hx hb hr (bI_nar _) (fun t ht _ => ⟨rfl, ht⟩) (fun _ h => nomatch h) dX1_in_15
    · skip
      refine ib_const hx hb dX1_in_10 ?_
      refine lv_goto (tgt := 15) hx hb dX1_in_11 (by decide) ?_
      refine st_i (y := iI (bI (v ≤ z ∧ z ≤ w))) (congrArg iI (bI_t (by omega)).symm) ?_
      exact W.zret hx hb hr (bI_nar _) (fun t ht _ => ⟨rfl, ht⟩) (fun _ h => nomatch h) dX1_in_15

set_option maxHeartbeats 4000000 in
set_option maxRecDepth 100000 in
theorem mX1_isTone (l : Launch) (z : Int) (hz : inI z) : rd l yX1_isTone wsX1_isTone { frames := 1, cells := 0, slots := 0, locals := 22 } [.int (iI z)] tt_ (some (.int (iI (bI (0 ≤ z ∧ z ≤ 11))))) := by
  refine Met.ofW (cc := cX1_isTone) (maxL := 1) (ret := (some .boolean)) (by decide) rfl ?_
  intro P0 e s m args below meth c s₁ B hml hv
  obtain ⟨rfl, -⟩ := hv
  have hx := B.exec
  have hb := B.bytes
  have hr := B.returns
  have hts := atoms_spec (ws := wsX1_isTone) B.pre
  have hown : s.vm.findClass RX1 = some m.cls := findClass_of_methodNamed B.named
  have hlocks := B.notSynchronized
  have hl := lv_entry ([.int (iI z)]) (n := 1) (Nat.le_of_ble_eq_true rfl)
  rw [lg_entry_eq]
  generalize (lg_sl ([.int (iI z)]) ++ List.replicate (1 - (lg_sl ([.int (iI z)])).length) Slot.unset).toArray = ls at hl ⊢
  have hl : lv_has ls 1 [(0, .int (iI z))] := hl
  have hz1 := hz.1
  have hz2 := hz.2
  refine lv_iload_n hx hb dX1_isTone_0 rfl (lv_at hl 0 rfl) ?_
  refine ib_const hx hb dX1_isTone_1 ?_
  refine ib_bi hx hb dX1_isTone_2 (by decide) ?_
  refine rd_call (va_runS (As := [.int (iI z), .int (iI 0), .int (iI 11)]) (rest := []) ⟨hx, hb, hml, hown, hts⟩ (mX1_in l z 0 11 ⟨by omega, by omega⟩ ⟨by omega, by omega⟩ ⟨by omega, by omega⟩) (va_cwS 3 hts gX1_isTone_X1_in rfl rfl rfl hdX1_in ⟨Nat.le_of_ble_eq_true rfl, Nat.le_of_ble_eq_true rfl⟩) tt_pre rfl rfl hl.1 rfl (lv_room (Nat.le_of_ble_eq_true rfl)) dX1_isTone_4 ⟨Nat.le_of_ble_eq_true rfl, Nat.le_of_ble_eq_true rfl⟩) ?_
  exact W.zret hx hb hr (bI_nar _) (fun t ht _ => ⟨rfl, ht⟩) (fun _ h => nomatch h) dX1_isTone_7

set_option maxHeartbeats 4000000 in
set_option maxRecDepth 100000 in
theorem mX1_isCode (l : Launch) (z : Int) (hz : inI z) : rd l yX1_isCode wsX1_isCode { frames := 1, cells := 0, slots := 0, locals := 22 } [.int (iI z)] tt_ (some (.int (iI (bI (0 ≤ z ∧ z ≤ 47))))) := by
  refine Met.ofW (cc := cX1_isCode) (maxL := 1) (ret := (some .boolean)) (by decide) rfl ?_
  intro P0 e s m args below meth c s₁ B hml hv
  obtain ⟨rfl, -⟩ := hv
  have hx := B.exec
  have hb := B.bytes
  have hr := B.returns
  have hts := atoms_spec (ws := wsX1_isCode) B.pre
  have hown : s.vm.findClass RX1 = some m.cls := findClass_of_methodNamed B.named
  have hlocks := B.notSynchronized
  have hl := lv_entry ([.int (iI z)]) (n := 1) (Nat.le_of_ble_eq_true rfl)
  rw [lg_entry_eq]
  generalize (lg_sl ([.int (iI z)]) ++ List.replicate (1 - (lg_sl ([.int (iI z)])).length) Slot.unset).toArray = ls at hl ⊢
  have hl : lv_has ls 1 [(0, .int (iI z))] := hl
  have hz1 := hz.1
  have hz2 := hz.2
  refine lv_iload_n hx hb dX1_isCode_0 rfl (lv_at hl 0 rfl) ?_
  refine ib_const hx hb dX1_isCode_1 ?_
  refine ib_bi hx hb dX1_isCode_2 (by decide) ?_
  refine rd_call (va_runS (As := [.int (iI z), .int (iI 0), .int (iI 47)]) (rest := []) ⟨hx, hb, hml, hown, hts⟩ (mX1_in l z 0 47 ⟨by omega, by omega⟩ ⟨by omega, by omega⟩ ⟨by omega, by omega⟩) (va_cwS 3 hts gX1_isCode_X1_in rfl rfl rfl hdX1_in ⟨Nat.le_of_ble_eq_true rfl, Nat.le_of_ble_eq_true rfl⟩) tt_pre rfl rfl hl.1 rfl (lv_room (Nat.le_of_ble_eq_true rfl)) dX1_isCode_4 ⟨Nat.le_of_ble_eq_true rfl, Nat.le_of_ble_eq_true rfl⟩) ?_
  exact W.zret hx hb hr (bI_nar _) (fun t ht _ => ⟨rfl, ht⟩) (fun _ h => nomatch h) dX1_isCode_7

set_option maxHeartbeats 4000000 in
set_option maxRecDepth 100000 in
theorem mX1_isForm (l : Launch) (z w : Int) (hz : inI z) (hw : inI w) : rd l yX1_isForm wsX1_isForm { frames := 2, cells := 0, slots := 0, locals := 42 } [.int (iI z), .int (iI w)] tt_ (some (.int (iI (bI (0 ≤ z ∧ z ≤ 3 ∧ 0 ≤ w ∧ w ≤ 11))))) := by
  refine Met.ofW (cc := cX1_isForm) (maxL := 2) (ret := (some .boolean)) (by decide) rfl ?_
  intro P0 e s m args below meth c s₁ B hml hv
  obtain ⟨rfl, -⟩ := hv
  have hx := B.exec
  have hb := B.bytes
  have hr := B.returns
  have hts := atoms_spec (ws := wsX1_isForm) B.pre
  have hown : s.vm.findClass RX1 = some m.cls := findClass_of_methodNamed B.named
  have hlocks := B.notSynchronized
  have hl := lv_entry ([.int (iI z), .int (iI w)]) (n := 2) (Nat.le_of_ble_eq_true rfl)
  rw [lg_entry_eq]
  generalize (lg_sl ([.int (iI z), .int (iI w)]) ++ List.replicate (2 - (lg_sl ([.int (iI z), .int (iI w)])).length) Slot.unset).toArray = ls at hl ⊢
  have hl : lv_has ls 2 [(0, .int (iI z)), (1, .int (iI w))] := hl
  have hz1 := hz.1
  have hz2 := hz.2
  have hw1 := hw.1
  have hw2 := hw.2
  refine lv_iload_n hx hb dX1_isForm_0 rfl (lv_at hl 0 rfl) ?_
  refine ib_const hx hb dX1_isForm_1 ?_
  refine ib_const hx hb dX1_isForm_2 ?_
  refine rd_call (va_runS (As := [.int (iI z), .int (iI 0), .int (iI 3)]) (rest := []) ⟨hx, hb, hml, hown, hts⟩ (mX1_in l z 0 3 ⟨by omega, by omega⟩ ⟨by omega, by omega⟩ ⟨by omega, by omega⟩) (va_cwS 3 hts gX1_isForm_X1_in rfl rfl rfl hdX1_in ⟨Nat.le_of_ble_eq_true rfl, Nat.le_of_ble_eq_true rfl⟩) tt_pre rfl rfl hl.1 rfl (lv_room (Nat.le_of_ble_eq_true rfl)) dX1_isForm_3 ⟨Nat.le_of_ble_eq_true rfl, Nat.le_of_ble_eq_true rfl⟩) ?_
  refine bb_eq (tgt := 20) hx hb dX1_isForm_6 (by decide) (fun c_6 => ?_) (fun c_6 => ?_)
  · skip
    refine ib_const hx hb dX1_isForm_20 ?_
    refine st_i (y := iI (bI (0 ≤ z ∧ z ≤ 3 ∧ 0 ≤ w ∧ w ≤ 11))) (congrArg iI (bI_f (by omega)).symm) ?_
    exact W.zret hx hb hr (bI_nar _) (fun t ht _ => ⟨rfl, ht⟩) (fun _ h => nomatch h) dX1_isForm_21
  · skip
    refine lv_iload_n hx hb dX1_isForm_9 rfl (lv_at hl 1 rfl) ?_
    refine rd_call (va_runS (As := [.int (iI w)]) (rest := []) ⟨hx, hb, hml, hown, hts⟩ (mX1_isTone l w ⟨by omega, by omega⟩) (va_cwS 1 hts gX1_isForm_X1_isTone rfl rfl rfl hdX1_isTone ⟨Nat.le_of_ble_eq_true rfl, Nat.le_of_ble_eq_true rfl⟩) tt_pre rfl rfl hl.1 rfl (lv_room (Nat.le_of_ble_eq_true rfl)) dX1_isForm_10 ⟨Nat.le_of_ble_eq_true rfl, Nat.le_of_ble_eq_true rfl⟩) ?_
    refine bb_eq (tgt := 20) hx hb dX1_isForm_13 (by decide) (fun c_13 => ?_) (fun c_13 => ?_)
    · skip
      refine ib_const hx hb dX1_isForm_20 ?_
      refine st_i (y := iI (bI (0 ≤ z ∧ z ≤ 3 ∧ 0 ≤ w ∧ w ≤ 11))) (congrArg iI (bI_f (by omega)).symm) ?_
      exact W.zret hx hb hr (bI_nar _) (fun t ht _ => ⟨rfl, ht⟩) (fun _ h => nomatch h) dX1_isForm_21
    · skip
      refine ib_const hx hb dX1_isForm_16 ?_
      refine lv_goto (tgt := 21) hx hb dX1_isForm_17 (by decide) ?_
      refine st_i (y := iI (bI (0 ≤ z ∧ z ≤ 3 ∧ 0 ≤ w ∧ w ≤ 11))) (congrArg iI (bI_t (by omega)).symm) ?_
      exact W.zret hx hb hr (bI_nar _) (fun t ht _ => ⟨rfl, ht⟩) (fun _ h => nomatch h) dX1_isForm_21

set_option maxHeartbeats 4000000 in
set_option maxRecDepth 100000 in
theorem mX1_modulo (l : Launch) (v : Int) (h1 : -2147483000 ≤ v) (h2 : v ≤ 2147483000) : rd l yX1_modulo wsX1_modulo { frames := 0, cells := 0, slots := 0, locals := 0 } [.int (iI v)] tt_ (some (.int (iI ((md v : Nat) : Int)))) := by
  refine Met.ofW (cc := cX1_modulo) (maxL := 1) (ret := (some .int)) (by decide) rfl ?_
  intro P0 e s m args below meth c s₁ B hml hv
  obtain ⟨rfl, -⟩ := hv
  have hx := B.exec
  have hb := B.bytes
  have hr := B.returns
  have hts := atoms_spec (ws := wsX1_modulo) B.pre
  have hown : s.vm.findClass RX1 = some m.cls := findClass_of_methodNamed B.named
  have hlocks := B.notSynchronized
  have hl := lv_entry ([.int (iI v)]) (n := 1) (Nat.le_of_ble_eq_true rfl)
  rw [lg_entry_eq]
  generalize (lg_sl ([.int (iI v)]) ++ List.replicate (1 - (lg_sl ([.int (iI v)])).length) Slot.unset).toArray = ls at hl ⊢
  have hl : lv_has ls 1 [(0, .int (iI v))] := hl
  have ht := tm_spec v
  have hmd := md_eq v
  refine lv_iload_n hx hb dX1_modulo_0 rfl (lv_at hl 0 rfl) ?_
  refine ib_bi hx hb dX1_modulo_1 (by decide) ?_
  refine ib_remt (z := tm v) hx hb dX1_modulo_3 ⟨by omega, by omega⟩ (by omega) (by omega) rfl ?_
  refine ib_bi hx hb dX1_modulo_4 (by decide) ?_
  refine ib_add (z := (tm v) + 12) hx hb dX1_modulo_6 (by omega) ?_
  refine ib_bi hx hb dX1_modulo_7 (by decide) ?_
  refine ib_rem (z := ((tm v) + 12) % 12) hx hb dX1_modulo_9 (by omega) (by omega) (by omega) (by omega) (by first | omega | rfl) ?_
  refine st_i (y := iI ((md v : Nat) : Int)) (congrArg iI (by rw [md_eq]; omega)) ?_
  exact W.iret hx hb hr (fun t ht _ => ⟨rfl, ht⟩) (fun _ h => nomatch h) dX1_modulo_10

set_option maxHeartbeats 4000000 in
set_option maxRecDepth 100000 in
theorem mX1_codeOf (l : Launch) (k n : Nat) : rd l yX1_codeOf wsX1_codeOf { frames := 0, cells := 0, slots := 0, locals := 0 } [.int (iI ((k : Nat) : Int)), .int (iI ((n : Nat) : Int))] tt_ (some (.int (iI ((12 * k + n : Nat) : Int)))) := by
  refine Met.ofW (cc := cX1_codeOf) (maxL := 2) (ret := (some .int)) (by decide) rfl ?_
  intro P0 e s m args below meth c s₁ B hml hv
  obtain ⟨rfl, -⟩ := hv
  have hx := B.exec
  have hb := B.bytes
  have hr := B.returns
  have hts := atoms_spec (ws := wsX1_codeOf) B.pre
  have hown : s.vm.findClass RX1 = some m.cls := findClass_of_methodNamed B.named
  have hlocks := B.notSynchronized
  have hl := lv_entry ([.int (iI ((k : Nat) : Int)), .int (iI ((n : Nat) : Int))]) (n := 2) (Nat.le_of_ble_eq_true rfl)
  rw [lg_entry_eq]
  generalize (lg_sl ([.int (iI ((k : Nat) : Int)), .int (iI ((n : Nat) : Int))]) ++ List.replicate (2 - (lg_sl ([.int (iI ((k : Nat) : Int)), .int (iI ((n : Nat) : Int))])).length) Slot.unset).toArray = ls at hl ⊢
  have hl : lv_has ls 2 [(0, .int (iI ((k : Nat) : Int))), (1, .int (iI ((n : Nat) : Int)))] := hl
  refine ib_bi hx hb dX1_codeOf_0 (by decide) ?_
  refine lv_iload_n hx hb dX1_codeOf_2 rfl (lv_at hl 0 rfl) ?_
  refine ib_mul (z := ((12 * k : Nat) : Int)) hx hb dX1_codeOf_3 (by first | omega | rfl | (push_cast; rfl)) ?_
  refine lv_iload_n hx hb dX1_codeOf_4 rfl (lv_at hl 1 rfl) ?_
  refine ib_add (z := (((12 * k) + n : Nat) : Int)) hx hb dX1_codeOf_5 (by omega) ?_
  refine st_i (y := iI ((12 * k + n : Nat) : Int)) (congrArg iI (by omega)) ?_
  exact W.iret hx hb hr (fun t ht _ => ⟨rfl, ht⟩) (fun _ h => nomatch h) dX1_codeOf_6

set_option maxHeartbeats 4000000 in
set_option maxRecDepth 100000 in
theorem mX1_moved_0 (l : Launch) (sv b : Nat) (h : sv < 4096) (hb9 : b < 12) : rd l yX1_moved wsX1_moved { frames := 1, cells := 0, slots := 0, locals := 20 } [.int (iI ((sv : Nat) : Int)), .int (iI ((b : Nat) : Int)), .int (iI 0)] tt_ (some (.int (iI ((mvN sv b False 12 : Nat) : Int)))) := by
  refine Met.ofW (cc := cX1_moved) (maxL := 5) (ret := (some .int)) (by decide) rfl ?_
  intro P0 e s m args below meth c s₁ B hml hv
  obtain ⟨rfl, -⟩ := hv
  have hx := B.exec
  have hb := B.bytes
  have hr := B.returns
  have hts := atoms_spec (ws := wsX1_moved) B.pre
  have hown : s.vm.findClass RX1 = some m.cls := findClass_of_methodNamed B.named
  have hlocks := B.notSynchronized
  have hl := lv_entry ([.int (iI ((sv : Nat) : Int)), .int (iI ((b : Nat) : Int)), .int (iI 0)]) (n := 5) (Nat.le_of_ble_eq_true rfl)
  rw [lg_entry_eq]
  generalize (lg_sl ([.int (iI ((sv : Nat) : Int)), .int (iI ((b : Nat) : Int)), .int (iI 0)]) ++ List.replicate (5 - (lg_sl ([.int (iI ((sv : Nat) : Int)), .int (iI ((b : Nat) : Int)), .int (iI 0)])).length) Slot.unset).toArray = ls at hl ⊢
  have hl : lv_has ls 5 [(0, .int (iI ((sv : Nat) : Int))), (1, .int (iI ((b : Nat) : Int))), (2, .int (iI 0))] := hl
  refine ib_const hx hb dX1_moved_0 ?_
  refine lv_istore_n (lv' := [(3, .int (iI 0)), (0, .int (iI ((sv : Nat) : Int))), (1, .int (iI ((b : Nat) : Int))), (2, .int (iI 0))]) hx hb dX1_moved_1 rfl hl (by decide) rfl (fun ls hl => ?_)
  refine ib_const hx hb dX1_moved_2 ?_
  refine lv_istore (lv' := [(4, .int (iI 0)), (3, .int (iI 0)), (0, .int (iI ((sv : Nat) : Int))), (1, .int (iI ((b : Nat) : Int))), (2, .int (iI 0))]) hx hb dX1_moved_3 hl (by decide) rfl (fun ls hl => ?_)
  have lp_5_1 : ∀ (j n : Nat), n + j = 12 → ∀ ls : Array Slot, lv_has ls 5 [(0, .int (iI ((sv : Nat) : Int))), (1, .int (iI ((b : Nat) : Int))), (2, .int (iI 0)), (3, .int (iI ((mvN sv b False n : Nat) : Int))), (4, .int (iI ((n : Nat) : Int)))] → W P0 l e (headSpec wsX1_moved { frames := 1, cells := 0, slots := 0, locals := 20 }).room s m ([.int (iI ((sv : Nat) : Int)), .int (iI ((b : Nat) : Int)), .int (iI 0)] : List Value).toArray below meth c s.heap [] 0 0 (MQ below (rdQ (some (.int (iI ((mvN sv b False 12 : Nat) : Int))))) ([.int (iI ((sv : Nat) : Int)), .int (iI ((b : Nat) : Int)), .int (iI 0)] : List Value).toArray s 0 0 (fun _ => False)) (F0 m 5 ls []) := by
    intro j
    induction j with
    | zero =>
      intro n hn_5  ls hl
      refine lv_iload hx hb dX1_moved_5 (lv_at hl 4 rfl) ?_
      refine ib_bi hx hb dX1_moved_7 (by decide) ?_
      refine ib_icmp_ge (tgt := 46) hx hb dX1_moved_9 (by decide) ⟨by omega, by omega⟩ ⟨by omega, by omega⟩ (fun c_9 => ?_) (fun c_9 => absurd c_9 (by omega))
      refine lv_iload_n hx hb dX1_moved_46 rfl (lv_at hl 3 rfl) ?_
      refine st_i (y := iI ((mvN sv b False 12 : Nat) : Int)) (congrArg (fun z : Nat => iI ((mvN sv b False z : Nat) : Int)) (show n = 12 by omega)) ?_
      exact W.iret hx hb hr (fun t ht _ => ⟨rfl, ht⟩) (fun _ h => nomatch h) dX1_moved_47
    | succ j ih_5_1 =>
      intro n hn_5  ls hl
      refine lv_iload hx hb dX1_moved_5 (lv_at hl 4 rfl) ?_
      refine ib_bi hx hb dX1_moved_7 (by decide) ?_
      refine ib_icmp_ge (tgt := 46) hx hb dX1_moved_9 (by decide) ⟨by omega, by omega⟩ ⟨by omega, by omega⟩ (fun c_9 => absurd c_9 (by omega)) (fun c_9 => ?_)
      refine lv_iload_n hx hb dX1_moved_12 rfl (lv_at hl 3 rfl) ?_
      refine lv_iload_n hx hb dX1_moved_13 rfl (lv_at hl 0 rfl) ?_
      refine lv_iload hx hb dX1_moved_14 (lv_at hl 4 rfl) ?_
      refine lv_ishr hx hb dX1_moved_16 ?_
      refine st_i (y := iI ((sv / 2 ^ n : Nat) : Int)) (ir_shr (by omega) (by omega)) ?_
      refine ib_const hx hb dX1_moved_17 ?_
      refine lv_iand hx hb dX1_moved_18 ?_
      refine st_i (y := iI ((sv / 2 ^ n &&& 1 : Nat) : Int)) (ir_and _ 1) ?_
      refine lv_iload_n hx hb dX1_moved_19 rfl (lv_at hl 2 rfl) ?_
      refine ib_if_eq (tgt := 30) hx hb dX1_moved_20 (by decide) ⟨by omega, by omega⟩ (fun c_20 => ?_) (fun c_20 => absurd c_20 (by decide))
      refine lv_iload_n hx hb dX1_moved_30 rfl (lv_at hl 1 rfl) ?_
      refine lv_iload hx hb dX1_moved_31 (lv_at hl 4 rfl) ?_
      refine ib_add (z := ((b + n : Nat) : Int)) hx hb dX1_moved_33 (by omega) ?_
      refine rd_call (va_runS (As := [.int (iI ((b + n : Nat) : Int))]) (rest := [.int (iI ((sv / 2 ^ n &&& 1 : Nat) : Int)), .int (iI ((mvN sv b False n : Nat) : Int))]) ⟨hx, hb, hml, hown, hts⟩ (mX1_modulo l ((b + n : Nat) : Int) (by omega) (by omega)) (va_cwS 1 hts gX1_moved_X1_modulo rfl rfl rfl hdX1_modulo ⟨Nat.le_of_ble_eq_true rfl, Nat.le_of_ble_eq_true rfl⟩) tt_pre rfl rfl hl.1 rfl (lv_room (Nat.le_of_ble_eq_true rfl)) dX1_moved_34 ⟨Nat.le_of_ble_eq_true rfl, Nat.le_of_ble_eq_true rfl⟩) ?_
      have hm_34 := md_lt ((b + n : Nat) : Int)
      refine lv_ishl hx hb dX1_moved_37 ?_
      refine st_i (y := iI (((sv / 2 ^ n &&& 1) * 2 ^ md (((b + n : Nat) : Int)) : Nat) : Int)) (ir_shl (by omega) (iv_b _ _)) ?_
      refine lv_ior hx hb dX1_moved_38 ?_
      refine st_i (y := iI ((mvN sv b False (n + 1) : Nat) : Int)) (ir_or _ _) ?_
      refine lv_istore_n (lv' := [(3, .int (iI ((mvN sv b False (n + 1) : Nat) : Int))), (0, .int (iI ((sv : Nat) : Int))), (1, .int (iI ((b : Nat) : Int))), (2, .int (iI 0)), (4, .int (iI ((n : Nat) : Int)))]) hx hb dX1_moved_39 rfl hl (by decide) rfl (fun ls hl => ?_)
      refine lv_iinc (v := iI ((n + 1 : Nat) : Int)) (lv' := [(4, .int (iI ((n + 1 : Nat) : Int))), (3, .int (iI ((mvN sv b False (n + 1) : Nat) : Int))), (0, .int (iI ((sv : Nat) : Int))), (1, .int (iI ((b : Nat) : Int))), (2, .int (iI 0))]) hx hb dX1_moved_40 hl (k := 4) rfl (iI_inc (by omega)) (by decide) rfl (fun ls hl => ?_)
      refine lv_goto (tgt := 5) hx hb dX1_moved_43 (by decide) ?_
      exact ih_5_1 (n + 1) (by omega)  _ (lv_sub hl [2, 3, 4, 1, 0] rfl)
  exact lp_5_1 12 0 (by omega)  _ (lv_sub hl [2, 3, 4, 1, 0] rfl)

set_option maxHeartbeats 4000000 in
set_option maxRecDepth 100000 in
theorem mX1_moved_1 (l : Launch) (sv b : Nat) (h : sv < 4096) (hb9 : b < 12) : rd l yX1_moved wsX1_moved { frames := 1, cells := 0, slots := 0, locals := 20 } [.int (iI ((sv : Nat) : Int)), .int (iI ((b : Nat) : Int)), .int (iI 1)] tt_ (some (.int (iI ((mvN sv b True 12 : Nat) : Int)))) := by
  refine Met.ofW (cc := cX1_moved) (maxL := 5) (ret := (some .int)) (by decide) rfl ?_
  intro P0 e s m args below meth c s₁ B hml hv
  obtain ⟨rfl, -⟩ := hv
  have hx := B.exec
  have hb := B.bytes
  have hr := B.returns
  have hts := atoms_spec (ws := wsX1_moved) B.pre
  have hown : s.vm.findClass RX1 = some m.cls := findClass_of_methodNamed B.named
  have hlocks := B.notSynchronized
  have hl := lv_entry ([.int (iI ((sv : Nat) : Int)), .int (iI ((b : Nat) : Int)), .int (iI 1)]) (n := 5) (Nat.le_of_ble_eq_true rfl)
  rw [lg_entry_eq]
  generalize (lg_sl ([.int (iI ((sv : Nat) : Int)), .int (iI ((b : Nat) : Int)), .int (iI 1)]) ++ List.replicate (5 - (lg_sl ([.int (iI ((sv : Nat) : Int)), .int (iI ((b : Nat) : Int)), .int (iI 1)])).length) Slot.unset).toArray = ls at hl ⊢
  have hl : lv_has ls 5 [(0, .int (iI ((sv : Nat) : Int))), (1, .int (iI ((b : Nat) : Int))), (2, .int (iI 1))] := hl
  refine ib_const hx hb dX1_moved_0 ?_
  refine lv_istore_n (lv' := [(3, .int (iI 0)), (0, .int (iI ((sv : Nat) : Int))), (1, .int (iI ((b : Nat) : Int))), (2, .int (iI 1))]) hx hb dX1_moved_1 rfl hl (by decide) rfl (fun ls hl => ?_)
  refine ib_const hx hb dX1_moved_2 ?_
  refine lv_istore (lv' := [(4, .int (iI 0)), (3, .int (iI 0)), (0, .int (iI ((sv : Nat) : Int))), (1, .int (iI ((b : Nat) : Int))), (2, .int (iI 1))]) hx hb dX1_moved_3 hl (by decide) rfl (fun ls hl => ?_)
  have lp_5_1 : ∀ (j n : Nat), n + j = 12 → ∀ ls : Array Slot, lv_has ls 5 [(0, .int (iI ((sv : Nat) : Int))), (1, .int (iI ((b : Nat) : Int))), (2, .int (iI 1)), (3, .int (iI ((mvN sv b True n : Nat) : Int))), (4, .int (iI ((n : Nat) : Int)))] → W P0 l e (headSpec wsX1_moved { frames := 1, cells := 0, slots := 0, locals := 20 }).room s m ([.int (iI ((sv : Nat) : Int)), .int (iI ((b : Nat) : Int)), .int (iI 1)] : List Value).toArray below meth c s.heap [] 0 0 (MQ below (rdQ (some (.int (iI ((mvN sv b True 12 : Nat) : Int))))) ([.int (iI ((sv : Nat) : Int)), .int (iI ((b : Nat) : Int)), .int (iI 1)] : List Value).toArray s 0 0 (fun _ => False)) (F0 m 5 ls []) := by
    intro j
    induction j with
    | zero =>
      intro n hn_5  ls hl
      refine lv_iload hx hb dX1_moved_5 (lv_at hl 4 rfl) ?_
      refine ib_bi hx hb dX1_moved_7 (by decide) ?_
      refine ib_icmp_ge (tgt := 46) hx hb dX1_moved_9 (by decide) ⟨by omega, by omega⟩ ⟨by omega, by omega⟩ (fun c_9 => ?_) (fun c_9 => absurd c_9 (by omega))
      refine lv_iload_n hx hb dX1_moved_46 rfl (lv_at hl 3 rfl) ?_
      refine st_i (y := iI ((mvN sv b True 12 : Nat) : Int)) (congrArg (fun z : Nat => iI ((mvN sv b True z : Nat) : Int)) (show n = 12 by omega)) ?_
      exact W.iret hx hb hr (fun t ht _ => ⟨rfl, ht⟩) (fun _ h => nomatch h) dX1_moved_47
    | succ j ih_5_1 =>
      intro n hn_5  ls hl
      refine lv_iload hx hb dX1_moved_5 (lv_at hl 4 rfl) ?_
      refine ib_bi hx hb dX1_moved_7 (by decide) ?_
      refine ib_icmp_ge (tgt := 46) hx hb dX1_moved_9 (by decide) ⟨by omega, by omega⟩ ⟨by omega, by omega⟩ (fun c_9 => absurd c_9 (by omega)) (fun c_9 => ?_)
      refine lv_iload_n hx hb dX1_moved_12 rfl (lv_at hl 3 rfl) ?_
      refine lv_iload_n hx hb dX1_moved_13 rfl (lv_at hl 0 rfl) ?_
      refine lv_iload hx hb dX1_moved_14 (lv_at hl 4 rfl) ?_
      refine lv_ishr hx hb dX1_moved_16 ?_
      refine st_i (y := iI ((sv / 2 ^ n : Nat) : Int)) (ir_shr (by omega) (by omega)) ?_
      refine ib_const hx hb dX1_moved_17 ?_
      refine lv_iand hx hb dX1_moved_18 ?_
      refine st_i (y := iI ((sv / 2 ^ n &&& 1 : Nat) : Int)) (ir_and _ 1) ?_
      refine lv_iload_n hx hb dX1_moved_19 rfl (lv_at hl 2 rfl) ?_
      refine ib_if_eq (tgt := 30) hx hb dX1_moved_20 (by decide) ⟨by omega, by omega⟩ (fun c_20 => absurd c_20 (by decide)) (fun c_20 => ?_)
      refine lv_iload_n hx hb dX1_moved_23 rfl (lv_at hl 1 rfl) ?_
      refine lv_iload hx hb dX1_moved_24 (lv_at hl 4 rfl) ?_
      refine ib_sub (z := ((b : Nat) : Int) - ((n : Nat) : Int)) hx hb dX1_moved_26 (by omega) ?_
      refine lv_goto (tgt := 34) hx hb dX1_moved_27 (by decide) ?_
      refine rd_call (va_runS (As := [.int (iI (((b : Nat) : Int) - ((n : Nat) : Int)))]) (rest := [.int (iI ((sv / 2 ^ n &&& 1 : Nat) : Int)), .int (iI ((mvN sv b True n : Nat) : Int))]) ⟨hx, hb, hml, hown, hts⟩ (mX1_modulo l (((b : Nat) : Int) - ((n : Nat) : Int)) (by omega) (by omega)) (va_cwS 1 hts gX1_moved_X1_modulo rfl rfl rfl hdX1_modulo ⟨Nat.le_of_ble_eq_true rfl, Nat.le_of_ble_eq_true rfl⟩) tt_pre rfl rfl hl.1 rfl (lv_room (Nat.le_of_ble_eq_true rfl)) dX1_moved_34 ⟨Nat.le_of_ble_eq_true rfl, Nat.le_of_ble_eq_true rfl⟩) ?_
      have hm_34 := md_lt (((b : Nat) : Int) - ((n : Nat) : Int))
      refine lv_ishl hx hb dX1_moved_37 ?_
      refine st_i (y := iI (((sv / 2 ^ n &&& 1) * 2 ^ md (((b : Nat) : Int) - ((n : Nat) : Int)) : Nat) : Int)) (ir_shl (by omega) (iv_b _ _)) ?_
      refine lv_ior hx hb dX1_moved_38 ?_
      refine st_i (y := iI ((mvN sv b True (n + 1) : Nat) : Int)) (ir_or _ _) ?_
      refine lv_istore_n (lv' := [(3, .int (iI ((mvN sv b True (n + 1) : Nat) : Int))), (0, .int (iI ((sv : Nat) : Int))), (1, .int (iI ((b : Nat) : Int))), (2, .int (iI 1)), (4, .int (iI ((n : Nat) : Int)))]) hx hb dX1_moved_39 rfl hl (by decide) rfl (fun ls hl => ?_)
      refine lv_iinc (v := iI ((n + 1 : Nat) : Int)) (lv' := [(4, .int (iI ((n + 1 : Nat) : Int))), (3, .int (iI ((mvN sv b True (n + 1) : Nat) : Int))), (0, .int (iI ((sv : Nat) : Int))), (1, .int (iI ((b : Nat) : Int))), (2, .int (iI 1))]) hx hb dX1_moved_40 hl (k := 4) rfl (iI_inc (by omega)) (by decide) rfl (fun ls hl => ?_)
      refine lv_goto (tgt := 5) hx hb dX1_moved_43 (by decide) ?_
      exact ih_5_1 (n + 1) (by omega)  _ (lv_sub hl [2, 3, 4, 1, 0] rfl)
  exact lp_5_1 12 0 (by omega)  _ (lv_sub hl [2, 3, 4, 1, 0] rfl)

set_option maxHeartbeats 4000000 in
set_option maxRecDepth 100000 in
theorem mX1_least (l : Launch) (sv : Nat) (h : sv < 4096) : rd l yX1_least wsX1_least { frames := 2, cells := 0, slots := 0, locals := 44 } [.int (iI ((sv : Nat) : Int))] tt_ (some (.int (iI ((lsN sv 12 : Nat) : Int)))) := by
  refine Met.ofW (cc := cX1_least) (maxL := 3) (ret := (some .int)) (by decide) rfl ?_
  intro P0 e s m args below meth c s₁ B hml hv
  obtain ⟨rfl, -⟩ := hv
  have hx := B.exec
  have hb := B.bytes
  have hr := B.returns
  have hts := atoms_spec (ws := wsX1_least) B.pre
  have hown : s.vm.findClass RX1 = some m.cls := findClass_of_methodNamed B.named
  have hlocks := B.notSynchronized
  have hl := lv_entry ([.int (iI ((sv : Nat) : Int))]) (n := 3) (Nat.le_of_ble_eq_true rfl)
  rw [lg_entry_eq]
  generalize (lg_sl ([.int (iI ((sv : Nat) : Int))]) ++ List.replicate (3 - (lg_sl ([.int (iI ((sv : Nat) : Int))])).length) Slot.unset).toArray = ls at hl ⊢
  have hl : lv_has ls 3 [(0, .int (iI ((sv : Nat) : Int)))] := hl
  refine lv_iload_n hx hb dX1_least_0 rfl (lv_at hl 0 rfl) ?_
  refine lv_istore_n (lv' := [(1, .int (iI ((sv : Nat) : Int))), (0, .int (iI ((sv : Nat) : Int)))]) hx hb dX1_least_1 rfl hl (by decide) rfl (fun ls hl => ?_)
  refine ib_const hx hb dX1_least_2 ?_
  refine lv_istore_n (lv' := [(2, .int (iI 0)), (1, .int (iI ((sv : Nat) : Int))), (0, .int (iI ((sv : Nat) : Int)))]) hx hb dX1_least_3 rfl hl (by decide) rfl (fun ls hl => ?_)
  have lp_4_1 : ∀ (j n : Nat), n + j = 12 → ∀ ls : Array Slot, lv_has ls 3 [(0, .int (iI ((sv : Nat) : Int))), (1, .int (iI ((lsN sv n : Nat) : Int))), (2, .int (iI ((n : Nat) : Int)))] → W P0 l e (headSpec wsX1_least { frames := 2, cells := 0, slots := 0, locals := 44 }).room s m ([.int (iI ((sv : Nat) : Int))] : List Value).toArray below meth c s.heap [] 0 0 (MQ below (rdQ (some (.int (iI ((lsN sv 12 : Nat) : Int))))) ([.int (iI ((sv : Nat) : Int))] : List Value).toArray s 0 0 (fun _ => False)) (F0 m 4 ls []) := by
    intro j
    induction j with
    | zero =>
      intro n hn_4  ls hl
      have hl9 := lsN_le sv n
      refine lv_iload_n hx hb dX1_least_4 rfl (lv_at hl 2 rfl) ?_
      refine ib_bi hx hb dX1_least_5 (by decide) ?_
      refine ib_icmp_ge (tgt := 58) hx hb dX1_least_7 (by decide) ⟨by omega, by omega⟩ ⟨by omega, by omega⟩ (fun c_7 => ?_) (fun c_7 => absurd c_7 (by omega))
      refine lv_iload_n hx hb dX1_least_58 rfl (lv_at hl 1 rfl) ?_
      refine st_i (y := iI ((lsN sv 12 : Nat) : Int)) (congrArg (fun z : Nat => iI ((lsN sv z : Nat) : Int)) (show n = 12 by omega)) ?_
      exact W.iret hx hb hr (fun t ht _ => ⟨rfl, ht⟩) (fun _ h => nomatch h) dX1_least_59
    | succ j ih_4_1 =>
      intro n hn_4  ls hl
      have hl9 := lsN_le sv n
      refine lv_iload_n hx hb dX1_least_4 rfl (lv_at hl 2 rfl) ?_
      refine ib_bi hx hb dX1_least_5 (by decide) ?_
      refine ib_icmp_ge (tgt := 58) hx hb dX1_least_7 (by decide) ⟨by omega, by omega⟩ ⟨by omega, by omega⟩ (fun c_7 => absurd c_7 (by omega)) (fun c_7 => ?_)
      refine lv_iload_n hx hb dX1_least_10 rfl (lv_at hl 0 rfl) ?_
      refine lv_iload_n hx hb dX1_least_11 rfl (lv_at hl 2 rfl) ?_
      refine ib_const hx hb dX1_least_12 ?_
      refine rd_call (va_runS (As := [.int (iI ((sv : Nat) : Int)), .int (iI ((n : Nat) : Int)), .int (iI 0)]) (rest := []) ⟨hx, hb, hml, hown, hts⟩ (mX1_moved_0 l sv n (by omega) (by omega)) (va_cwS 3 hts gX1_least_X1_moved rfl rfl rfl hdX1_moved ⟨Nat.le_of_ble_eq_true rfl, Nat.le_of_ble_eq_true rfl⟩) tt_pre rfl rfl hl.1 rfl (lv_room (Nat.le_of_ble_eq_true rfl)) dX1_least_13 ⟨Nat.le_of_ble_eq_true rfl, Nat.le_of_ble_eq_true rfl⟩) ?_
      have hv_13 := mvN_lt sv n False 12
      refine lv_iload_n hx hb dX1_least_16 rfl (lv_at hl 1 rfl) ?_
      refine ib_icmp_ge (tgt := 29) hx hb dX1_least_17 (by decide) ⟨by omega, by omega⟩ ⟨by omega, by omega⟩ (fun c_17 => ?_) (fun c_17 => ?_)
      · skip
        refine lv_iload_n hx hb dX1_least_29 rfl (lv_at hl 1 rfl) ?_
        refine lv_istore_n (lv' := [(1, .int (iI ((lsN sv n : Nat) : Int))), (0, .int (iI ((sv : Nat) : Int))), (2, .int (iI ((n : Nat) : Int)))]) hx hb dX1_least_30 rfl hl (by decide) rfl (fun ls hl => ?_)
        refine lv_iload_n hx hb dX1_least_31 rfl (lv_at hl 1 rfl) ?_
        refine lv_iload_n hx hb dX1_least_32 rfl (lv_at hl 2 rfl) ?_
        refine ib_const hx hb dX1_least_33 ?_
        refine rd_call (va_runS (As := [.int (iI ((sv : Nat) : Int)), .int (iI ((n : Nat) : Int)), .int (iI 1)]) (rest := []) ⟨hx, hb, hml, hown, hts⟩ (mX1_moved_1 l sv n (by omega) (by omega)) (va_cwS 3 hts gX1_least_X1_moved rfl rfl rfl hdX1_moved ⟨Nat.le_of_ble_eq_true rfl, Nat.le_of_ble_eq_true rfl⟩) tt_pre rfl rfl hl.1 rfl (lv_room (Nat.le_of_ble_eq_true rfl)) dX1_least_34 ⟨Nat.le_of_ble_eq_true rfl, Nat.le_of_ble_eq_true rfl⟩) ?_
        have hv_34 := mvN_lt sv n True 12
        refine lv_iload_n hx hb dX1_least_37 rfl (lv_at hl 0 rfl) ?_
        refine ib_icmp_ge (tgt := 50) hx hb dX1_least_38 (by decide) ⟨by omega, by omega⟩ ⟨by omega, by omega⟩ (fun c_38 => ?_) (fun c_38 => ?_)
        · skip
          refine lv_iload_n hx hb dX1_least_50 rfl (lv_at hl 0 rfl) ?_
          refine lv_istore_n (lv' := [(1, .int (iI ((lsN sv n : Nat) : Int))), (0, .int (iI ((sv : Nat) : Int))), (2, .int (iI ((n : Nat) : Int)))]) hx hb dX1_least_51 rfl hl (by decide) rfl (fun ls hl => ?_)
          refine lv_iinc (v := iI ((n + 1 : Nat) : Int)) (lv' := [(2, .int (iI ((n + 1 : Nat) : Int))), (1, .int (iI ((lsN sv n : Nat) : Int))), (0, .int (iI ((sv : Nat) : Int)))]) hx hb dX1_least_52 hl (k := 2) rfl (iI_inc (by omega)) (by decide) rfl (fun ls hl => ?_)
          refine lv_goto (tgt := 4) hx hb dX1_least_55 (by decide) ?_
          have hl : lv_has ls 3 [(2, .int (iI ((n + 1 : Nat) : Int))), (1, .int (iI ((lsN sv (n + 1) : Nat) : Int))), (0, .int (iI ((sv : Nat) : Int)))] := by
            have e9 : iI ((lsN sv n : Nat) : Int) = iI ((lsN sv (n + 1) : Nat) : Int) := congrArg (fun z : Nat => iI ((z : Nat) : Int)) (show _ = min (min (lsN sv n) (mvN sv n False 12)) (mvN sv n True 12) by omega)
            rw [← e9]; exact hl
          exact ih_4_1 (n + 1) (by omega)  _ (lv_sub hl [2, 1, 0] rfl)
        · skip
          refine lv_iload_n hx hb dX1_least_41 rfl (lv_at hl 1 rfl) ?_
          refine lv_iload_n hx hb dX1_least_42 rfl (lv_at hl 2 rfl) ?_
          refine ib_const hx hb dX1_least_43 ?_
          refine rd_call (va_runS (As := [.int (iI ((sv : Nat) : Int)), .int (iI ((n : Nat) : Int)), .int (iI 1)]) (rest := []) ⟨hx, hb, hml, hown, hts⟩ (mX1_moved_1 l sv n (by omega) (by omega)) (va_cwS 3 hts gX1_least_X1_moved rfl rfl rfl hdX1_moved ⟨Nat.le_of_ble_eq_true rfl, Nat.le_of_ble_eq_true rfl⟩) tt_pre rfl rfl hl.1 rfl (lv_room (Nat.le_of_ble_eq_true rfl)) dX1_least_44 ⟨Nat.le_of_ble_eq_true rfl, Nat.le_of_ble_eq_true rfl⟩) ?_
          have hv_44 := mvN_lt sv n True 12
          refine lv_goto (tgt := 51) hx hb dX1_least_47 (by decide) ?_
          refine lv_istore_n (lv' := [(1, .int (iI ((mvN sv n True 12 : Nat) : Int))), (0, .int (iI ((sv : Nat) : Int))), (2, .int (iI ((n : Nat) : Int)))]) hx hb dX1_least_51 rfl hl (by decide) rfl (fun ls hl => ?_)
          refine lv_iinc (v := iI ((n + 1 : Nat) : Int)) (lv' := [(2, .int (iI ((n + 1 : Nat) : Int))), (1, .int (iI ((mvN sv n True 12 : Nat) : Int))), (0, .int (iI ((sv : Nat) : Int)))]) hx hb dX1_least_52 hl (k := 2) rfl (iI_inc (by omega)) (by decide) rfl (fun ls hl => ?_)
          refine lv_goto (tgt := 4) hx hb dX1_least_55 (by decide) ?_
          have hl : lv_has ls 3 [(2, .int (iI ((n + 1 : Nat) : Int))), (1, .int (iI ((lsN sv (n + 1) : Nat) : Int))), (0, .int (iI ((sv : Nat) : Int)))] := by
            have e9 : iI ((mvN sv n True 12 : Nat) : Int) = iI ((lsN sv (n + 1) : Nat) : Int) := congrArg (fun z : Nat => iI ((z : Nat) : Int)) (show _ = min (min (lsN sv n) (mvN sv n False 12)) (mvN sv n True 12) by omega)
            rw [← e9]; exact hl
          exact ih_4_1 (n + 1) (by omega)  _ (lv_sub hl [2, 1, 0] rfl)
      · skip
        refine lv_iload_n hx hb dX1_least_20 rfl (lv_at hl 0 rfl) ?_
        refine lv_iload_n hx hb dX1_least_21 rfl (lv_at hl 2 rfl) ?_
        refine ib_const hx hb dX1_least_22 ?_
        refine rd_call (va_runS (As := [.int (iI ((sv : Nat) : Int)), .int (iI ((n : Nat) : Int)), .int (iI 0)]) (rest := []) ⟨hx, hb, hml, hown, hts⟩ (mX1_moved_0 l sv n (by omega) (by omega)) (va_cwS 3 hts gX1_least_X1_moved rfl rfl rfl hdX1_moved ⟨Nat.le_of_ble_eq_true rfl, Nat.le_of_ble_eq_true rfl⟩) tt_pre rfl rfl hl.1 rfl (lv_room (Nat.le_of_ble_eq_true rfl)) dX1_least_23 ⟨Nat.le_of_ble_eq_true rfl, Nat.le_of_ble_eq_true rfl⟩) ?_
        have hv_23 := mvN_lt sv n False 12
        refine lv_goto (tgt := 30) hx hb dX1_least_26 (by decide) ?_
        refine lv_istore_n (lv' := [(1, .int (iI ((mvN sv n False 12 : Nat) : Int))), (0, .int (iI ((sv : Nat) : Int))), (2, .int (iI ((n : Nat) : Int)))]) hx hb dX1_least_30 rfl hl (by decide) rfl (fun ls hl => ?_)
        refine lv_iload_n hx hb dX1_least_31 rfl (lv_at hl 1 rfl) ?_
        refine lv_iload_n hx hb dX1_least_32 rfl (lv_at hl 2 rfl) ?_
        refine ib_const hx hb dX1_least_33 ?_
        refine rd_call (va_runS (As := [.int (iI ((sv : Nat) : Int)), .int (iI ((n : Nat) : Int)), .int (iI 1)]) (rest := []) ⟨hx, hb, hml, hown, hts⟩ (mX1_moved_1 l sv n (by omega) (by omega)) (va_cwS 3 hts gX1_least_X1_moved rfl rfl rfl hdX1_moved ⟨Nat.le_of_ble_eq_true rfl, Nat.le_of_ble_eq_true rfl⟩) tt_pre rfl rfl hl.1 rfl (lv_room (Nat.le_of_ble_eq_true rfl)) dX1_least_34 ⟨Nat.le_of_ble_eq_true rfl, Nat.le_of_ble_eq_true rfl⟩) ?_
        have hv_34 := mvN_lt sv n True 12
        refine lv_iload_n hx hb dX1_least_37 rfl (lv_at hl 0 rfl) ?_
        refine ib_icmp_ge (tgt := 50) hx hb dX1_least_38 (by decide) ⟨by omega, by omega⟩ ⟨by omega, by omega⟩ (fun c_38 => ?_) (fun c_38 => ?_)
        · skip
          refine lv_iload_n hx hb dX1_least_50 rfl (lv_at hl 0 rfl) ?_
          refine lv_istore_n (lv' := [(1, .int (iI ((mvN sv n False 12 : Nat) : Int))), (0, .int (iI ((sv : Nat) : Int))), (2, .int (iI ((n : Nat) : Int)))]) hx hb dX1_least_51 rfl hl (by decide) rfl (fun ls hl => ?_)
          refine lv_iinc (v := iI ((n + 1 : Nat) : Int)) (lv' := [(2, .int (iI ((n + 1 : Nat) : Int))), (1, .int (iI ((mvN sv n False 12 : Nat) : Int))), (0, .int (iI ((sv : Nat) : Int)))]) hx hb dX1_least_52 hl (k := 2) rfl (iI_inc (by omega)) (by decide) rfl (fun ls hl => ?_)
          refine lv_goto (tgt := 4) hx hb dX1_least_55 (by decide) ?_
          have hl : lv_has ls 3 [(2, .int (iI ((n + 1 : Nat) : Int))), (1, .int (iI ((lsN sv (n + 1) : Nat) : Int))), (0, .int (iI ((sv : Nat) : Int)))] := by
            have e9 : iI ((mvN sv n False 12 : Nat) : Int) = iI ((lsN sv (n + 1) : Nat) : Int) := congrArg (fun z : Nat => iI ((z : Nat) : Int)) (show _ = min (min (lsN sv n) (mvN sv n False 12)) (mvN sv n True 12) by omega)
            rw [← e9]; exact hl
          exact ih_4_1 (n + 1) (by omega)  _ (lv_sub hl [2, 1, 0] rfl)
        · skip
          refine lv_iload_n hx hb dX1_least_41 rfl (lv_at hl 1 rfl) ?_
          refine lv_iload_n hx hb dX1_least_42 rfl (lv_at hl 2 rfl) ?_
          refine ib_const hx hb dX1_least_43 ?_
          refine rd_call (va_runS (As := [.int (iI ((sv : Nat) : Int)), .int (iI ((n : Nat) : Int)), .int (iI 1)]) (rest := []) ⟨hx, hb, hml, hown, hts⟩ (mX1_moved_1 l sv n (by omega) (by omega)) (va_cwS 3 hts gX1_least_X1_moved rfl rfl rfl hdX1_moved ⟨Nat.le_of_ble_eq_true rfl, Nat.le_of_ble_eq_true rfl⟩) tt_pre rfl rfl hl.1 rfl (lv_room (Nat.le_of_ble_eq_true rfl)) dX1_least_44 ⟨Nat.le_of_ble_eq_true rfl, Nat.le_of_ble_eq_true rfl⟩) ?_
          have hv_44 := mvN_lt sv n True 12
          refine lv_goto (tgt := 51) hx hb dX1_least_47 (by decide) ?_
          refine lv_istore_n (lv' := [(1, .int (iI ((mvN sv n True 12 : Nat) : Int))), (0, .int (iI ((sv : Nat) : Int))), (2, .int (iI ((n : Nat) : Int)))]) hx hb dX1_least_51 rfl hl (by decide) rfl (fun ls hl => ?_)
          refine lv_iinc (v := iI ((n + 1 : Nat) : Int)) (lv' := [(2, .int (iI ((n + 1 : Nat) : Int))), (1, .int (iI ((mvN sv n True 12 : Nat) : Int))), (0, .int (iI ((sv : Nat) : Int)))]) hx hb dX1_least_52 hl (k := 2) rfl (iI_inc (by omega)) (by decide) rfl (fun ls hl => ?_)
          refine lv_goto (tgt := 4) hx hb dX1_least_55 (by decide) ?_
          have hl : lv_has ls 3 [(2, .int (iI ((n + 1 : Nat) : Int))), (1, .int (iI ((lsN sv (n + 1) : Nat) : Int))), (0, .int (iI ((sv : Nat) : Int)))] := by
            have e9 : iI ((mvN sv n True 12 : Nat) : Int) = iI ((lsN sv (n + 1) : Nat) : Int) := congrArg (fun z : Nat => iI ((z : Nat) : Int)) (show _ = min (min (lsN sv n) (mvN sv n False 12)) (mvN sv n True 12) by omega)
            rw [← e9]; exact hl
          exact ih_4_1 (n + 1) (by omega)  _ (lv_sub hl [2, 1, 0] rfl)
  exact lp_4_1 12 0 (by omega)  _ (lv_sub hl [2, 1, 0] rfl)

set_option maxHeartbeats 4000000 in
set_option maxRecDepth 100000 in
theorem mX1_at (l : Launch) (dC : Nat → ClassId) (dI : Nat → Nat → Nat) (cI : ClassId) (m0 t0 k0 p0 : Nat) (a0 a1 K q : Nat → Nat) (th : Int32) (w : Nat) (h0 : lt12 a0) (h1 : lt12 a1) (hw : w ≤ 12) (hq : ∀ i, i < w → q i < 12) (r i : Nat) (hr9 : r < 2) (hi : i < 12) : rd l yX1_at wsX1_at { frames := 0, cells := 0, slots := 0, locals := 0 } [.ref m0, .int (iI ((r : Nat) : Int)), .int (iI ((i : Nat) : Int))] (bW (dC, dI) [(m0, .inr (1, [.int th, .ref t0, .ref k0, .ref p0, .int (iI ((w : Nat) : Int))])), (t0, .inl (cI, 24, .inl (fun j => iI ((tb a0 a1 j : Nat) : Int)))), (k0, .inl (cI, 12, .inl (fun j => iI ((K j : Nat) : Int)))), (p0, .inl (cI, 12, .inl (fun j => iI ((q j : Nat) : Int))))] [(cI, .int)]) (some (.int (iI ((rw_ r a0 a1 i : Nat) : Int)))) := by
  refine Met.ofW (cc := cX1_at) (maxL := 3) (ret := (some .int)) (by decide) rfl ?_
  intro P0 e s m args below meth c s₁ B hml hv
  obtain ⟨rfl, hP, hK⟩ := hv
  have hx := B.exec
  have hb := B.bytes
  have hr := B.returns
  have hts := atoms_spec (ws := wsX1_at) B.pre
  have hown : s.vm.findClass RX1 = some m.cls := findClass_of_methodNamed B.named
  have hlocks := B.notSynchronized
  have hinX : ∀ w ∈ u_ws RX1 TX1 5, w ∈ wsX1_at := by decide +kernel
  have hl := lv_entry ([.ref m0, .int (iI ((r : Nat) : Int)), .int (iI ((i : Nat) : Int))]) (n := 3) (Nat.le_of_ble_eq_true rfl)
  rw [lg_entry_eq]
  generalize (lg_sl ([.ref m0, .int (iI ((r : Nat) : Int)), .int (iI ((i : Nat) : Int))]) ++ List.replicate (3 - (lg_sl ([.ref m0, .int (iI ((r : Nat) : Int)), .int (iI ((i : Nat) : Int))])).length) Slot.unset).toArray = ls at hl ⊢
  have hl : lv_has ls 3 [(0, .ref m0), (1, .int (iI ((r : Nat) : Int))), (2, .int (iI ((i : Nat) : Int)))] := hl
  refine lv_aload_n hx hb dX1_at_0 rfl (lv_at hl 0 rfl) ?_
  refine va_get (D := (dC, dI)) (ci := 1) (v := .ref t0) (C := RX1) (T := TX1) (N := 5) hx hb hts hinX hown hK hP 0 rfl rfl 1 (by decide) (hts (.fieldLink RX1 7 "ToneRowsModel" "tones" "[I") (by decide +kernel)) (fun _ h9 => h9) rfl dX1_at_1 ?_
  refine ib_bi hx hb dX1_at_4 (by decide) ?_
  refine lv_iload_n hx hb dX1_at_6 rfl (lv_at hl 1 rfl) ?_
  refine ib_mul (z := ((12 * r : Nat) : Int)) hx hb dX1_at_7 (by first | omega | rfl | (push_cast; rfl)) ?_
  refine lv_iload_n hx hb dX1_at_8 rfl (lv_at hl 2 rfl) ?_
  refine ib_add (z := (((12 * r) + i : Nat) : Int)) hx hb dX1_at_9 (by omega) ?_
  refine ib_ald (f := fun j => iI ((tb a0 a1 j : Nat) : Int)) (i := (12 * r) + i) (v := iI ((tb a0 a1 ((12 * r) + i) : Nat) : Int)) hx hb hK hP 1 0 rfl rfl (by first | rfl | omega) (by omega) (by omega) rfl dX1_at_10 ?_
  refine st_i (y := iI ((rw_ r a0 a1 i : Nat) : Int)) (congrArg (fun z : Nat => iI ((z : Nat) : Int)) (tb_rw a0 a1 (by omega) (by omega))) ?_
  exact W.iret hx hb hr (fun t ht _ => ⟨rfl, ht⟩) (fun _ h => nomatch h) dX1_at_11

set_option maxHeartbeats 4000000 in
set_option maxRecDepth 100000 in
theorem mX1_formAt (l : Launch) (dC : Nat → ClassId) (dI : Nat → Nat → Nat) (cI : ClassId) (m0 t0 k0 p0 : Nat) (a0 a1 K q : Nat → Nat) (th : Int32) (w : Nat) (h0 : lt12 a0) (h1 : lt12 a1) (hw : w ≤ 12) (hq : ∀ i, i < w → q i < 12) (r code i : Nat) (hr9 : r < 2) (hc : code < 48) (hi : i < 12) : rd l yX1_formAt wsX1_formAt { frames := 1, cells := 0, slots := 0, locals := 22 } [.ref m0, .int (iI ((r : Nat) : Int)), .int (iI ((code : Nat) : Int)), .int (iI ((i : Nat) : Int))] (bW (dC, dI) [(m0, .inr (1, [.int th, .ref t0, .ref k0, .ref p0, .int (iI ((w : Nat) : Int))])), (t0, .inl (cI, 24, .inl (fun j => iI ((tb a0 a1 j : Nat) : Int)))), (k0, .inl (cI, 12, .inl (fun j => iI ((K j : Nat) : Int)))), (p0, .inl (cI, 12, .inl (fun j => iI ((q j : Nat) : Int))))] [(cI, .int)]) (some (.int (iI ((fm (rw_ r a0 a1) code i : Nat) : Int)))) := by
  refine Met.ofW (cc := cX1_formAt) (maxL := 7) (ret := (some .int)) (by decide) rfl ?_
  intro P0 e s m args below meth c s₁ B hml hv
  obtain ⟨rfl, hP, hK⟩ := hv
  have hx := B.exec
  have hb := B.bytes
  have hr := B.returns
  have hts := atoms_spec (ws := wsX1_formAt) B.pre
  have hown : s.vm.findClass RX1 = some m.cls := findClass_of_methodNamed B.named
  have hlocks := B.notSynchronized
  have hinX : ∀ w ∈ u_ws RX1 TX1 5, w ∈ wsX1_formAt := by decide +kernel
  have hl := lv_entry ([.ref m0, .int (iI ((r : Nat) : Int)), .int (iI ((code : Nat) : Int)), .int (iI ((i : Nat) : Int))]) (n := 7) (Nat.le_of_ble_eq_true rfl)
  rw [lg_entry_eq]
  generalize (lg_sl ([.ref m0, .int (iI ((r : Nat) : Int)), .int (iI ((code : Nat) : Int)), .int (iI ((i : Nat) : Int))]) ++ List.replicate (7 - (lg_sl ([.ref m0, .int (iI ((r : Nat) : Int)), .int (iI ((code : Nat) : Int)), .int (iI ((i : Nat) : Int))])).length) Slot.unset).toArray = ls at hl ⊢
  have hl : lv_has ls 7 [(0, .ref m0), (1, .int (iI ((r : Nat) : Int))), (2, .int (iI ((code : Nat) : Int))), (3, .int (iI ((i : Nat) : Int)))] := hl
  refine lv_iload_n hx hb dX1_formAt_0 rfl (lv_at hl 2 rfl) ?_
  refine ib_bi hx hb dX1_formAt_1 (by decide) ?_
  refine ib_div (z := ((code / 12 : Nat) : Int)) hx hb dX1_formAt_3 (by omega) (by omega) (by omega) (by omega) (by first | omega | rfl) ?_
  refine lv_istore (lv' := [(4, .int (iI ((code / 12 : Nat) : Int))), (0, .ref m0), (1, .int (iI ((r : Nat) : Int))), (2, .int (iI ((code : Nat) : Int))), (3, .int (iI ((i : Nat) : Int)))]) hx hb dX1_formAt_4 hl (by decide) rfl (fun ls hl => ?_)
  refine lv_iload hx hb dX1_formAt_6 (lv_at hl 0 rfl) ?_
  refine ib_const hx hb dX1_formAt_8 ?_
  refine ib_icmp_lt (tgt := 19) hx hb dX1_formAt_9 (by decide) ⟨by omega, by omega⟩ ⟨by omega, by omega⟩ (fun c_9 => ?_) (fun c_9 => ?_)
  · skip
    refine lv_iload_n hx hb dX1_formAt_19 rfl (lv_at hl 4 rfl) ?_
    refine lv_istore (lv' := [(5, .int (iI ((i : Nat) : Int))), (4, .int (iI ((code / 12 : Nat) : Int))), (0, .ref m0), (1, .int (iI ((r : Nat) : Int))), (2, .int (iI ((code : Nat) : Int))), (3, .int (iI ((i : Nat) : Int)))]) hx hb dX1_formAt_20 hl (by decide) rfl (fun ls hl => ?_)
    refine lv_aload_n hx hb dX1_formAt_22 rfl (lv_at hl 2 rfl) ?_
    refine lv_iload_n hx hb dX1_formAt_23 rfl (lv_at hl 3 rfl) ?_
    refine lv_iload hx hb dX1_formAt_24 (lv_at hl 0 rfl) ?_
    refine rd_call (va_runV (As := [.int (iI ((r : Nat) : Int)), .int (iI ((i : Nat) : Int))]) (rest := []) ⟨hx, hb, hml, hown, hts⟩ (mX1_at l dC dI cI m0 t0 k0 p0 a0 a1 K q th w h0 h1 hw hq r i (by omega) (by omega)) (cwV 2 hts gX1_formAt_X1_at rfl rfl rfl hvX1_at ⟨Nat.le_of_ble_eq_true rfl, Nat.le_of_ble_eq_true rfl⟩) (bW_pre (ci := 1) (q0 := 0) hK hP rfl rfl rfl) rfl rfl hl.1 rfl (lv_room (Nat.le_of_ble_eq_true rfl)) dX1_formAt_26 ⟨Nat.le_of_ble_eq_true rfl, Nat.le_of_ble_eq_true rfl⟩) ?_
    have hr_26 := rw_lt h0 h1 r (i := i) (by omega)
    refine lv_aload_n hx hb dX1_formAt_29 rfl (lv_at hl 2 rfl) ?_
    refine lv_iload_n hx hb dX1_formAt_30 rfl (lv_at hl 3 rfl) ?_
    refine ib_const hx hb dX1_formAt_31 ?_
    refine rd_call (va_runV (As := [.int (iI ((r : Nat) : Int)), .int (iI 0)]) (rest := [.int (iI ((rw_ r a0 a1 i : Nat) : Int))]) ⟨hx, hb, hml, hown, hts⟩ (mX1_at l dC dI cI m0 t0 k0 p0 a0 a1 K q th w h0 h1 hw hq r 0 (by omega) (by omega)) (cwV 2 hts gX1_formAt_X1_at rfl rfl rfl hvX1_at ⟨Nat.le_of_ble_eq_true rfl, Nat.le_of_ble_eq_true rfl⟩) (bW_pre (ci := 1) (q0 := 0) hK hP rfl rfl rfl) rfl rfl hl.1 rfl (lv_room (Nat.le_of_ble_eq_true rfl)) dX1_formAt_32 ⟨Nat.le_of_ble_eq_true rfl, Nat.le_of_ble_eq_true rfl⟩) ?_
    have hr_32 := rw_lt h0 h1 r (i := 0) (by omega)
    refine ib_sub (z := ((rw_ r a0 a1 i : Nat) : Int) - ((rw_ r a0 a1 0 : Nat) : Int)) hx hb dX1_formAt_35 (by omega) ?_
    refine lv_istore (lv' := [(6, .int (iI (((rw_ r a0 a1 i : Nat) : Int) - ((rw_ r a0 a1 0 : Nat) : Int)))), (5, .int (iI ((i : Nat) : Int))), (4, .int (iI ((code / 12 : Nat) : Int))), (0, .ref m0), (1, .int (iI ((r : Nat) : Int))), (2, .int (iI ((code : Nat) : Int))), (3, .int (iI ((i : Nat) : Int)))]) hx hb dX1_formAt_36 hl (by decide) rfl (fun ls hl => ?_)
    refine lv_iload hx hb dX1_formAt_38 (lv_at hl 2 rfl) ?_
    refine ib_const hx hb dX1_formAt_40 ?_
    refine ib_rem (z := (((code / 12) % 2 : Nat) : Int)) hx hb dX1_formAt_41 (by omega) (by omega) (by omega) (by omega) (by first | omega | rfl) ?_
    refine ib_if_ne (tgt := 50) hx hb dX1_formAt_42 (by decide) ⟨by omega, by omega⟩ (fun c_42 => ?_) (fun c_42 => ?_)
    · skip
      refine lv_iload hx hb dX1_formAt_50 (lv_at hl 0 rfl) ?_
      refine ib_neg (z := -(((rw_ r a0 a1 i : Nat) : Int) - ((rw_ r a0 a1 0 : Nat) : Int))) hx hb dX1_formAt_52 rfl ?_
      refine lv_iload_n hx hb dX1_formAt_53 rfl (lv_at hl 5 rfl) ?_
      refine ib_bi hx hb dX1_formAt_54 (by decide) ?_
      refine ib_rem (z := ((code % 12 : Nat) : Int)) hx hb dX1_formAt_56 (by omega) (by omega) (by omega) (by omega) (by first | omega | rfl) ?_
      refine ib_add (z := (-(((rw_ r a0 a1 i : Nat) : Int) - ((rw_ r a0 a1 0 : Nat) : Int))) + ((code % 12 : Nat) : Int)) hx hb dX1_formAt_57 (by omega) ?_
      refine rd_call (va_runS (As := [.int (iI ((-(((rw_ r a0 a1 i : Nat) : Int) - ((rw_ r a0 a1 0 : Nat) : Int))) + ((code % 12 : Nat) : Int)))]) (rest := []) ⟨hx, hb, hml, hown, hts⟩ (mX1_modulo l ((-(((rw_ r a0 a1 i : Nat) : Int) - ((rw_ r a0 a1 0 : Nat) : Int))) + ((code % 12 : Nat) : Int)) (by omega) (by omega)) (va_cwS 1 hts gX1_formAt_X1_modulo rfl rfl rfl hdX1_modulo ⟨Nat.le_of_ble_eq_true rfl, Nat.le_of_ble_eq_true rfl⟩) tt_pre rfl rfl hl.1 rfl (lv_room (Nat.le_of_ble_eq_true rfl)) dX1_formAt_58 ⟨Nat.le_of_ble_eq_true rfl, Nat.le_of_ble_eq_true rfl⟩) ?_
      have hm_58 := md_lt ((-(((rw_ r a0 a1 i : Nat) : Int) - ((rw_ r a0 a1 0 : Nat) : Int))) + ((code % 12 : Nat) : Int))
      refine st_i (y := iI ((fm (rw_ r a0 a1) code i : Nat) : Int)) (congrArg (fun z : Int => iI ((md z : Nat) : Int)) (by rw [fmz, show fmf code i = i from if_neg (by omega), if_neg (show ¬ code / 12 % 2 = 0 by omega)])) ?_
      exact W.iret hx hb hr (fun t ht _ => ⟨rfl, ht⟩) (fun _ h => nomatch h) dX1_formAt_61
    · skip
      refine lv_iload hx hb dX1_formAt_45 (lv_at hl 0 rfl) ?_
      refine lv_goto (tgt := 53) hx hb dX1_formAt_47 (by decide) ?_
      refine lv_iload_n hx hb dX1_formAt_53 rfl (lv_at hl 5 rfl) ?_
      refine ib_bi hx hb dX1_formAt_54 (by decide) ?_
      refine ib_rem (z := ((code % 12 : Nat) : Int)) hx hb dX1_formAt_56 (by omega) (by omega) (by omega) (by omega) (by first | omega | rfl) ?_
      refine ib_add (z := (((rw_ r a0 a1 i : Nat) : Int) - ((rw_ r a0 a1 0 : Nat) : Int)) + ((code % 12 : Nat) : Int)) hx hb dX1_formAt_57 (by omega) ?_
      refine rd_call (va_runS (As := [.int (iI ((((rw_ r a0 a1 i : Nat) : Int) - ((rw_ r a0 a1 0 : Nat) : Int)) + ((code % 12 : Nat) : Int)))]) (rest := []) ⟨hx, hb, hml, hown, hts⟩ (mX1_modulo l ((((rw_ r a0 a1 i : Nat) : Int) - ((rw_ r a0 a1 0 : Nat) : Int)) + ((code % 12 : Nat) : Int)) (by omega) (by omega)) (va_cwS 1 hts gX1_formAt_X1_modulo rfl rfl rfl hdX1_modulo ⟨Nat.le_of_ble_eq_true rfl, Nat.le_of_ble_eq_true rfl⟩) tt_pre rfl rfl hl.1 rfl (lv_room (Nat.le_of_ble_eq_true rfl)) dX1_formAt_58 ⟨Nat.le_of_ble_eq_true rfl, Nat.le_of_ble_eq_true rfl⟩) ?_
      have hm_58 := md_lt ((((rw_ r a0 a1 i : Nat) : Int) - ((rw_ r a0 a1 0 : Nat) : Int)) + ((code % 12 : Nat) : Int))
      refine st_i (y := iI ((fm (rw_ r a0 a1) code i : Nat) : Int)) (congrArg (fun z : Int => iI ((md z : Nat) : Int)) (by rw [fmz, show fmf code i = i from if_neg (by omega), if_pos (show code / 12 % 2 = 0 by omega)])) ?_
      exact W.iret hx hb hr (fun t ht _ => ⟨rfl, ht⟩) (fun _ h => nomatch h) dX1_formAt_61
  · skip
    refine ib_bi hx hb dX1_formAt_12 (by decide) ?_
    refine lv_iload_n hx hb dX1_formAt_14 rfl (lv_at hl 4 rfl) ?_
    refine ib_sub (z := ((11 - i : Nat) : Int)) hx hb dX1_formAt_15 (by omega) ?_
    refine lv_goto (tgt := 20) hx hb dX1_formAt_16 (by decide) ?_
    refine lv_istore (lv' := [(5, .int (iI ((11 - i : Nat) : Int))), (4, .int (iI ((code / 12 : Nat) : Int))), (0, .ref m0), (1, .int (iI ((r : Nat) : Int))), (2, .int (iI ((code : Nat) : Int))), (3, .int (iI ((i : Nat) : Int)))]) hx hb dX1_formAt_20 hl (by decide) rfl (fun ls hl => ?_)
    refine lv_aload_n hx hb dX1_formAt_22 rfl (lv_at hl 2 rfl) ?_
    refine lv_iload_n hx hb dX1_formAt_23 rfl (lv_at hl 3 rfl) ?_
    refine lv_iload hx hb dX1_formAt_24 (lv_at hl 0 rfl) ?_
    refine rd_call (va_runV (As := [.int (iI ((r : Nat) : Int)), .int (iI ((11 - i : Nat) : Int))]) (rest := []) ⟨hx, hb, hml, hown, hts⟩ (mX1_at l dC dI cI m0 t0 k0 p0 a0 a1 K q th w h0 h1 hw hq r (11 - i) (by omega) (by omega)) (cwV 2 hts gX1_formAt_X1_at rfl rfl rfl hvX1_at ⟨Nat.le_of_ble_eq_true rfl, Nat.le_of_ble_eq_true rfl⟩) (bW_pre (ci := 1) (q0 := 0) hK hP rfl rfl rfl) rfl rfl hl.1 rfl (lv_room (Nat.le_of_ble_eq_true rfl)) dX1_formAt_26 ⟨Nat.le_of_ble_eq_true rfl, Nat.le_of_ble_eq_true rfl⟩) ?_
    have hr_26 := rw_lt h0 h1 r (i := 11 - i) (by omega)
    refine lv_aload_n hx hb dX1_formAt_29 rfl (lv_at hl 2 rfl) ?_
    refine lv_iload_n hx hb dX1_formAt_30 rfl (lv_at hl 3 rfl) ?_
    refine ib_const hx hb dX1_formAt_31 ?_
    refine rd_call (va_runV (As := [.int (iI ((r : Nat) : Int)), .int (iI 0)]) (rest := [.int (iI ((rw_ r a0 a1 (11 - i) : Nat) : Int))]) ⟨hx, hb, hml, hown, hts⟩ (mX1_at l dC dI cI m0 t0 k0 p0 a0 a1 K q th w h0 h1 hw hq r 0 (by omega) (by omega)) (cwV 2 hts gX1_formAt_X1_at rfl rfl rfl hvX1_at ⟨Nat.le_of_ble_eq_true rfl, Nat.le_of_ble_eq_true rfl⟩) (bW_pre (ci := 1) (q0 := 0) hK hP rfl rfl rfl) rfl rfl hl.1 rfl (lv_room (Nat.le_of_ble_eq_true rfl)) dX1_formAt_32 ⟨Nat.le_of_ble_eq_true rfl, Nat.le_of_ble_eq_true rfl⟩) ?_
    have hr_32 := rw_lt h0 h1 r (i := 0) (by omega)
    refine ib_sub (z := ((rw_ r a0 a1 (11 - i) : Nat) : Int) - ((rw_ r a0 a1 0 : Nat) : Int)) hx hb dX1_formAt_35 (by omega) ?_
    refine lv_istore (lv' := [(6, .int (iI (((rw_ r a0 a1 (11 - i) : Nat) : Int) - ((rw_ r a0 a1 0 : Nat) : Int)))), (5, .int (iI ((11 - i : Nat) : Int))), (4, .int (iI ((code / 12 : Nat) : Int))), (0, .ref m0), (1, .int (iI ((r : Nat) : Int))), (2, .int (iI ((code : Nat) : Int))), (3, .int (iI ((i : Nat) : Int)))]) hx hb dX1_formAt_36 hl (by decide) rfl (fun ls hl => ?_)
    refine lv_iload hx hb dX1_formAt_38 (lv_at hl 2 rfl) ?_
    refine ib_const hx hb dX1_formAt_40 ?_
    refine ib_rem (z := (((code / 12) % 2 : Nat) : Int)) hx hb dX1_formAt_41 (by omega) (by omega) (by omega) (by omega) (by first | omega | rfl) ?_
    refine ib_if_ne (tgt := 50) hx hb dX1_formAt_42 (by decide) ⟨by omega, by omega⟩ (fun c_42 => ?_) (fun c_42 => ?_)
    · skip
      refine lv_iload hx hb dX1_formAt_50 (lv_at hl 0 rfl) ?_
      refine ib_neg (z := -(((rw_ r a0 a1 (11 - i) : Nat) : Int) - ((rw_ r a0 a1 0 : Nat) : Int))) hx hb dX1_formAt_52 rfl ?_
      refine lv_iload_n hx hb dX1_formAt_53 rfl (lv_at hl 5 rfl) ?_
      refine ib_bi hx hb dX1_formAt_54 (by decide) ?_
      refine ib_rem (z := ((code % 12 : Nat) : Int)) hx hb dX1_formAt_56 (by omega) (by omega) (by omega) (by omega) (by first | omega | rfl) ?_
      refine ib_add (z := (-(((rw_ r a0 a1 (11 - i) : Nat) : Int) - ((rw_ r a0 a1 0 : Nat) : Int))) + ((code % 12 : Nat) : Int)) hx hb dX1_formAt_57 (by omega) ?_
      refine rd_call (va_runS (As := [.int (iI ((-(((rw_ r a0 a1 (11 - i) : Nat) : Int) - ((rw_ r a0 a1 0 : Nat) : Int))) + ((code % 12 : Nat) : Int)))]) (rest := []) ⟨hx, hb, hml, hown, hts⟩ (mX1_modulo l ((-(((rw_ r a0 a1 (11 - i) : Nat) : Int) - ((rw_ r a0 a1 0 : Nat) : Int))) + ((code % 12 : Nat) : Int)) (by omega) (by omega)) (va_cwS 1 hts gX1_formAt_X1_modulo rfl rfl rfl hdX1_modulo ⟨Nat.le_of_ble_eq_true rfl, Nat.le_of_ble_eq_true rfl⟩) tt_pre rfl rfl hl.1 rfl (lv_room (Nat.le_of_ble_eq_true rfl)) dX1_formAt_58 ⟨Nat.le_of_ble_eq_true rfl, Nat.le_of_ble_eq_true rfl⟩) ?_
      have hm_58 := md_lt ((-(((rw_ r a0 a1 (11 - i) : Nat) : Int) - ((rw_ r a0 a1 0 : Nat) : Int))) + ((code % 12 : Nat) : Int))
      refine st_i (y := iI ((fm (rw_ r a0 a1) code i : Nat) : Int)) (congrArg (fun z : Int => iI ((md z : Nat) : Int)) (by rw [fmz, show fmf code i = 11 - i from if_pos (by omega), if_neg (show ¬ code / 12 % 2 = 0 by omega)])) ?_
      exact W.iret hx hb hr (fun t ht _ => ⟨rfl, ht⟩) (fun _ h => nomatch h) dX1_formAt_61
    · skip
      refine lv_iload hx hb dX1_formAt_45 (lv_at hl 0 rfl) ?_
      refine lv_goto (tgt := 53) hx hb dX1_formAt_47 (by decide) ?_
      refine lv_iload_n hx hb dX1_formAt_53 rfl (lv_at hl 5 rfl) ?_
      refine ib_bi hx hb dX1_formAt_54 (by decide) ?_
      refine ib_rem (z := ((code % 12 : Nat) : Int)) hx hb dX1_formAt_56 (by omega) (by omega) (by omega) (by omega) (by first | omega | rfl) ?_
      refine ib_add (z := (((rw_ r a0 a1 (11 - i) : Nat) : Int) - ((rw_ r a0 a1 0 : Nat) : Int)) + ((code % 12 : Nat) : Int)) hx hb dX1_formAt_57 (by omega) ?_
      refine rd_call (va_runS (As := [.int (iI ((((rw_ r a0 a1 (11 - i) : Nat) : Int) - ((rw_ r a0 a1 0 : Nat) : Int)) + ((code % 12 : Nat) : Int)))]) (rest := []) ⟨hx, hb, hml, hown, hts⟩ (mX1_modulo l ((((rw_ r a0 a1 (11 - i) : Nat) : Int) - ((rw_ r a0 a1 0 : Nat) : Int)) + ((code % 12 : Nat) : Int)) (by omega) (by omega)) (va_cwS 1 hts gX1_formAt_X1_modulo rfl rfl rfl hdX1_modulo ⟨Nat.le_of_ble_eq_true rfl, Nat.le_of_ble_eq_true rfl⟩) tt_pre rfl rfl hl.1 rfl (lv_room (Nat.le_of_ble_eq_true rfl)) dX1_formAt_58 ⟨Nat.le_of_ble_eq_true rfl, Nat.le_of_ble_eq_true rfl⟩) ?_
      have hm_58 := md_lt ((((rw_ r a0 a1 (11 - i) : Nat) : Int) - ((rw_ r a0 a1 0 : Nat) : Int)) + ((code % 12 : Nat) : Int))
      refine st_i (y := iI ((fm (rw_ r a0 a1) code i : Nat) : Int)) (congrArg (fun z : Int => iI ((md z : Nat) : Int)) (by rw [fmz, show fmf code i = 11 - i from if_pos (by omega), if_pos (show code / 12 % 2 = 0 by omega)])) ?_
      exact W.iret hx hb hr (fun t ht _ => ⟨rfl, ht⟩) (fun _ h => nomatch h) dX1_formAt_61

set_option maxHeartbeats 4000000 in
set_option maxRecDepth 100000 in
theorem mX1_step (l : Launch) (dC : Nat → ClassId) (dI : Nat → Nat → Nat) (cI : ClassId) (m0 t0 k0 p0 : Nat) (a0 a1 K q : Nat → Nat) (th : Int32) (w : Nat) (h0 : lt12 a0) (h1 : lt12 a1) (hw : w ≤ 12) (hq : ∀ i, i < w → q i < 12) (r i : Nat) (hr9 : r < 2) (hi : i < 11) : rd l yX1_step wsX1_step { frames := 1, cells := 0, slots := 0, locals := 22 } [.ref m0, .int (iI ((r : Nat) : Int)), .int (iI ((i : Nat) : Int))] (bW (dC, dI) [(m0, .inr (1, [.int th, .ref t0, .ref k0, .ref p0, .int (iI ((w : Nat) : Int))])), (t0, .inl (cI, 24, .inl (fun j => iI ((tb a0 a1 j : Nat) : Int)))), (k0, .inl (cI, 12, .inl (fun j => iI ((K j : Nat) : Int)))), (p0, .inl (cI, 12, .inl (fun j => iI ((q j : Nat) : Int))))] [(cI, .int)]) (some (.int (iI ((md (((rw_ r a0 a1 (i + 1) : Nat) : Int) - ((rw_ r a0 a1 i : Nat) : Int)) : Nat) : Int)))) := by
  refine Met.ofW (cc := cX1_step) (maxL := 3) (ret := (some .int)) (by decide) rfl ?_
  intro P0 e s m args below meth c s₁ B hml hv
  obtain ⟨rfl, hP, hK⟩ := hv
  have hx := B.exec
  have hb := B.bytes
  have hr := B.returns
  have hts := atoms_spec (ws := wsX1_step) B.pre
  have hown : s.vm.findClass RX1 = some m.cls := findClass_of_methodNamed B.named
  have hlocks := B.notSynchronized
  have hinX : ∀ w ∈ u_ws RX1 TX1 5, w ∈ wsX1_step := by decide +kernel
  have hl := lv_entry ([.ref m0, .int (iI ((r : Nat) : Int)), .int (iI ((i : Nat) : Int))]) (n := 3) (Nat.le_of_ble_eq_true rfl)
  rw [lg_entry_eq]
  generalize (lg_sl ([.ref m0, .int (iI ((r : Nat) : Int)), .int (iI ((i : Nat) : Int))]) ++ List.replicate (3 - (lg_sl ([.ref m0, .int (iI ((r : Nat) : Int)), .int (iI ((i : Nat) : Int))])).length) Slot.unset).toArray = ls at hl ⊢
  have hl : lv_has ls 3 [(0, .ref m0), (1, .int (iI ((r : Nat) : Int))), (2, .int (iI ((i : Nat) : Int)))] := hl
  refine lv_aload_n hx hb dX1_step_0 rfl (lv_at hl 0 rfl) ?_
  refine lv_iload_n hx hb dX1_step_1 rfl (lv_at hl 1 rfl) ?_
  refine lv_iload_n hx hb dX1_step_2 rfl (lv_at hl 2 rfl) ?_
  refine ib_const hx hb dX1_step_3 ?_
  refine ib_add (z := ((i + 1 : Nat) : Int)) hx hb dX1_step_4 (by omega) ?_
  refine rd_call (va_runV (As := [.int (iI ((r : Nat) : Int)), .int (iI ((i + 1 : Nat) : Int))]) (rest := []) ⟨hx, hb, hml, hown, hts⟩ (mX1_at l dC dI cI m0 t0 k0 p0 a0 a1 K q th w h0 h1 hw hq r (i + 1) (by omega) (by omega)) (cwV 2 hts gX1_step_X1_at rfl rfl rfl hvX1_at ⟨Nat.le_of_ble_eq_true rfl, Nat.le_of_ble_eq_true rfl⟩) (bW_pre (ci := 1) (q0 := 0) hK hP rfl rfl rfl) rfl rfl hl.1 rfl (lv_room (Nat.le_of_ble_eq_true rfl)) dX1_step_5 ⟨Nat.le_of_ble_eq_true rfl, Nat.le_of_ble_eq_true rfl⟩) ?_
  have hr_5 := rw_lt h0 h1 r (i := i + 1) (by omega)
  refine lv_aload_n hx hb dX1_step_8 rfl (lv_at hl 0 rfl) ?_
  refine lv_iload_n hx hb dX1_step_9 rfl (lv_at hl 1 rfl) ?_
  refine lv_iload_n hx hb dX1_step_10 rfl (lv_at hl 2 rfl) ?_
  refine rd_call (va_runV (As := [.int (iI ((r : Nat) : Int)), .int (iI ((i : Nat) : Int))]) (rest := [.int (iI ((rw_ r a0 a1 (i + 1) : Nat) : Int))]) ⟨hx, hb, hml, hown, hts⟩ (mX1_at l dC dI cI m0 t0 k0 p0 a0 a1 K q th w h0 h1 hw hq r i (by omega) (by omega)) (cwV 2 hts gX1_step_X1_at rfl rfl rfl hvX1_at ⟨Nat.le_of_ble_eq_true rfl, Nat.le_of_ble_eq_true rfl⟩) (bW_pre (ci := 1) (q0 := 0) hK hP rfl rfl rfl) rfl rfl hl.1 rfl (lv_room (Nat.le_of_ble_eq_true rfl)) dX1_step_11 ⟨Nat.le_of_ble_eq_true rfl, Nat.le_of_ble_eq_true rfl⟩) ?_
  have hr_11 := rw_lt h0 h1 r (i := i) (by omega)
  refine ib_sub (z := ((rw_ r a0 a1 (i + 1) : Nat) : Int) - ((rw_ r a0 a1 i : Nat) : Int)) hx hb dX1_step_14 (by omega) ?_
  refine rd_call (va_runS (As := [.int (iI (((rw_ r a0 a1 (i + 1) : Nat) : Int) - ((rw_ r a0 a1 i : Nat) : Int)))]) (rest := []) ⟨hx, hb, hml, hown, hts⟩ (mX1_modulo l (((rw_ r a0 a1 (i + 1) : Nat) : Int) - ((rw_ r a0 a1 i : Nat) : Int)) (by omega) (by omega)) (va_cwS 1 hts gX1_step_X1_modulo rfl rfl rfl hdX1_modulo ⟨Nat.le_of_ble_eq_true rfl, Nat.le_of_ble_eq_true rfl⟩) tt_pre rfl rfl hl.1 rfl (lv_room (Nat.le_of_ble_eq_true rfl)) dX1_step_15 ⟨Nat.le_of_ble_eq_true rfl, Nat.le_of_ble_eq_true rfl⟩) ?_
  have hm_15 := md_lt (((rw_ r a0 a1 (i + 1) : Nat) : Int) - ((rw_ r a0 a1 i : Nat) : Int))
  exact W.iret hx hb hr (fun t ht _ => ⟨rfl, ht⟩) (fun _ h => nomatch h) dX1_step_18

set_option maxHeartbeats 4000000 in
set_option maxRecDepth 100000 in
theorem mX1_itself (l : Launch) (dC : Nat → ClassId) (dI : Nat → Nat → Nat) (cI : ClassId) (m0 t0 k0 p0 : Nat) (a0 a1 K q : Nat → Nat) (th : Int32) (w : Nat) (h0 : lt12 a0) (h1 : lt12 a1) (hw : w ≤ 12) (hq : ∀ i, i < w → q i < 12) (r : Nat) (hr9 : r < 2) : rd l yX1_itself wsX1_itself { frames := 1, cells := 0, slots := 0, locals := 22 } [.ref m0, .int (iI ((r : Nat) : Int))] (bW (dC, dI) [(m0, .inr (1, [.int th, .ref t0, .ref k0, .ref p0, .int (iI ((w : Nat) : Int))])), (t0, .inl (cI, 24, .inl (fun j => iI ((tb a0 a1 j : Nat) : Int)))), (k0, .inl (cI, 12, .inl (fun j => iI ((K j : Nat) : Int)))), (p0, .inl (cI, 12, .inl (fun j => iI ((q j : Nat) : Int))))] [(cI, .int)]) (some (.int (iI ((rw_ r a0 a1 0 : Nat) : Int)))) := by
  refine Met.ofW (cc := cX1_itself) (maxL := 2) (ret := (some .int)) (by decide) rfl ?_
  intro P0 e s m args below meth c s₁ B hml hv
  obtain ⟨rfl, hP, hK⟩ := hv
  have hx := B.exec
  have hb := B.bytes
  have hr := B.returns
  have hts := atoms_spec (ws := wsX1_itself) B.pre
  have hown : s.vm.findClass RX1 = some m.cls := findClass_of_methodNamed B.named
  have hlocks := B.notSynchronized
  have hinX : ∀ w ∈ u_ws RX1 TX1 5, w ∈ wsX1_itself := by decide +kernel
  have hl := lv_entry ([.ref m0, .int (iI ((r : Nat) : Int))]) (n := 2) (Nat.le_of_ble_eq_true rfl)
  rw [lg_entry_eq]
  generalize (lg_sl ([.ref m0, .int (iI ((r : Nat) : Int))]) ++ List.replicate (2 - (lg_sl ([.ref m0, .int (iI ((r : Nat) : Int))])).length) Slot.unset).toArray = ls at hl ⊢
  have hl : lv_has ls 2 [(0, .ref m0), (1, .int (iI ((r : Nat) : Int)))] := hl
  refine ib_const hx hb dX1_itself_0 ?_
  refine lv_aload_n hx hb dX1_itself_1 rfl (lv_at hl 0 rfl) ?_
  refine lv_iload_n hx hb dX1_itself_2 rfl (lv_at hl 1 rfl) ?_
  refine ib_const hx hb dX1_itself_3 ?_
  refine rd_call (va_runV (As := [.int (iI ((r : Nat) : Int)), .int (iI 0)]) (rest := [.int (iI 0)]) ⟨hx, hb, hml, hown, hts⟩ (mX1_at l dC dI cI m0 t0 k0 p0 a0 a1 K q th w h0 h1 hw hq r 0 (by omega) (by omega)) (cwV 2 hts gX1_itself_X1_at rfl rfl rfl hvX1_at ⟨Nat.le_of_ble_eq_true rfl, Nat.le_of_ble_eq_true rfl⟩) (bW_pre (ci := 1) (q0 := 0) hK hP rfl rfl rfl) rfl rfl hl.1 rfl (lv_room (Nat.le_of_ble_eq_true rfl)) dX1_itself_4 ⟨Nat.le_of_ble_eq_true rfl, Nat.le_of_ble_eq_true rfl⟩) ?_
  have hr_4 := rw_lt h0 h1 r (i := 0) (by omega)
  refine rd_call (va_runS (As := [.int (iI 0), .int (iI ((rw_ r a0 a1 0 : Nat) : Int))]) (rest := []) ⟨hx, hb, hml, hown, hts⟩ (mX1_codeOf l 0 (rw_ r a0 a1 0)) (va_cwS 2 hts gX1_itself_X1_codeOf rfl rfl rfl hdX1_codeOf ⟨Nat.le_of_ble_eq_true rfl, Nat.le_of_ble_eq_true rfl⟩) tt_pre rfl rfl hl.1 rfl (lv_room (Nat.le_of_ble_eq_true rfl)) dX1_itself_7 ⟨Nat.le_of_ble_eq_true rfl, Nat.le_of_ble_eq_true rfl⟩) ?_
  refine st_i (y := iI ((rw_ r a0 a1 0 : Nat) : Int)) (congrArg iI (by omega)) ?_
  exact W.iret hx hb hr (fun t ht _ => ⟨rfl, ht⟩) (fun _ h => nomatch h) dX1_itself_10

set_option maxHeartbeats 4000000 in
set_option maxRecDepth 100000 in
theorem mX1_areSame (l : Launch) (dC : Nat → ClassId) (dI : Nat → Nat → Nat) (cI : ClassId) (m0 t0 k0 p0 : Nat) (a0 a1 K q : Nat → Nat) (th : Int32) (w : Nat) (h0 : lt12 a0) (h1 : lt12 a1) (hw : w ≤ 12) (hq : ∀ i, i < w → q i < 12) (r c1 c2 : Nat) (hr9 : r < 2) (hc1 : c1 < 48) (hc2 : c2 < 48) : rd l yX1_areSame wsX1_areSame { frames := 2, cells := 0, slots := 0, locals := 48 } [.ref m0, .int (iI ((r : Nat) : Int)), .int (iI ((c1 : Nat) : Int)), .int (iI ((c2 : Nat) : Int))] (bW (dC, dI) [(m0, .inr (1, [.int th, .ref t0, .ref k0, .ref p0, .int (iI ((w : Nat) : Int))])), (t0, .inl (cI, 24, .inl (fun j => iI ((tb a0 a1 j : Nat) : Int)))), (k0, .inl (cI, 12, .inl (fun j => iI ((K j : Nat) : Int)))), (p0, .inl (cI, 12, .inl (fun j => iI ((q j : Nat) : Int))))] [(cI, .int)]) (some (.int (iI (bI (alN (eqB (rw_ r a0 a1) c1 c2) 12 = true))))) := by
  refine Met.ofW (cc := cX1_areSame) (maxL := 6) (ret := (some .boolean)) (by decide) rfl ?_
  intro P0 e s m args below meth c s₁ B hml hv
  obtain ⟨rfl, hP, hK⟩ := hv
  have hx := B.exec
  have hb := B.bytes
  have hr := B.returns
  have hts := atoms_spec (ws := wsX1_areSame) B.pre
  have hown : s.vm.findClass RX1 = some m.cls := findClass_of_methodNamed B.named
  have hlocks := B.notSynchronized
  have hinX : ∀ w ∈ u_ws RX1 TX1 5, w ∈ wsX1_areSame := by decide +kernel
  have hl := lv_entry ([.ref m0, .int (iI ((r : Nat) : Int)), .int (iI ((c1 : Nat) : Int)), .int (iI ((c2 : Nat) : Int))]) (n := 6) (Nat.le_of_ble_eq_true rfl)
  rw [lg_entry_eq]
  generalize (lg_sl ([.ref m0, .int (iI ((r : Nat) : Int)), .int (iI ((c1 : Nat) : Int)), .int (iI ((c2 : Nat) : Int))]) ++ List.replicate (6 - (lg_sl ([.ref m0, .int (iI ((r : Nat) : Int)), .int (iI ((c1 : Nat) : Int)), .int (iI ((c2 : Nat) : Int))])).length) Slot.unset).toArray = ls at hl ⊢
  have hl : lv_has ls 6 [(0, .ref m0), (1, .int (iI ((r : Nat) : Int))), (2, .int (iI ((c1 : Nat) : Int))), (3, .int (iI ((c2 : Nat) : Int)))] := hl
  refine ib_const hx hb dX1_areSame_0 ?_
  refine lv_istore (lv' := [(4, .int (iI 1)), (0, .ref m0), (1, .int (iI ((r : Nat) : Int))), (2, .int (iI ((c1 : Nat) : Int))), (3, .int (iI ((c2 : Nat) : Int)))]) hx hb dX1_areSame_1 hl (by decide) rfl (fun ls hl => ?_)
  have hl : lv_has ls 6 [(4, .int (iI (bI (alN (eqB (rw_ r a0 a1) c1 c2) 0 = true)))), (0, .ref m0), (1, .int (iI ((r : Nat) : Int))), (2, .int (iI ((c1 : Nat) : Int))), (3, .int (iI ((c2 : Nat) : Int)))] := by
    have e9 : iI 1 = iI (bI (alN (eqB (rw_ r a0 a1) c1 c2) 0 = true)) := congrArg iI (bI_t (by simp [alN])).symm
    rw [← e9]; exact hl
  refine ib_const hx hb dX1_areSame_3 ?_
  refine lv_istore (lv' := [(5, .int (iI 0)), (4, .int (iI (bI (alN (eqB (rw_ r a0 a1) c1 c2) 0 = true)))), (0, .ref m0), (1, .int (iI ((r : Nat) : Int))), (2, .int (iI ((c1 : Nat) : Int))), (3, .int (iI ((c2 : Nat) : Int)))]) hx hb dX1_areSame_4 hl (by decide) rfl (fun ls hl => ?_)
  have lp_6_1 : ∀ (j n : Nat), n + j = 12 → ∀ ls : Array Slot, lv_has ls 6 [(0, .ref m0), (1, .int (iI ((r : Nat) : Int))), (2, .int (iI ((c1 : Nat) : Int))), (3, .int (iI ((c2 : Nat) : Int))), (4, .int (iI (bI (alN (eqB (rw_ r a0 a1) c1 c2) n = true)))), (5, .int (iI ((n : Nat) : Int)))] → W P0 l e (headSpec wsX1_areSame { frames := 2, cells := 0, slots := 0, locals := 48 }).room s m ([.ref m0, .int (iI ((r : Nat) : Int)), .int (iI ((c1 : Nat) : Int)), .int (iI ((c2 : Nat) : Int))] : List Value).toArray below meth c s.heap [] 0 0 (MQ below (rdQ (some (.int (iI (bI (alN (eqB (rw_ r a0 a1) c1 c2) 12 = true)))))) ([.ref m0, .int (iI ((r : Nat) : Int)), .int (iI ((c1 : Nat) : Int)), .int (iI ((c2 : Nat) : Int))] : List Value).toArray s 0 0 (fun _ => False)) (F0 m 6 ls []) := by
    intro j
    induction j with
    | zero =>
      intro n hn_6  ls hl
      refine lv_iload hx hb dX1_areSame_6 (lv_at hl 5 rfl) ?_
      refine ib_bi hx hb dX1_areSame_8 (by decide) ?_
      refine ib_icmp_ge (tgt := 50) hx hb dX1_areSame_10 (by decide) ⟨by omega, by omega⟩ ⟨by omega, by omega⟩ (fun c_10 => ?_) (fun c_10 => absurd c_10 (by omega))
      refine lv_iload hx hb dX1_areSame_50 (lv_at hl 4 rfl) ?_
      refine st_i (y := iI (bI (alN (eqB (rw_ r a0 a1) c1 c2) 12 = true))) (congrArg iI (bI_eq (by rw [show n = 12 by omega]))) ?_
      exact W.zret hx hb hr (bI_nar _) (fun t ht _ => ⟨rfl, ht⟩) (fun _ h => nomatch h) dX1_areSame_52
    | succ j ih_6_1 =>
      intro n hn_6  ls hl
      refine lv_iload hx hb dX1_areSame_6 (lv_at hl 5 rfl) ?_
      refine ib_bi hx hb dX1_areSame_8 (by decide) ?_
      refine ib_icmp_ge (tgt := 50) hx hb dX1_areSame_10 (by decide) ⟨by omega, by omega⟩ ⟨by omega, by omega⟩ (fun c_10 => absurd c_10 (by omega)) (fun c_10 => ?_)
      refine lv_iload hx hb dX1_areSame_13 (lv_at hl 4 rfl) ?_
      refine bb_eq (tgt := 41) hx hb dX1_areSame_15 (by decide) (fun c_15 => ?_) (fun c_15 => ?_)
      · skip
        refine ib_const hx hb dX1_areSame_41 ?_
        refine lv_istore (lv' := [(4, .int (iI 0)), (0, .ref m0), (1, .int (iI ((r : Nat) : Int))), (2, .int (iI ((c1 : Nat) : Int))), (3, .int (iI ((c2 : Nat) : Int))), (5, .int (iI ((n : Nat) : Int)))]) hx hb dX1_areSame_42 hl (by decide) rfl (fun ls hl => ?_)
        refine lv_iinc (v := iI ((n + 1 : Nat) : Int)) (lv' := [(5, .int (iI ((n + 1 : Nat) : Int))), (4, .int (iI 0)), (0, .ref m0), (1, .int (iI ((r : Nat) : Int))), (2, .int (iI ((c1 : Nat) : Int))), (3, .int (iI ((c2 : Nat) : Int)))]) hx hb dX1_areSame_44 hl (k := 5) rfl (iI_inc (by omega)) (by decide) rfl (fun ls hl => ?_)
        refine lv_goto (tgt := 6) hx hb dX1_areSame_47 (by decide) ?_
        have hl : lv_has ls 6 [(5, .int (iI ((n + 1 : Nat) : Int))), (4, .int (iI (bI (alN (eqB (rw_ r a0 a1) c1 c2) (n + 1) = true)))), (0, .ref m0), (1, .int (iI ((r : Nat) : Int))), (2, .int (iI ((c1 : Nat) : Int))), (3, .int (iI ((c2 : Nat) : Int)))] := by
          have e9 : iI 0 = iI (bI (alN (eqB (rw_ r a0 a1) c1 c2) (n + 1) = true)) := al_0 c_15
          rw [← e9]; exact hl
        exact ih_6_1 (n + 1) (by omega)  _ (lv_sub hl [2, 3, 4, 5, 1, 0] rfl)
      · skip
        refine lv_aload_n hx hb dX1_areSame_18 rfl (lv_at hl 0 rfl) ?_
        refine lv_iload_n hx hb dX1_areSame_19 rfl (lv_at hl 1 rfl) ?_
        refine lv_iload_n hx hb dX1_areSame_20 rfl (lv_at hl 2 rfl) ?_
        refine lv_iload hx hb dX1_areSame_21 (lv_at hl 5 rfl) ?_
        refine rd_call (va_runV (As := [.int (iI ((r : Nat) : Int)), .int (iI ((c1 : Nat) : Int)), .int (iI ((n : Nat) : Int))]) (rest := []) ⟨hx, hb, hml, hown, hts⟩ (mX1_formAt l dC dI cI m0 t0 k0 p0 a0 a1 K q th w h0 h1 hw hq r c1 n (by omega) (by omega) (by omega)) (cwV 3 hts gX1_areSame_X1_formAt rfl rfl rfl hvX1_formAt ⟨Nat.le_of_ble_eq_true rfl, Nat.le_of_ble_eq_true rfl⟩) (bW_pre (ci := 1) (q0 := 0) hK hP rfl rfl rfl) rfl rfl hl.1 rfl (lv_room (Nat.le_of_ble_eq_true rfl)) dX1_areSame_23 ⟨Nat.le_of_ble_eq_true rfl, Nat.le_of_ble_eq_true rfl⟩) ?_
        have hf_23 := fm_lt (rw_ r a0 a1) c1 n
        refine lv_aload_n hx hb dX1_areSame_26 rfl (lv_at hl 0 rfl) ?_
        refine lv_iload_n hx hb dX1_areSame_27 rfl (lv_at hl 1 rfl) ?_
        refine lv_iload_n hx hb dX1_areSame_28 rfl (lv_at hl 3 rfl) ?_
        refine lv_iload hx hb dX1_areSame_29 (lv_at hl 5 rfl) ?_
        refine rd_call (va_runV (As := [.int (iI ((r : Nat) : Int)), .int (iI ((c2 : Nat) : Int)), .int (iI ((n : Nat) : Int))]) (rest := [.int (iI ((fm (rw_ r a0 a1) c1 n : Nat) : Int))]) ⟨hx, hb, hml, hown, hts⟩ (mX1_formAt l dC dI cI m0 t0 k0 p0 a0 a1 K q th w h0 h1 hw hq r c2 n (by omega) (by omega) (by omega)) (cwV 3 hts gX1_areSame_X1_formAt rfl rfl rfl hvX1_formAt ⟨Nat.le_of_ble_eq_true rfl, Nat.le_of_ble_eq_true rfl⟩) (bW_pre (ci := 1) (q0 := 0) hK hP rfl rfl rfl) rfl rfl hl.1 rfl (lv_room (Nat.le_of_ble_eq_true rfl)) dX1_areSame_31 ⟨Nat.le_of_ble_eq_true rfl, Nat.le_of_ble_eq_true rfl⟩) ?_
        have hf_31 := fm_lt (rw_ r a0 a1) c2 n
        refine ib_icmp_ne (tgt := 41) hx hb dX1_areSame_34 (by decide) ⟨by omega, by omega⟩ ⟨by omega, by omega⟩ (fun c_34 => ?_) (fun c_34 => ?_)
        · skip
          refine ib_const hx hb dX1_areSame_41 ?_
          refine lv_istore (lv' := [(4, .int (iI 0)), (0, .ref m0), (1, .int (iI ((r : Nat) : Int))), (2, .int (iI ((c1 : Nat) : Int))), (3, .int (iI ((c2 : Nat) : Int))), (5, .int (iI ((n : Nat) : Int)))]) hx hb dX1_areSame_42 hl (by decide) rfl (fun ls hl => ?_)
          refine lv_iinc (v := iI ((n + 1 : Nat) : Int)) (lv' := [(5, .int (iI ((n + 1 : Nat) : Int))), (4, .int (iI 0)), (0, .ref m0), (1, .int (iI ((r : Nat) : Int))), (2, .int (iI ((c1 : Nat) : Int))), (3, .int (iI ((c2 : Nat) : Int)))]) hx hb dX1_areSame_44 hl (k := 5) rfl (iI_inc (by omega)) (by decide) rfl (fun ls hl => ?_)
          refine lv_goto (tgt := 6) hx hb dX1_areSame_47 (by decide) ?_
          have hl : lv_has ls 6 [(5, .int (iI ((n + 1 : Nat) : Int))), (4, .int (iI (bI (alN (eqB (rw_ r a0 a1) c1 c2) (n + 1) = true)))), (0, .ref m0), (1, .int (iI ((r : Nat) : Int))), (2, .int (iI ((c1 : Nat) : Int))), (3, .int (iI ((c2 : Nat) : Int)))] := by
            have e9 : iI 0 = iI (bI (alN (eqB (rw_ r a0 a1) c1 c2) (n + 1) = true)) := al_2 (decide_eq_false (by omega))
            rw [← e9]; exact hl
          exact ih_6_1 (n + 1) (by omega)  _ (lv_sub hl [2, 3, 4, 5, 1, 0] rfl)
        · skip
          refine ib_const hx hb dX1_areSame_37 ?_
          refine lv_goto (tgt := 42) hx hb dX1_areSame_38 (by decide) ?_
          refine lv_istore (lv' := [(4, .int (iI 1)), (0, .ref m0), (1, .int (iI ((r : Nat) : Int))), (2, .int (iI ((c1 : Nat) : Int))), (3, .int (iI ((c2 : Nat) : Int))), (5, .int (iI ((n : Nat) : Int)))]) hx hb dX1_areSame_42 hl (by decide) rfl (fun ls hl => ?_)
          refine lv_iinc (v := iI ((n + 1 : Nat) : Int)) (lv' := [(5, .int (iI ((n + 1 : Nat) : Int))), (4, .int (iI 1)), (0, .ref m0), (1, .int (iI ((r : Nat) : Int))), (2, .int (iI ((c1 : Nat) : Int))), (3, .int (iI ((c2 : Nat) : Int)))]) hx hb dX1_areSame_44 hl (k := 5) rfl (iI_inc (by omega)) (by decide) rfl (fun ls hl => ?_)
          refine lv_goto (tgt := 6) hx hb dX1_areSame_47 (by decide) ?_
          have hl : lv_has ls 6 [(5, .int (iI ((n + 1 : Nat) : Int))), (4, .int (iI (bI (alN (eqB (rw_ r a0 a1) c1 c2) (n + 1) = true)))), (0, .ref m0), (1, .int (iI ((r : Nat) : Int))), (2, .int (iI ((c1 : Nat) : Int))), (3, .int (iI ((c2 : Nat) : Int)))] := by
            have e9 : iI 1 = iI (bI (alN (eqB (rw_ r a0 a1) c1 c2) (n + 1) = true)) := al_1 c_15 (decide_eq_true (by omega))
            rw [← e9]; exact hl
          exact ih_6_1 (n + 1) (by omega)  _ (lv_sub hl [2, 3, 4, 5, 1, 0] rfl)
  exact lp_6_1 12 0 (by omega)  _ (lv_sub hl [2, 3, 4, 5, 1, 0] rfl)

set_option maxHeartbeats 4000000 in
set_option maxRecDepth 100000 in
theorem mX1_setOf (l : Launch) (dC : Nat → ClassId) (dI : Nat → Nat → Nat) (cI : ClassId) (m0 t0 k0 p0 : Nat) (a0 a1 K q : Nat → Nat) (th : Int32) (w : Nat) (h0 : lt12 a0) (h1 : lt12 a1) (hw : w ≤ 12) (hq : ∀ i, i < w → q i < 12) (r code i k : Nat) (hr9 : r < 2) (hc : code < 48) (hi : i + k ≤ 12) : rd l yX1_setOf wsX1_setOf { frames := 2, cells := 0, slots := 0, locals := 48 } [.ref m0, .int (iI ((r : Nat) : Int)), .int (iI ((code : Nat) : Int)), .int (iI ((i : Nat) : Int)), .int (iI ((k : Nat) : Int))] (bW (dC, dI) [(m0, .inr (1, [.int th, .ref t0, .ref k0, .ref p0, .int (iI ((w : Nat) : Int))])), (t0, .inl (cI, 24, .inl (fun j => iI ((tb a0 a1 j : Nat) : Int)))), (k0, .inl (cI, 12, .inl (fun j => iI ((K j : Nat) : Int)))), (p0, .inl (cI, 12, .inl (fun j => iI ((q j : Nat) : Int))))] [(cI, .int)]) (some (.int (iI ((setF (fm (rw_ r a0 a1) code) i k : Nat) : Int)))) := by
  refine Met.ofW (cc := cX1_setOf) (maxL := 7) (ret := (some .int)) (by decide) rfl ?_
  intro P0 e s m args below meth c s₁ B hml hv
  obtain ⟨rfl, hP, hK⟩ := hv
  have hx := B.exec
  have hb := B.bytes
  have hr := B.returns
  have hts := atoms_spec (ws := wsX1_setOf) B.pre
  have hown : s.vm.findClass RX1 = some m.cls := findClass_of_methodNamed B.named
  have hlocks := B.notSynchronized
  have hinX : ∀ w ∈ u_ws RX1 TX1 5, w ∈ wsX1_setOf := by decide +kernel
  have hl := lv_entry ([.ref m0, .int (iI ((r : Nat) : Int)), .int (iI ((code : Nat) : Int)), .int (iI ((i : Nat) : Int)), .int (iI ((k : Nat) : Int))]) (n := 7) (Nat.le_of_ble_eq_true rfl)
  rw [lg_entry_eq]
  generalize (lg_sl ([.ref m0, .int (iI ((r : Nat) : Int)), .int (iI ((code : Nat) : Int)), .int (iI ((i : Nat) : Int)), .int (iI ((k : Nat) : Int))]) ++ List.replicate (7 - (lg_sl ([.ref m0, .int (iI ((r : Nat) : Int)), .int (iI ((code : Nat) : Int)), .int (iI ((i : Nat) : Int)), .int (iI ((k : Nat) : Int))])).length) Slot.unset).toArray = ls at hl ⊢
  have hl : lv_has ls 7 [(0, .ref m0), (1, .int (iI ((r : Nat) : Int))), (2, .int (iI ((code : Nat) : Int))), (3, .int (iI ((i : Nat) : Int))), (4, .int (iI ((k : Nat) : Int)))] := hl
  refine ib_const hx hb dX1_setOf_0 ?_
  refine lv_istore (lv' := [(5, .int (iI 0)), (0, .ref m0), (1, .int (iI ((r : Nat) : Int))), (2, .int (iI ((code : Nat) : Int))), (3, .int (iI ((i : Nat) : Int))), (4, .int (iI ((k : Nat) : Int)))]) hx hb dX1_setOf_1 hl (by decide) rfl (fun ls hl => ?_)
  refine ib_const hx hb dX1_setOf_3 ?_
  refine lv_istore (lv' := [(6, .int (iI 0)), (5, .int (iI 0)), (0, .ref m0), (1, .int (iI ((r : Nat) : Int))), (2, .int (iI ((code : Nat) : Int))), (3, .int (iI ((i : Nat) : Int))), (4, .int (iI ((k : Nat) : Int)))]) hx hb dX1_setOf_4 hl (by decide) rfl (fun ls hl => ?_)
  have lp_6_1 : ∀ (j n : Nat), n + j = k → ∀ ls : Array Slot, lv_has ls 7 [(0, .ref m0), (1, .int (iI ((r : Nat) : Int))), (2, .int (iI ((code : Nat) : Int))), (3, .int (iI ((i : Nat) : Int))), (4, .int (iI ((k : Nat) : Int))), (5, .int (iI ((setF (fm (rw_ r a0 a1) code) i n : Nat) : Int))), (6, .int (iI ((n : Nat) : Int)))] → W P0 l e (headSpec wsX1_setOf { frames := 2, cells := 0, slots := 0, locals := 48 }).room s m ([.ref m0, .int (iI ((r : Nat) : Int)), .int (iI ((code : Nat) : Int)), .int (iI ((i : Nat) : Int)), .int (iI ((k : Nat) : Int))] : List Value).toArray below meth c s.heap [] 0 0 (MQ below (rdQ (some (.int (iI ((setF (fm (rw_ r a0 a1) code) i k : Nat) : Int))))) ([.ref m0, .int (iI ((r : Nat) : Int)), .int (iI ((code : Nat) : Int)), .int (iI ((i : Nat) : Int)), .int (iI ((k : Nat) : Int))] : List Value).toArray s 0 0 (fun _ => False)) (F0 m 6 ls []) := by
    intro j
    induction j with
    | zero =>
      intro n hn_6  ls hl
      have hs9 := setF_lt (fm_lt (rw_ r a0 a1) code) i n
      refine lv_iload hx hb dX1_setOf_6 (lv_at hl 6 rfl) ?_
      refine lv_iload hx hb dX1_setOf_8 (lv_at hl 4 rfl) ?_
      refine ib_icmp_ge (tgt := 36) hx hb dX1_setOf_10 (by decide) ⟨by omega, by omega⟩ ⟨by omega, by omega⟩ (fun c_10 => ?_) (fun c_10 => absurd c_10 (by omega))
      refine lv_iload hx hb dX1_setOf_36 (lv_at hl 5 rfl) ?_
      refine st_i (y := iI ((setF (fm (rw_ r a0 a1) code) i k : Nat) : Int)) (congrArg (fun z : Nat => iI ((setF (fm (rw_ r a0 a1) code) i z : Nat) : Int)) (show n = k by omega)) ?_
      exact W.iret hx hb hr (fun t ht _ => ⟨rfl, ht⟩) (fun _ h => nomatch h) dX1_setOf_38
    | succ j ih_6_1 =>
      intro n hn_6  ls hl
      have hs9 := setF_lt (fm_lt (rw_ r a0 a1) code) i n
      refine lv_iload hx hb dX1_setOf_6 (lv_at hl 6 rfl) ?_
      refine lv_iload hx hb dX1_setOf_8 (lv_at hl 4 rfl) ?_
      refine ib_icmp_ge (tgt := 36) hx hb dX1_setOf_10 (by decide) ⟨by omega, by omega⟩ ⟨by omega, by omega⟩ (fun c_10 => absurd c_10 (by omega)) (fun c_10 => ?_)
      refine lv_iload hx hb dX1_setOf_13 (lv_at hl 5 rfl) ?_
      refine ib_const hx hb dX1_setOf_15 ?_
      refine lv_aload_n hx hb dX1_setOf_16 rfl (lv_at hl 0 rfl) ?_
      refine lv_iload_n hx hb dX1_setOf_17 rfl (lv_at hl 1 rfl) ?_
      refine lv_iload_n hx hb dX1_setOf_18 rfl (lv_at hl 2 rfl) ?_
      refine lv_iload_n hx hb dX1_setOf_19 rfl (lv_at hl 3 rfl) ?_
      refine lv_iload hx hb dX1_setOf_20 (lv_at hl 6 rfl) ?_
      refine ib_add (z := ((i + n : Nat) : Int)) hx hb dX1_setOf_22 (by omega) ?_
      refine rd_call (va_runV (As := [.int (iI ((r : Nat) : Int)), .int (iI ((code : Nat) : Int)), .int (iI ((i + n : Nat) : Int))]) (rest := [.int (iI 1), .int (iI ((setF (fm (rw_ r a0 a1) code) i n : Nat) : Int))]) ⟨hx, hb, hml, hown, hts⟩ (mX1_formAt l dC dI cI m0 t0 k0 p0 a0 a1 K q th w h0 h1 hw hq r code (i + n) (by omega) (by omega) (by omega)) (cwV 3 hts gX1_setOf_X1_formAt rfl rfl rfl hvX1_formAt ⟨Nat.le_of_ble_eq_true rfl, Nat.le_of_ble_eq_true rfl⟩) (bW_pre (ci := 1) (q0 := 0) hK hP rfl rfl rfl) rfl rfl hl.1 rfl (lv_room (Nat.le_of_ble_eq_true rfl)) dX1_setOf_23 ⟨Nat.le_of_ble_eq_true rfl, Nat.le_of_ble_eq_true rfl⟩) ?_
      have hf_23 := fm_lt (rw_ r a0 a1) code (i + n)
      refine lv_ishl hx hb dX1_setOf_26 ?_
      refine st_i (y := iI ((2 ^ fm (rw_ r a0 a1) code (i + n) : Nat) : Int)) (ir_shl1 (by omega)) ?_
      refine lv_ior hx hb dX1_setOf_27 ?_
      refine st_i (y := iI ((setF (fm (rw_ r a0 a1) code) i (n + 1) : Nat) : Int)) (ir_or _ _) ?_
      refine lv_istore (lv' := [(5, .int (iI ((setF (fm (rw_ r a0 a1) code) i (n + 1) : Nat) : Int))), (0, .ref m0), (1, .int (iI ((r : Nat) : Int))), (2, .int (iI ((code : Nat) : Int))), (3, .int (iI ((i : Nat) : Int))), (4, .int (iI ((k : Nat) : Int))), (6, .int (iI ((n : Nat) : Int)))]) hx hb dX1_setOf_28 hl (by decide) rfl (fun ls hl => ?_)
      refine lv_iinc (v := iI ((n + 1 : Nat) : Int)) (lv' := [(6, .int (iI ((n + 1 : Nat) : Int))), (5, .int (iI ((setF (fm (rw_ r a0 a1) code) i (n + 1) : Nat) : Int))), (0, .ref m0), (1, .int (iI ((r : Nat) : Int))), (2, .int (iI ((code : Nat) : Int))), (3, .int (iI ((i : Nat) : Int))), (4, .int (iI ((k : Nat) : Int)))]) hx hb dX1_setOf_30 hl (k := 6) rfl (iI_inc (by omega)) (by decide) rfl (fun ls hl => ?_)
      refine lv_goto (tgt := 6) hx hb dX1_setOf_33 (by decide) ?_
      exact ih_6_1 (n + 1) (by omega)  _ (lv_sub hl [2, 3, 4, 5, 6, 1, 0] rfl)
  exact lp_6_1 k 0 (by omega)  _ (lv_sub hl [2, 3, 4, 5, 6, 1, 0] rfl)

set_option maxHeartbeats 4000000 in
set_option maxRecDepth 100000 in
theorem mX1_setsKept (l : Launch) (dC : Nat → ClassId) (dI : Nat → Nat → Nat) (cI : ClassId) (m0 t0 k0 p0 : Nat) (a0 a1 K q : Nat → Nat) (th : Int32) (w : Nat) (h0 : lt12 a0) (h1 : lt12 a1) (hw : w ≤ 12) (hq : ∀ i, i < w → q i < 12) (r code k : Nat) (hr9 : r < 2) (hc : code < 48) (hk1 : 1 ≤ k) (hk2 : k ≤ 12) : rd l yX1_setsKept wsX1_setsKept { frames := 3, cells := 0, slots := 0, locals := 74 } [.ref m0, .int (iI ((r : Nat) : Int)), .int (iI ((code : Nat) : Int)), .int (iI ((k : Nat) : Int))] (bW (dC, dI) [(m0, .inr (1, [.int th, .ref t0, .ref k0, .ref p0, .int (iI ((w : Nat) : Int))])), (t0, .inl (cI, 24, .inl (fun j => iI ((tb a0 a1 j : Nat) : Int)))), (k0, .inl (cI, 12, .inl (fun j => iI ((K j : Nat) : Int)))), (p0, .inl (cI, 12, .inl (fun j => iI ((q j : Nat) : Int))))] [(cI, .int)]) (some (.int (iI ((skN (rw_ r a0 a1) code k (13 - k) : Nat) : Int)))) := by
  refine Met.ofW (cc := cX1_setsKept) (maxL := 8) (ret := (some .int)) (by decide) rfl ?_
  intro P0 e s m args below meth c s₁ B hml hv
  obtain ⟨rfl, hP, hK⟩ := hv
  have hx := B.exec
  have hb := B.bytes
  have hr := B.returns
  have hts := atoms_spec (ws := wsX1_setsKept) B.pre
  have hown : s.vm.findClass RX1 = some m.cls := findClass_of_methodNamed B.named
  have hlocks := B.notSynchronized
  have hinX : ∀ w ∈ u_ws RX1 TX1 5, w ∈ wsX1_setsKept := by decide +kernel
  have hl := lv_entry ([.ref m0, .int (iI ((r : Nat) : Int)), .int (iI ((code : Nat) : Int)), .int (iI ((k : Nat) : Int))]) (n := 8) (Nat.le_of_ble_eq_true rfl)
  rw [lg_entry_eq]
  generalize (lg_sl ([.ref m0, .int (iI ((r : Nat) : Int)), .int (iI ((code : Nat) : Int)), .int (iI ((k : Nat) : Int))]) ++ List.replicate (8 - (lg_sl ([.ref m0, .int (iI ((r : Nat) : Int)), .int (iI ((code : Nat) : Int)), .int (iI ((k : Nat) : Int))])).length) Slot.unset).toArray = ls at hl ⊢
  have hl : lv_has ls 8 [(0, .ref m0), (1, .int (iI ((r : Nat) : Int))), (2, .int (iI ((code : Nat) : Int))), (3, .int (iI ((k : Nat) : Int)))] := hl
  refine ib_const hx hb dX1_setsKept_0 ?_
  refine lv_istore (lv' := [(4, .int (iI 0)), (0, .ref m0), (1, .int (iI ((r : Nat) : Int))), (2, .int (iI ((code : Nat) : Int))), (3, .int (iI ((k : Nat) : Int)))]) hx hb dX1_setsKept_1 hl (by decide) rfl (fun ls hl => ?_)
  refine ib_const hx hb dX1_setsKept_3 ?_
  refine lv_istore (lv' := [(5, .int (iI 0)), (4, .int (iI 0)), (0, .ref m0), (1, .int (iI ((r : Nat) : Int))), (2, .int (iI ((code : Nat) : Int))), (3, .int (iI ((k : Nat) : Int)))]) hx hb dX1_setsKept_4 hl (by decide) rfl (fun ls hl => ?_)
  have lp_6_1 : ∀ (j n : Nat), n + j = 13 - k → ∀ ls : Array Slot, lv_has ls 8 [(0, .ref m0), (1, .int (iI ((r : Nat) : Int))), (2, .int (iI ((code : Nat) : Int))), (3, .int (iI ((k : Nat) : Int))), (4, .int (iI ((skN (rw_ r a0 a1) code k n : Nat) : Int))), (5, .int (iI ((n : Nat) : Int)))] → W P0 l e (headSpec wsX1_setsKept { frames := 3, cells := 0, slots := 0, locals := 74 }).room s m ([.ref m0, .int (iI ((r : Nat) : Int)), .int (iI ((code : Nat) : Int)), .int (iI ((k : Nat) : Int))] : List Value).toArray below meth c s.heap [] 0 0 (MQ below (rdQ (some (.int (iI ((skN (rw_ r a0 a1) code k (13 - k) : Nat) : Int))))) ([.ref m0, .int (iI ((r : Nat) : Int)), .int (iI ((code : Nat) : Int)), .int (iI ((k : Nat) : Int))] : List Value).toArray s 0 0 (fun _ => False)) (F0 m 6 ls []) := by
    intro j
    induction j with
    | zero =>
      intro n hn_6  ls hl
      have hs9 := skN_le (rw_ r a0 a1) code k n
      refine lv_iload hx hb dX1_setsKept_6 (lv_at hl 5 rfl) ?_
      refine lv_iload_n hx hb dX1_setsKept_8 rfl (lv_at hl 3 rfl) ?_
      refine ib_add (z := ((n + k : Nat) : Int)) hx hb dX1_setsKept_9 (by omega) ?_
      refine ib_bi hx hb dX1_setsKept_10 (by decide) ?_
      refine ib_icmp_gt (tgt := 94) hx hb dX1_setsKept_12 (by decide) ⟨by omega, by omega⟩ ⟨by omega, by omega⟩ (fun c_12 => ?_) (fun c_12 => absurd c_12 (by omega))
      refine lv_iload hx hb dX1_setsKept_94 (lv_at hl 4 rfl) ?_
      refine st_i (y := iI ((skN (rw_ r a0 a1) code k (13 - k) : Nat) : Int)) (congrArg (fun z : Nat => iI ((skN (rw_ r a0 a1) code k z : Nat) : Int)) (show n = 13 - k by omega)) ?_
      exact W.iret hx hb hr (fun t ht _ => ⟨rfl, ht⟩) (fun _ h => nomatch h) dX1_setsKept_96
    | succ j ih_6_1 =>
      intro n hn_6  ls hl
      have hs9 := skN_le (rw_ r a0 a1) code k n
      refine lv_iload hx hb dX1_setsKept_6 (lv_at hl 5 rfl) ?_
      refine lv_iload_n hx hb dX1_setsKept_8 rfl (lv_at hl 3 rfl) ?_
      refine ib_add (z := ((n + k : Nat) : Int)) hx hb dX1_setsKept_9 (by omega) ?_
      refine ib_bi hx hb dX1_setsKept_10 (by decide) ?_
      refine ib_icmp_gt (tgt := 94) hx hb dX1_setsKept_12 (by decide) ⟨by omega, by omega⟩ ⟨by omega, by omega⟩ (fun c_12 => absurd c_12 (by omega)) (fun c_12 => ?_)
      refine ib_const hx hb dX1_setsKept_15 ?_
      refine lv_istore (lv' := [(6, .int (iI 0)), (0, .ref m0), (1, .int (iI ((r : Nat) : Int))), (2, .int (iI ((code : Nat) : Int))), (3, .int (iI ((k : Nat) : Int))), (4, .int (iI ((skN (rw_ r a0 a1) code k n : Nat) : Int))), (5, .int (iI ((n : Nat) : Int)))]) hx hb dX1_setsKept_16 hl (by decide) rfl (fun ls hl => ?_)
      have hl : lv_has ls 8 [(6, .int (iI (bI (orN (kpB (rw_ r a0 a1) code k n) 0 = true)))), (0, .ref m0), (1, .int (iI ((r : Nat) : Int))), (2, .int (iI ((code : Nat) : Int))), (3, .int (iI ((k : Nat) : Int))), (4, .int (iI ((skN (rw_ r a0 a1) code k n : Nat) : Int))), (5, .int (iI ((n : Nat) : Int)))] := by
        have e9 : iI 0 = iI (bI (orN (kpB (rw_ r a0 a1) code k n) 0 = true)) := congrArg iI (bI_f (by simp [orN])).symm
        rw [← e9]; exact hl
      refine ib_const hx hb dX1_setsKept_18 ?_
      refine lv_istore (lv' := [(7, .int (iI 0)), (6, .int (iI (bI (orN (kpB (rw_ r a0 a1) code k n) 0 = true)))), (0, .ref m0), (1, .int (iI ((r : Nat) : Int))), (2, .int (iI ((code : Nat) : Int))), (3, .int (iI ((k : Nat) : Int))), (4, .int (iI ((skN (rw_ r a0 a1) code k n : Nat) : Int))), (5, .int (iI ((n : Nat) : Int)))]) hx hb dX1_setsKept_19 hl (by decide) rfl (fun ls hl => ?_)
      have lp_21_2 : ∀ (j o : Nat), o + j = 13 - k → ∀ ls : Array Slot, lv_has ls 8 [(0, .ref m0), (1, .int (iI ((r : Nat) : Int))), (2, .int (iI ((code : Nat) : Int))), (3, .int (iI ((k : Nat) : Int))), (4, .int (iI ((skN (rw_ r a0 a1) code k n : Nat) : Int))), (5, .int (iI ((n : Nat) : Int))), (6, .int (iI (bI (orN (kpB (rw_ r a0 a1) code k n) o = true)))), (7, .int (iI ((o : Nat) : Int)))] → W P0 l e (headSpec wsX1_setsKept { frames := 3, cells := 0, slots := 0, locals := 74 }).room s m ([.ref m0, .int (iI ((r : Nat) : Int)), .int (iI ((code : Nat) : Int)), .int (iI ((k : Nat) : Int))] : List Value).toArray below meth c s.heap [] 0 0 (MQ below (rdQ (some (.int (iI ((skN (rw_ r a0 a1) code k (13 - k) : Nat) : Int))))) ([.ref m0, .int (iI ((r : Nat) : Int)), .int (iI ((code : Nat) : Int)), .int (iI ((k : Nat) : Int))] : List Value).toArray s 0 0 (fun _ => False)) (F0 m 21 ls []) := by
        intro j
        induction j with
        | zero =>
          intro o hn_21  ls hl
          have hno : o = 13 - k := by omega
          refine lv_iload hx hb dX1_setsKept_21 (lv_at hl 7 rfl) ?_
          refine lv_iload_n hx hb dX1_setsKept_23 rfl (lv_at hl 3 rfl) ?_
          refine ib_add (z := ((o + k : Nat) : Int)) hx hb dX1_setsKept_24 (by omega) ?_
          refine ib_bi hx hb dX1_setsKept_25 (by decide) ?_
          refine ib_icmp_gt (tgt := 73) hx hb dX1_setsKept_27 (by decide) ⟨by omega, by omega⟩ ⟨by omega, by omega⟩ (fun c_27 => ?_) (fun c_27 => absurd c_27 (by omega))
          refine lv_iload hx hb dX1_setsKept_73 (lv_at hl 4 rfl) ?_
          refine lv_iload hx hb dX1_setsKept_75 (lv_at hl 6 rfl) ?_
          refine bb_eq (tgt := 84) hx hb dX1_setsKept_77 (by decide) (fun c_77 => ?_) (fun c_77 => ?_)
          · skip
            refine ib_const hx hb dX1_setsKept_84 ?_
            refine ib_add (z := (((skN (rw_ r a0 a1) code k n) + 0 : Nat) : Int)) hx hb dX1_setsKept_85 (by omega) ?_
            refine lv_istore (lv' := [(4, .int (iI (((skN (rw_ r a0 a1) code k n) + 0 : Nat) : Int))), (0, .ref m0), (1, .int (iI ((r : Nat) : Int))), (2, .int (iI ((code : Nat) : Int))), (3, .int (iI ((k : Nat) : Int))), (5, .int (iI ((n : Nat) : Int))), (6, .int (iI (bI (orN (kpB (rw_ r a0 a1) code k n) o = true)))), (7, .int (iI ((o : Nat) : Int)))]) hx hb dX1_setsKept_86 hl (by decide) rfl (fun ls hl => ?_)
            refine lv_iinc (v := iI ((n + 1 : Nat) : Int)) (lv' := [(5, .int (iI ((n + 1 : Nat) : Int))), (4, .int (iI (((skN (rw_ r a0 a1) code k n) + 0 : Nat) : Int))), (0, .ref m0), (1, .int (iI ((r : Nat) : Int))), (2, .int (iI ((code : Nat) : Int))), (3, .int (iI ((k : Nat) : Int))), (6, .int (iI (bI (orN (kpB (rw_ r a0 a1) code k n) o = true)))), (7, .int (iI ((o : Nat) : Int)))]) hx hb dX1_setsKept_88 hl (k := 5) rfl (iI_inc (by omega)) (by decide) rfl (fun ls hl => ?_)
            refine lv_goto (tgt := 6) hx hb dX1_setsKept_91 (by decide) ?_
            have hl : lv_has ls 8 [(5, .int (iI ((n + 1 : Nat) : Int))), (4, .int (iI ((skN (rw_ r a0 a1) code k (n + 1) : Nat) : Int))), (0, .ref m0), (1, .int (iI ((r : Nat) : Int))), (2, .int (iI ((code : Nat) : Int))), (3, .int (iI ((k : Nat) : Int))), (6, .int (iI (bI (orN (kpB (rw_ r a0 a1) code k n) o = true)))), (7, .int (iI ((o : Nat) : Int)))] := by
              have e9 : iI (((skN (rw_ r a0 a1) code k n) + 0 : Nat) : Int) = iI ((skN (rw_ r a0 a1) code k (n + 1) : Nat) : Int) := congrArg (fun z : Nat => iI ((z : Nat) : Int)) (skN_f (hno ▸ c_77))
              rw [← e9]; exact hl
            exact ih_6_1 (n + 1) (by omega)  _ (lv_sub hl [2, 3, 4, 5, 1, 0] rfl)
          · skip
            refine ib_const hx hb dX1_setsKept_80 ?_
            refine lv_goto (tgt := 85) hx hb dX1_setsKept_81 (by decide) ?_
            refine ib_add (z := (((skN (rw_ r a0 a1) code k n) + 1 : Nat) : Int)) hx hb dX1_setsKept_85 (by omega) ?_
            refine lv_istore (lv' := [(4, .int (iI (((skN (rw_ r a0 a1) code k n) + 1 : Nat) : Int))), (0, .ref m0), (1, .int (iI ((r : Nat) : Int))), (2, .int (iI ((code : Nat) : Int))), (3, .int (iI ((k : Nat) : Int))), (5, .int (iI ((n : Nat) : Int))), (6, .int (iI (bI (orN (kpB (rw_ r a0 a1) code k n) o = true)))), (7, .int (iI ((o : Nat) : Int)))]) hx hb dX1_setsKept_86 hl (by decide) rfl (fun ls hl => ?_)
            refine lv_iinc (v := iI ((n + 1 : Nat) : Int)) (lv' := [(5, .int (iI ((n + 1 : Nat) : Int))), (4, .int (iI (((skN (rw_ r a0 a1) code k n) + 1 : Nat) : Int))), (0, .ref m0), (1, .int (iI ((r : Nat) : Int))), (2, .int (iI ((code : Nat) : Int))), (3, .int (iI ((k : Nat) : Int))), (6, .int (iI (bI (orN (kpB (rw_ r a0 a1) code k n) o = true)))), (7, .int (iI ((o : Nat) : Int)))]) hx hb dX1_setsKept_88 hl (k := 5) rfl (iI_inc (by omega)) (by decide) rfl (fun ls hl => ?_)
            refine lv_goto (tgt := 6) hx hb dX1_setsKept_91 (by decide) ?_
            have hl : lv_has ls 8 [(5, .int (iI ((n + 1 : Nat) : Int))), (4, .int (iI ((skN (rw_ r a0 a1) code k (n + 1) : Nat) : Int))), (0, .ref m0), (1, .int (iI ((r : Nat) : Int))), (2, .int (iI ((code : Nat) : Int))), (3, .int (iI ((k : Nat) : Int))), (6, .int (iI (bI (orN (kpB (rw_ r a0 a1) code k n) o = true)))), (7, .int (iI ((o : Nat) : Int)))] := by
              have e9 : iI (((skN (rw_ r a0 a1) code k n) + 1 : Nat) : Int) = iI ((skN (rw_ r a0 a1) code k (n + 1) : Nat) : Int) := congrArg (fun z : Nat => iI ((z : Nat) : Int)) (skN_t (hno ▸ c_77))
              rw [← e9]; exact hl
            exact ih_6_1 (n + 1) (by omega)  _ (lv_sub hl [2, 3, 4, 5, 1, 0] rfl)
        | succ j ih_21_2 =>
          intro o hn_21  ls hl
          refine lv_iload hx hb dX1_setsKept_21 (lv_at hl 7 rfl) ?_
          refine lv_iload_n hx hb dX1_setsKept_23 rfl (lv_at hl 3 rfl) ?_
          refine ib_add (z := ((o + k : Nat) : Int)) hx hb dX1_setsKept_24 (by omega) ?_
          refine ib_bi hx hb dX1_setsKept_25 (by decide) ?_
          refine ib_icmp_gt (tgt := 73) hx hb dX1_setsKept_27 (by decide) ⟨by omega, by omega⟩ ⟨by omega, by omega⟩ (fun c_27 => absurd c_27 (by omega)) (fun c_27 => ?_)
          refine lv_iload hx hb dX1_setsKept_30 (lv_at hl 6 rfl) ?_
          refine bb_ne (tgt := 60) hx hb dX1_setsKept_32 (by decide) (fun c_32 => ?_) (fun c_32 => ?_)
          · skip
            refine ib_const hx hb dX1_setsKept_60 ?_
            refine lv_goto (tgt := 65) hx hb dX1_setsKept_61 (by decide) ?_
            refine lv_istore (lv' := [(6, .int (iI 1)), (0, .ref m0), (1, .int (iI ((r : Nat) : Int))), (2, .int (iI ((code : Nat) : Int))), (3, .int (iI ((k : Nat) : Int))), (4, .int (iI ((skN (rw_ r a0 a1) code k n : Nat) : Int))), (5, .int (iI ((n : Nat) : Int))), (7, .int (iI ((o : Nat) : Int)))]) hx hb dX1_setsKept_65 hl (by decide) rfl (fun ls hl => ?_)
            refine lv_iinc (v := iI ((o + 1 : Nat) : Int)) (lv' := [(7, .int (iI ((o + 1 : Nat) : Int))), (6, .int (iI 1)), (0, .ref m0), (1, .int (iI ((r : Nat) : Int))), (2, .int (iI ((code : Nat) : Int))), (3, .int (iI ((k : Nat) : Int))), (4, .int (iI ((skN (rw_ r a0 a1) code k n : Nat) : Int))), (5, .int (iI ((n : Nat) : Int)))]) hx hb dX1_setsKept_67 hl (k := 7) rfl (iI_inc (by omega)) (by decide) rfl (fun ls hl => ?_)
            refine lv_goto (tgt := 21) hx hb dX1_setsKept_70 (by decide) ?_
            have hl : lv_has ls 8 [(7, .int (iI ((o + 1 : Nat) : Int))), (6, .int (iI (bI (orN (kpB (rw_ r a0 a1) code k n) (o + 1) = true)))), (0, .ref m0), (1, .int (iI ((r : Nat) : Int))), (2, .int (iI ((code : Nat) : Int))), (3, .int (iI ((k : Nat) : Int))), (4, .int (iI ((skN (rw_ r a0 a1) code k n : Nat) : Int))), (5, .int (iI ((n : Nat) : Int)))] := by
              have e9 : iI 1 = iI (bI (orN (kpB (rw_ r a0 a1) code k n) (o + 1) = true)) := or_1 c_32
              rw [← e9]; exact hl
            exact ih_21_2 (o + 1) (by omega)  _ (lv_sub hl [2, 3, 4, 5, 6, 7, 1, 0] rfl)
          · skip
            refine lv_aload_n hx hb dX1_setsKept_35 rfl (lv_at hl 0 rfl) ?_
            refine lv_iload_n hx hb dX1_setsKept_36 rfl (lv_at hl 1 rfl) ?_
            refine lv_iload_n hx hb dX1_setsKept_37 rfl (lv_at hl 2 rfl) ?_
            refine lv_iload hx hb dX1_setsKept_38 (lv_at hl 7 rfl) ?_
            refine lv_iload_n hx hb dX1_setsKept_40 rfl (lv_at hl 3 rfl) ?_
            refine rd_call (va_runV (As := [.int (iI ((r : Nat) : Int)), .int (iI ((code : Nat) : Int)), .int (iI ((o : Nat) : Int)), .int (iI ((k : Nat) : Int))]) (rest := []) ⟨hx, hb, hml, hown, hts⟩ (mX1_setOf l dC dI cI m0 t0 k0 p0 a0 a1 K q th w h0 h1 hw hq r code o k (by omega) (by omega) (by omega)) (cwV 4 hts gX1_setsKept_X1_setOf rfl rfl rfl hvX1_setOf ⟨Nat.le_of_ble_eq_true rfl, Nat.le_of_ble_eq_true rfl⟩) (bW_pre (ci := 1) (q0 := 0) hK hP rfl rfl rfl) rfl rfl hl.1 rfl (lv_room (Nat.le_of_ble_eq_true rfl)) dX1_setsKept_41 ⟨Nat.le_of_ble_eq_true rfl, Nat.le_of_ble_eq_true rfl⟩) ?_
            have hs_41 := setF_lt (fm_lt (rw_ r a0 a1) code) o k
            refine lv_aload_n hx hb dX1_setsKept_44 rfl (lv_at hl 0 rfl) ?_
            refine lv_iload_n hx hb dX1_setsKept_45 rfl (lv_at hl 1 rfl) ?_
            refine lv_aload_n hx hb dX1_setsKept_46 rfl (lv_at hl 0 rfl) ?_
            refine lv_iload_n hx hb dX1_setsKept_47 rfl (lv_at hl 1 rfl) ?_
            refine rd_call (va_runV (As := [.int (iI ((r : Nat) : Int))]) (rest := [.int (iI ((r : Nat) : Int)), .ref m0, .int (iI ((setF (fm (rw_ r a0 a1) code) o k : Nat) : Int))]) ⟨hx, hb, hml, hown, hts⟩ (mX1_itself l dC dI cI m0 t0 k0 p0 a0 a1 K q th w h0 h1 hw hq r (by omega)) (cwV 1 hts gX1_setsKept_X1_itself rfl rfl rfl hvX1_itself ⟨Nat.le_of_ble_eq_true rfl, Nat.le_of_ble_eq_true rfl⟩) (bW_pre (ci := 1) (q0 := 0) hK hP rfl rfl rfl) rfl rfl hl.1 rfl (lv_room (Nat.le_of_ble_eq_true rfl)) dX1_setsKept_48 ⟨Nat.le_of_ble_eq_true rfl, Nat.le_of_ble_eq_true rfl⟩) ?_
            have hr_48 := rw_lt h0 h1 r (i := 0) (by omega)
            refine lv_iload hx hb dX1_setsKept_51 (lv_at hl 5 rfl) ?_
            refine lv_iload_n hx hb dX1_setsKept_53 rfl (lv_at hl 3 rfl) ?_
            refine rd_call (va_runV (As := [.int (iI ((r : Nat) : Int)), .int (iI ((rw_ r a0 a1 0 : Nat) : Int)), .int (iI ((n : Nat) : Int)), .int (iI ((k : Nat) : Int))]) (rest := [.int (iI ((setF (fm (rw_ r a0 a1) code) o k : Nat) : Int))]) ⟨hx, hb, hml, hown, hts⟩ (mX1_setOf l dC dI cI m0 t0 k0 p0 a0 a1 K q th w h0 h1 hw hq r (rw_ r a0 a1 0) n k (by omega) (by omega) (by omega)) (cwV 4 hts gX1_setsKept_X1_setOf rfl rfl rfl hvX1_setOf ⟨Nat.le_of_ble_eq_true rfl, Nat.le_of_ble_eq_true rfl⟩) (bW_pre (ci := 1) (q0 := 0) hK hP rfl rfl rfl) rfl rfl hl.1 rfl (lv_room (Nat.le_of_ble_eq_true rfl)) dX1_setsKept_54 ⟨Nat.le_of_ble_eq_true rfl, Nat.le_of_ble_eq_true rfl⟩) ?_
            have hs_54 := setF_lt (fm_lt (rw_ r a0 a1) (rw_ r a0 a1 0)) n k
            refine ib_icmp_ne (tgt := 64) hx hb dX1_setsKept_57 (by decide) ⟨by omega, by omega⟩ ⟨by omega, by omega⟩ (fun c_57 => ?_) (fun c_57 => ?_)
            · skip
              refine ib_const hx hb dX1_setsKept_64 ?_
              refine lv_istore (lv' := [(6, .int (iI 0)), (0, .ref m0), (1, .int (iI ((r : Nat) : Int))), (2, .int (iI ((code : Nat) : Int))), (3, .int (iI ((k : Nat) : Int))), (4, .int (iI ((skN (rw_ r a0 a1) code k n : Nat) : Int))), (5, .int (iI ((n : Nat) : Int))), (7, .int (iI ((o : Nat) : Int)))]) hx hb dX1_setsKept_65 hl (by decide) rfl (fun ls hl => ?_)
              refine lv_iinc (v := iI ((o + 1 : Nat) : Int)) (lv' := [(7, .int (iI ((o + 1 : Nat) : Int))), (6, .int (iI 0)), (0, .ref m0), (1, .int (iI ((r : Nat) : Int))), (2, .int (iI ((code : Nat) : Int))), (3, .int (iI ((k : Nat) : Int))), (4, .int (iI ((skN (rw_ r a0 a1) code k n : Nat) : Int))), (5, .int (iI ((n : Nat) : Int)))]) hx hb dX1_setsKept_67 hl (k := 7) rfl (iI_inc (by omega)) (by decide) rfl (fun ls hl => ?_)
              refine lv_goto (tgt := 21) hx hb dX1_setsKept_70 (by decide) ?_
              have hl : lv_has ls 8 [(7, .int (iI ((o + 1 : Nat) : Int))), (6, .int (iI (bI (orN (kpB (rw_ r a0 a1) code k n) (o + 1) = true)))), (0, .ref m0), (1, .int (iI ((r : Nat) : Int))), (2, .int (iI ((code : Nat) : Int))), (3, .int (iI ((k : Nat) : Int))), (4, .int (iI ((skN (rw_ r a0 a1) code k n : Nat) : Int))), (5, .int (iI ((n : Nat) : Int)))] := by
                have e9 : iI 0 = iI (bI (orN (kpB (rw_ r a0 a1) code k n) (o + 1) = true)) := or_0 c_32 (decide_eq_false (by omega))
                rw [← e9]; exact hl
              exact ih_21_2 (o + 1) (by omega)  _ (lv_sub hl [2, 3, 4, 5, 6, 7, 1, 0] rfl)
            · skip
              refine ib_const hx hb dX1_setsKept_60 ?_
              refine lv_goto (tgt := 65) hx hb dX1_setsKept_61 (by decide) ?_
              refine lv_istore (lv' := [(6, .int (iI 1)), (0, .ref m0), (1, .int (iI ((r : Nat) : Int))), (2, .int (iI ((code : Nat) : Int))), (3, .int (iI ((k : Nat) : Int))), (4, .int (iI ((skN (rw_ r a0 a1) code k n : Nat) : Int))), (5, .int (iI ((n : Nat) : Int))), (7, .int (iI ((o : Nat) : Int)))]) hx hb dX1_setsKept_65 hl (by decide) rfl (fun ls hl => ?_)
              refine lv_iinc (v := iI ((o + 1 : Nat) : Int)) (lv' := [(7, .int (iI ((o + 1 : Nat) : Int))), (6, .int (iI 1)), (0, .ref m0), (1, .int (iI ((r : Nat) : Int))), (2, .int (iI ((code : Nat) : Int))), (3, .int (iI ((k : Nat) : Int))), (4, .int (iI ((skN (rw_ r a0 a1) code k n : Nat) : Int))), (5, .int (iI ((n : Nat) : Int)))]) hx hb dX1_setsKept_67 hl (k := 7) rfl (iI_inc (by omega)) (by decide) rfl (fun ls hl => ?_)
              refine lv_goto (tgt := 21) hx hb dX1_setsKept_70 (by decide) ?_
              have hl : lv_has ls 8 [(7, .int (iI ((o + 1 : Nat) : Int))), (6, .int (iI (bI (orN (kpB (rw_ r a0 a1) code k n) (o + 1) = true)))), (0, .ref m0), (1, .int (iI ((r : Nat) : Int))), (2, .int (iI ((code : Nat) : Int))), (3, .int (iI ((k : Nat) : Int))), (4, .int (iI ((skN (rw_ r a0 a1) code k n : Nat) : Int))), (5, .int (iI ((n : Nat) : Int)))] := by
                have e9 : iI 1 = iI (bI (orN (kpB (rw_ r a0 a1) code k n) (o + 1) = true)) := or_2 (decide_eq_true (by omega))
                rw [← e9]; exact hl
              exact ih_21_2 (o + 1) (by omega)  _ (lv_sub hl [2, 3, 4, 5, 6, 7, 1, 0] rfl)
      exact lp_21_2 (13 - k) 0 (by omega)  _ (lv_sub hl [2, 3, 4, 5, 6, 7, 1, 0] rfl)
  exact lp_6_1 (13 - k) 0 (by omega)  _ (lv_sub hl [2, 3, 4, 5, 1, 0] rfl)

set_option maxHeartbeats 4000000 in
set_option maxRecDepth 100000 in
theorem mX1_same (l : Launch) (dC : Nat → ClassId) (dI : Nat → Nat → Nat) (cI : ClassId) (m0 t0 k0 p0 : Nat) (a0 a1 K q : Nat → Nat) (th : Int32) (w : Nat) (h0 : lt12 a0) (h1 : lt12 a1) (hw : w ≤ 12) (hq : ∀ i, i < w → q i < 12) (r i code o : Nat) (hr9 : r < 2) (hi : i < 12) (hc : code < 48) (ho : o < 12) : rd l yX1_same wsX1_same { frames := 2, cells := 0, slots := 0, locals := 48 } [.ref m0, .int (iI ((r : Nat) : Int)), .int (iI ((i : Nat) : Int)), .int (iI ((code : Nat) : Int)), .int (iI ((o : Nat) : Int))] (bW (dC, dI) [(m0, .inr (1, [.int th, .ref t0, .ref k0, .ref p0, .int (iI ((w : Nat) : Int))])), (t0, .inl (cI, 24, .inl (fun j => iI ((tb a0 a1 j : Nat) : Int)))), (k0, .inl (cI, 12, .inl (fun j => iI ((K j : Nat) : Int)))), (p0, .inl (cI, 12, .inl (fun j => iI ((q j : Nat) : Int))))] [(cI, .int)]) (some (.int (iI ((smN (rw_ r a0 a1) (fm (rw_ r a0 a1) code) i o 12 0 : Nat) : Int)))) := by
  refine Met.ofW (cc := cX1_same) (maxL := 6) (ret := (some .int)) (by decide) rfl ?_
  intro P0 e s m args below meth c s₁ B hml hv
  obtain ⟨rfl, hP, hK⟩ := hv
  have hx := B.exec
  have hb := B.bytes
  have hr := B.returns
  have hts := atoms_spec (ws := wsX1_same) B.pre
  have hown : s.vm.findClass RX1 = some m.cls := findClass_of_methodNamed B.named
  have hlocks := B.notSynchronized
  have hinX : ∀ w ∈ u_ws RX1 TX1 5, w ∈ wsX1_same := by decide +kernel
  have hl := lv_entry ([.ref m0, .int (iI ((r : Nat) : Int)), .int (iI ((i : Nat) : Int)), .int (iI ((code : Nat) : Int)), .int (iI ((o : Nat) : Int))]) (n := 6) (Nat.le_of_ble_eq_true rfl)
  rw [lg_entry_eq]
  generalize (lg_sl ([.ref m0, .int (iI ((r : Nat) : Int)), .int (iI ((i : Nat) : Int)), .int (iI ((code : Nat) : Int)), .int (iI ((o : Nat) : Int))]) ++ List.replicate (6 - (lg_sl ([.ref m0, .int (iI ((r : Nat) : Int)), .int (iI ((i : Nat) : Int)), .int (iI ((code : Nat) : Int)), .int (iI ((o : Nat) : Int))])).length) Slot.unset).toArray = ls at hl ⊢
  have hl : lv_has ls 6 [(0, .ref m0), (1, .int (iI ((r : Nat) : Int))), (2, .int (iI ((i : Nat) : Int))), (3, .int (iI ((code : Nat) : Int))), (4, .int (iI ((o : Nat) : Int)))] := hl
  refine ib_const hx hb dX1_same_0 ?_
  refine lv_istore (lv' := [(5, .int (iI 0)), (0, .ref m0), (1, .int (iI ((r : Nat) : Int))), (2, .int (iI ((i : Nat) : Int))), (3, .int (iI ((code : Nat) : Int))), (4, .int (iI ((o : Nat) : Int)))]) hx hb dX1_same_1 hl (by decide) rfl (fun ls hl => ?_)
  have lp_3_1 : ∀ (j n : Nat), n + j = 12 → smN (rw_ r a0 a1) (fm (rw_ r a0 a1) code) i o 12 0 = smN (rw_ r a0 a1) (fm (rw_ r a0 a1) code) i o j n → ∀ ls : Array Slot, lv_has ls 6 [(0, .ref m0), (1, .int (iI ((r : Nat) : Int))), (2, .int (iI ((i : Nat) : Int))), (3, .int (iI ((code : Nat) : Int))), (4, .int (iI ((o : Nat) : Int))), (5, .int (iI ((n : Nat) : Int)))] → W P0 l e (headSpec wsX1_same { frames := 2, cells := 0, slots := 0, locals := 48 }).room s m ([.ref m0, .int (iI ((r : Nat) : Int)), .int (iI ((i : Nat) : Int)), .int (iI ((code : Nat) : Int)), .int (iI ((o : Nat) : Int))] : List Value).toArray below meth c s.heap [] 0 0 (MQ below (rdQ (some (.int (iI ((smN (rw_ r a0 a1) (fm (rw_ r a0 a1) code) i o 12 0 : Nat) : Int))))) ([.ref m0, .int (iI ((r : Nat) : Int)), .int (iI ((i : Nat) : Int)), .int (iI ((code : Nat) : Int)), .int (iI ((o : Nat) : Int))] : List Value).toArray s 0 0 (fun _ => False)) (F0 m 3 ls []) := by
    intro j
    induction j with
    | zero =>
      intro n hn_3 hqq ls hl
      refine lv_iload_n hx hb dX1_same_3 rfl (lv_at hl 2 rfl) ?_
      refine lv_iload hx hb dX1_same_4 (lv_at hl 5 rfl) ?_
      refine ib_add (z := ((i + n : Nat) : Int)) hx hb dX1_same_6 (by omega) ?_
      refine ib_bi hx hb dX1_same_7 (by decide) ?_
      refine ib_icmp_ge (tgt := 51) hx hb dX1_same_9 (by decide) ⟨by omega, by omega⟩ ⟨by omega, by omega⟩ (fun c_9 => ?_) (fun c_9 => absurd c_9 (by omega))
      refine lv_iload hx hb dX1_same_51 (lv_at hl 5 rfl) ?_
      refine st_i (y := iI ((smN (rw_ r a0 a1) (fm (rw_ r a0 a1) code) i o 12 0 : Nat) : Int)) (congrArg (fun z : Nat => iI ((z : Nat) : Int)) hqq.symm) ?_
      exact W.iret hx hb hr (fun t ht _ => ⟨rfl, ht⟩) (fun _ h => nomatch h) dX1_same_53
    | succ j ih_3_1 =>
      intro n hn_3 hqq ls hl
      refine lv_iload_n hx hb dX1_same_3 rfl (lv_at hl 2 rfl) ?_
      refine lv_iload hx hb dX1_same_4 (lv_at hl 5 rfl) ?_
      refine ib_add (z := ((i + n : Nat) : Int)) hx hb dX1_same_6 (by omega) ?_
      refine ib_bi hx hb dX1_same_7 (by decide) ?_
      refine ib_icmp_ge (tgt := 51) hx hb dX1_same_9 (by decide) ⟨by omega, by omega⟩ ⟨by omega, by omega⟩ (fun c_9 => ?_) (fun c_9 => ?_)
      · skip
        refine lv_iload hx hb dX1_same_51 (lv_at hl 5 rfl) ?_
        refine st_i (y := iI ((smN (rw_ r a0 a1) (fm (rw_ r a0 a1) code) i o 12 0 : Nat) : Int)) (congrArg (fun z : Nat => iI ((z : Nat) : Int)) (hqq.trans (smN_stop (by omega))).symm) ?_
        exact W.iret hx hb hr (fun t ht _ => ⟨rfl, ht⟩) (fun _ h => nomatch h) dX1_same_53
      · skip
        refine lv_iload hx hb dX1_same_12 (lv_at hl 4 rfl) ?_
        refine lv_iload hx hb dX1_same_14 (lv_at hl 5 rfl) ?_
        refine ib_add (z := ((o + n : Nat) : Int)) hx hb dX1_same_16 (by omega) ?_
        refine ib_bi hx hb dX1_same_17 (by decide) ?_
        refine ib_icmp_ge (tgt := 51) hx hb dX1_same_19 (by decide) ⟨by omega, by omega⟩ ⟨by omega, by omega⟩ (fun c_19 => ?_) (fun c_19 => ?_)
        · skip
          refine lv_iload hx hb dX1_same_51 (lv_at hl 5 rfl) ?_
          refine st_i (y := iI ((smN (rw_ r a0 a1) (fm (rw_ r a0 a1) code) i o 12 0 : Nat) : Int)) (congrArg (fun z : Nat => iI ((z : Nat) : Int)) (hqq.trans (smN_stop (by omega))).symm) ?_
          exact W.iret hx hb hr (fun t ht _ => ⟨rfl, ht⟩) (fun _ h => nomatch h) dX1_same_53
        · skip
          refine lv_aload_n hx hb dX1_same_22 rfl (lv_at hl 0 rfl) ?_
          refine lv_iload_n hx hb dX1_same_23 rfl (lv_at hl 1 rfl) ?_
          refine lv_iload_n hx hb dX1_same_24 rfl (lv_at hl 2 rfl) ?_
          refine lv_iload hx hb dX1_same_25 (lv_at hl 5 rfl) ?_
          refine ib_add (z := ((i + n : Nat) : Int)) hx hb dX1_same_27 (by omega) ?_
          refine rd_call (va_runV (As := [.int (iI ((r : Nat) : Int)), .int (iI ((i + n : Nat) : Int))]) (rest := []) ⟨hx, hb, hml, hown, hts⟩ (mX1_at l dC dI cI m0 t0 k0 p0 a0 a1 K q th w h0 h1 hw hq r (i + n) (by omega) (by omega)) (cwV 2 hts gX1_same_X1_at rfl rfl rfl hvX1_at ⟨Nat.le_of_ble_eq_true rfl, Nat.le_of_ble_eq_true rfl⟩) (bW_pre (ci := 1) (q0 := 0) hK hP rfl rfl rfl) rfl rfl hl.1 rfl (lv_room (Nat.le_of_ble_eq_true rfl)) dX1_same_28 ⟨Nat.le_of_ble_eq_true rfl, Nat.le_of_ble_eq_true rfl⟩) ?_
          have hr_28 := rw_lt h0 h1 r (i := i + n) (by omega)
          refine lv_aload_n hx hb dX1_same_31 rfl (lv_at hl 0 rfl) ?_
          refine lv_iload_n hx hb dX1_same_32 rfl (lv_at hl 1 rfl) ?_
          refine lv_iload_n hx hb dX1_same_33 rfl (lv_at hl 3 rfl) ?_
          refine lv_iload hx hb dX1_same_34 (lv_at hl 4 rfl) ?_
          refine lv_iload hx hb dX1_same_36 (lv_at hl 5 rfl) ?_
          refine ib_add (z := ((o + n : Nat) : Int)) hx hb dX1_same_38 (by omega) ?_
          refine rd_call (va_runV (As := [.int (iI ((r : Nat) : Int)), .int (iI ((code : Nat) : Int)), .int (iI ((o + n : Nat) : Int))]) (rest := [.int (iI ((rw_ r a0 a1 (i + n) : Nat) : Int))]) ⟨hx, hb, hml, hown, hts⟩ (mX1_formAt l dC dI cI m0 t0 k0 p0 a0 a1 K q th w h0 h1 hw hq r code (o + n) (by omega) (by omega) (by omega)) (cwV 3 hts gX1_same_X1_formAt rfl rfl rfl hvX1_formAt ⟨Nat.le_of_ble_eq_true rfl, Nat.le_of_ble_eq_true rfl⟩) (bW_pre (ci := 1) (q0 := 0) hK hP rfl rfl rfl) rfl rfl hl.1 rfl (lv_room (Nat.le_of_ble_eq_true rfl)) dX1_same_39 ⟨Nat.le_of_ble_eq_true rfl, Nat.le_of_ble_eq_true rfl⟩) ?_
          have hf_39 := fm_lt (rw_ r a0 a1) code (o + n)
          refine ib_icmp_ne (tgt := 51) hx hb dX1_same_42 (by decide) ⟨by omega, by omega⟩ ⟨by omega, by omega⟩ (fun c_42 => ?_) (fun c_42 => ?_)
          · skip
            refine lv_iload hx hb dX1_same_51 (lv_at hl 5 rfl) ?_
            refine st_i (y := iI ((smN (rw_ r a0 a1) (fm (rw_ r a0 a1) code) i o 12 0 : Nat) : Int)) (congrArg (fun z : Nat => iI ((z : Nat) : Int)) (hqq.trans (smN_stop (by omega))).symm) ?_
            exact W.iret hx hb hr (fun t ht _ => ⟨rfl, ht⟩) (fun _ h => nomatch h) dX1_same_53
          · skip
            refine lv_iinc (v := iI ((n + 1 : Nat) : Int)) (lv' := [(5, .int (iI ((n + 1 : Nat) : Int))), (0, .ref m0), (1, .int (iI ((r : Nat) : Int))), (2, .int (iI ((i : Nat) : Int))), (3, .int (iI ((code : Nat) : Int))), (4, .int (iI ((o : Nat) : Int)))]) hx hb dX1_same_45 hl (k := 5) rfl (iI_inc (by omega)) (by decide) rfl (fun ls hl => ?_)
            refine lv_goto (tgt := 3) hx hb dX1_same_48 (by decide) ?_
            exact ih_3_1 (n + 1) (by omega) (hqq.trans (smN_go (by omega))) _ (lv_sub hl [1, 2, 3, 4, 5, 0] rfl)
  exact lp_3_1 12 0 (by omega) (rfl) _ (lv_sub hl [1, 2, 3, 4, 5, 0] rfl)

set_option maxHeartbeats 4000000 in
set_option maxRecDepth 100000 in
theorem mX1_isWritten (l : Launch) (dC : Nat → ClassId) (dI : Nat → Nat → Nat) (cI : ClassId) (m0 t0 k0 p0 : Nat) (a0 a1 K q : Nat → Nat) (th : Int32) (w : Nat) (h0 : lt12 a0) (h1 : lt12 a1) (hw : w ≤ 12) (hq : ∀ i, i < w → q i < 12) (t : Nat) (ht : t < 12) : rd l yX1_isWritten wsX1_isWritten { frames := 0, cells := 0, slots := 0, locals := 0 } [.ref m0, .int (iI ((t : Nat) : Int))] (bW (dC, dI) [(m0, .inr (1, [.int th, .ref t0, .ref k0, .ref p0, .int (iI ((w : Nat) : Int))])), (t0, .inl (cI, 24, .inl (fun j => iI ((tb a0 a1 j : Nat) : Int)))), (k0, .inl (cI, 12, .inl (fun j => iI ((K j : Nat) : Int)))), (p0, .inl (cI, 12, .inl (fun j => iI ((q j : Nat) : Int))))] [(cI, .int)]) (some (.int (iI (bI (orN (wtB q t) w = true))))) := by
  refine Met.ofW (cc := cX1_isWritten) (maxL := 4) (ret := (some .boolean)) (by decide) rfl ?_
  intro P0 e s m args below meth c s₁ B hml hv
  obtain ⟨rfl, hP, hK⟩ := hv
  have hx := B.exec
  have hb := B.bytes
  have hr := B.returns
  have hts := atoms_spec (ws := wsX1_isWritten) B.pre
  have hown : s.vm.findClass RX1 = some m.cls := findClass_of_methodNamed B.named
  have hlocks := B.notSynchronized
  have hinX : ∀ w ∈ u_ws RX1 TX1 5, w ∈ wsX1_isWritten := by decide +kernel
  have hl := lv_entry ([.ref m0, .int (iI ((t : Nat) : Int))]) (n := 4) (Nat.le_of_ble_eq_true rfl)
  rw [lg_entry_eq]
  generalize (lg_sl ([.ref m0, .int (iI ((t : Nat) : Int))]) ++ List.replicate (4 - (lg_sl ([.ref m0, .int (iI ((t : Nat) : Int))])).length) Slot.unset).toArray = ls at hl ⊢
  have hl : lv_has ls 4 [(0, .ref m0), (1, .int (iI ((t : Nat) : Int)))] := hl
  refine ib_const hx hb dX1_isWritten_0 ?_
  refine lv_istore_n (lv' := [(2, .int (iI 0)), (0, .ref m0), (1, .int (iI ((t : Nat) : Int)))]) hx hb dX1_isWritten_1 rfl hl (by decide) rfl (fun ls hl => ?_)
  have hl : lv_has ls 4 [(2, .int (iI (bI (orN (wtB q t) 0 = true)))), (0, .ref m0), (1, .int (iI ((t : Nat) : Int)))] := by
    have e9 : iI 0 = iI (bI (orN (wtB q t) 0 = true)) := congrArg iI (bI_f (by simp [orN])).symm
    rw [← e9]; exact hl
  refine ib_const hx hb dX1_isWritten_2 ?_
  refine lv_istore_n (lv' := [(3, .int (iI 0)), (2, .int (iI (bI (orN (wtB q t) 0 = true)))), (0, .ref m0), (1, .int (iI ((t : Nat) : Int)))]) hx hb dX1_isWritten_3 rfl hl (by decide) rfl (fun ls hl => ?_)
  have lp_4_1 : ∀ (j n : Nat), n + j = w → ∀ ls : Array Slot, lv_has ls 4 [(0, .ref m0), (1, .int (iI ((t : Nat) : Int))), (2, .int (iI (bI (orN (wtB q t) n = true)))), (3, .int (iI ((n : Nat) : Int)))] → W P0 l e (headSpec wsX1_isWritten { frames := 0, cells := 0, slots := 0, locals := 0 }).room s m ([.ref m0, .int (iI ((t : Nat) : Int))] : List Value).toArray below meth c s.heap [] 0 0 (MQ below (rdQ (some (.int (iI (bI (orN (wtB q t) w = true)))))) ([.ref m0, .int (iI ((t : Nat) : Int))] : List Value).toArray s 0 0 (fun _ => False)) (F0 m 4 ls []) := by
    intro j
    induction j with
    | zero =>
      intro n hn_4  ls hl
      refine lv_iload_n hx hb dX1_isWritten_4 rfl (lv_at hl 3 rfl) ?_
      refine lv_aload_n hx hb dX1_isWritten_5 rfl (lv_at hl 0 rfl) ?_
      refine va_get (D := (dC, dI)) (ci := 1) (v := .int (iI ((w : Nat) : Int))) (C := RX1) (T := TX1) (N := 5) hx hb hts hinX hown hK hP 0 rfl rfl 4 (by decide) (hts (.fieldLink RX1 88 "ToneRowsModel" "written" "I") (by decide +kernel)) (fun _ h9 => h9) rfl dX1_isWritten_6 ?_
      refine ib_icmp_ge (tgt := 38) hx hb dX1_isWritten_9 (by decide) ⟨by omega, by omega⟩ ⟨by omega, by omega⟩ (fun c_9 => ?_) (fun c_9 => absurd c_9 (by omega))
      refine lv_iload_n hx hb dX1_isWritten_38 rfl (lv_at hl 2 rfl) ?_
      refine st_i (y := iI (bI (orN (wtB q t) w = true))) (congrArg iI (bI_eq (by rw [show n = w by omega]))) ?_
      exact W.zret hx hb hr (bI_nar _) (fun t ht _ => ⟨rfl, ht⟩) (fun _ h => nomatch h) dX1_isWritten_39
    | succ j ih_4_1 =>
      intro n hn_4  ls hl
      refine lv_iload_n hx hb dX1_isWritten_4 rfl (lv_at hl 3 rfl) ?_
      refine lv_aload_n hx hb dX1_isWritten_5 rfl (lv_at hl 0 rfl) ?_
      refine va_get (D := (dC, dI)) (ci := 1) (v := .int (iI ((w : Nat) : Int))) (C := RX1) (T := TX1) (N := 5) hx hb hts hinX hown hK hP 0 rfl rfl 4 (by decide) (hts (.fieldLink RX1 88 "ToneRowsModel" "written" "I") (by decide +kernel)) (fun _ h9 => h9) rfl dX1_isWritten_6 ?_
      refine ib_icmp_ge (tgt := 38) hx hb dX1_isWritten_9 (by decide) ⟨by omega, by omega⟩ ⟨by omega, by omega⟩ (fun c_9 => absurd c_9 (by omega)) (fun c_9 => ?_)
      refine lv_iload_n hx hb dX1_isWritten_12 rfl (lv_at hl 2 rfl) ?_
      refine bb_ne (tgt := 26) hx hb dX1_isWritten_13 (by decide) (fun c_13 => ?_) (fun c_13 => ?_)
      · skip
        refine ib_const hx hb dX1_isWritten_26 ?_
        refine lv_goto (tgt := 31) hx hb dX1_isWritten_27 (by decide) ?_
        refine lv_istore_n (lv' := [(2, .int (iI 1)), (0, .ref m0), (1, .int (iI ((t : Nat) : Int))), (3, .int (iI ((n : Nat) : Int)))]) hx hb dX1_isWritten_31 rfl hl (by decide) rfl (fun ls hl => ?_)
        refine lv_iinc (v := iI ((n + 1 : Nat) : Int)) (lv' := [(3, .int (iI ((n + 1 : Nat) : Int))), (2, .int (iI 1)), (0, .ref m0), (1, .int (iI ((t : Nat) : Int)))]) hx hb dX1_isWritten_32 hl (k := 3) rfl (iI_inc (by omega)) (by decide) rfl (fun ls hl => ?_)
        refine lv_goto (tgt := 4) hx hb dX1_isWritten_35 (by decide) ?_
        have hl : lv_has ls 4 [(3, .int (iI ((n + 1 : Nat) : Int))), (2, .int (iI (bI (orN (wtB q t) (n + 1) = true)))), (0, .ref m0), (1, .int (iI ((t : Nat) : Int)))] := by
          have e9 : iI 1 = iI (bI (orN (wtB q t) (n + 1) = true)) := or_1 c_13
          rw [← e9]; exact hl
        exact ih_4_1 (n + 1) (by omega)  _ (lv_sub hl [2, 3, 1, 0] rfl)
      · skip
        refine lv_aload_n hx hb dX1_isWritten_16 rfl (lv_at hl 0 rfl) ?_
        refine va_get (D := (dC, dI)) (ci := 1) (v := .ref p0) (C := RX1) (T := TX1) (N := 5) hx hb hts hinX hown hK hP 0 rfl rfl 3 (by decide) (hts (.fieldLink RX1 16 "ToneRowsModel" "phrase" "[I") (by decide +kernel)) (fun _ h9 => h9) rfl dX1_isWritten_17 ?_
        refine lv_iload_n hx hb dX1_isWritten_20 rfl (lv_at hl 3 rfl) ?_
        have hqn := hq n (by omega)
        refine ib_ald (f := fun j => iI ((q j : Nat) : Int)) (i := n) (v := iI ((q n : Nat) : Int)) hx hb hK hP 3 0 rfl rfl (by first | rfl | omega) (by omega) (by omega) rfl dX1_isWritten_21 ?_
        refine lv_iload_n hx hb dX1_isWritten_22 rfl (lv_at hl 1 rfl) ?_
        refine ib_icmp_ne (tgt := 30) hx hb dX1_isWritten_23 (by decide) ⟨by omega, by omega⟩ ⟨by omega, by omega⟩ (fun c_23 => ?_) (fun c_23 => ?_)
        · skip
          refine ib_const hx hb dX1_isWritten_30 ?_
          refine lv_istore_n (lv' := [(2, .int (iI 0)), (0, .ref m0), (1, .int (iI ((t : Nat) : Int))), (3, .int (iI ((n : Nat) : Int)))]) hx hb dX1_isWritten_31 rfl hl (by decide) rfl (fun ls hl => ?_)
          refine lv_iinc (v := iI ((n + 1 : Nat) : Int)) (lv' := [(3, .int (iI ((n + 1 : Nat) : Int))), (2, .int (iI 0)), (0, .ref m0), (1, .int (iI ((t : Nat) : Int)))]) hx hb dX1_isWritten_32 hl (k := 3) rfl (iI_inc (by omega)) (by decide) rfl (fun ls hl => ?_)
          refine lv_goto (tgt := 4) hx hb dX1_isWritten_35 (by decide) ?_
          have hl : lv_has ls 4 [(3, .int (iI ((n + 1 : Nat) : Int))), (2, .int (iI (bI (orN (wtB q t) (n + 1) = true)))), (0, .ref m0), (1, .int (iI ((t : Nat) : Int)))] := by
            have e9 : iI 0 = iI (bI (orN (wtB q t) (n + 1) = true)) := or_0 c_13 (decide_eq_false (by omega))
            rw [← e9]; exact hl
          exact ih_4_1 (n + 1) (by omega)  _ (lv_sub hl [2, 3, 1, 0] rfl)
        · skip
          refine ib_const hx hb dX1_isWritten_26 ?_
          refine lv_goto (tgt := 31) hx hb dX1_isWritten_27 (by decide) ?_
          refine lv_istore_n (lv' := [(2, .int (iI 1)), (0, .ref m0), (1, .int (iI ((t : Nat) : Int))), (3, .int (iI ((n : Nat) : Int)))]) hx hb dX1_isWritten_31 rfl hl (by decide) rfl (fun ls hl => ?_)
          refine lv_iinc (v := iI ((n + 1 : Nat) : Int)) (lv' := [(3, .int (iI ((n + 1 : Nat) : Int))), (2, .int (iI 1)), (0, .ref m0), (1, .int (iI ((t : Nat) : Int)))]) hx hb dX1_isWritten_32 hl (k := 3) rfl (iI_inc (by omega)) (by decide) rfl (fun ls hl => ?_)
          refine lv_goto (tgt := 4) hx hb dX1_isWritten_35 (by decide) ?_
          have hl : lv_has ls 4 [(3, .int (iI ((n + 1 : Nat) : Int))), (2, .int (iI (bI (orN (wtB q t) (n + 1) = true)))), (0, .ref m0), (1, .int (iI ((t : Nat) : Int)))] := by
            have e9 : iI 1 = iI (bI (orN (wtB q t) (n + 1) = true)) := or_2 (decide_eq_true (by omega))
            rw [← e9]; exact hl
          exact ih_4_1 (n + 1) (by omega)  _ (lv_sub hl [2, 3, 1, 0] rfl)
  exact lp_4_1 w 0 (by omega)  _ (lv_sub hl [2, 3, 1, 0] rfl)

set_option maxHeartbeats 4000000 in
set_option maxRecDepth 100000 in
theorem mX1_placeIn (l : Launch) (dC : Nat → ClassId) (dI : Nat → Nat → Nat) (cI : ClassId) (m0 t0 k0 p0 : Nat) (a0 a1 K q : Nat → Nat) (th : Int32) (w : Nat) (h0 : lt12 a0) (h1 : lt12 a1) (hw : w ≤ 12) (hq : ∀ i, i < w → q i < 12) (r code : Nat) (hr9 : r < 2) (hc : code < 48) : rd l yX1_placeIn wsX1_placeIn { frames := 2, cells := 0, slots := 0, locals := 48 } [.ref m0, .int (iI ((r : Nat) : Int)), .int (iI ((code : Nat) : Int))] (bW (dC, dI) [(m0, .inr (1, [.int th, .ref t0, .ref k0, .ref p0, .int (iI ((w : Nat) : Int))])), (t0, .inl (cI, 24, .inl (fun j => iI ((tb a0 a1 j : Nat) : Int)))), (k0, .inl (cI, 12, .inl (fun j => iI ((K j : Nat) : Int)))), (p0, .inl (cI, 12, .inl (fun j => iI ((q j : Nat) : Int))))] [(cI, .int)]) (some (.int (iI (plF (rw_ r a0 a1) q code w)))) := by
  refine Met.ofW (cc := cX1_placeIn) (maxL := 6) (ret := (some .int)) (by decide) rfl ?_
  intro P0 e s m args below meth c s₁ B hml hv
  obtain ⟨rfl, hP, hK⟩ := hv
  have hx := B.exec
  have hb := B.bytes
  have hr := B.returns
  have hts := atoms_spec (ws := wsX1_placeIn) B.pre
  have hown : s.vm.findClass RX1 = some m.cls := findClass_of_methodNamed B.named
  have hlocks := B.notSynchronized
  have hinX : ∀ w ∈ u_ws RX1 TX1 5, w ∈ wsX1_placeIn := by decide +kernel
  have hl := lv_entry ([.ref m0, .int (iI ((r : Nat) : Int)), .int (iI ((code : Nat) : Int))]) (n := 6) (Nat.le_of_ble_eq_true rfl)
  rw [lg_entry_eq]
  generalize (lg_sl ([.ref m0, .int (iI ((r : Nat) : Int)), .int (iI ((code : Nat) : Int))]) ++ List.replicate (6 - (lg_sl ([.ref m0, .int (iI ((r : Nat) : Int)), .int (iI ((code : Nat) : Int))])).length) Slot.unset).toArray = ls at hl ⊢
  have hl : lv_has ls 6 [(0, .ref m0), (1, .int (iI ((r : Nat) : Int))), (2, .int (iI ((code : Nat) : Int)))] := hl
  refine ib_const hx hb dX1_placeIn_0 ?_
  refine lv_istore_n (lv' := [(3, .int (iI 0)), (0, .ref m0), (1, .int (iI ((r : Nat) : Int))), (2, .int (iI ((code : Nat) : Int)))]) hx hb dX1_placeIn_1 rfl hl (by decide) rfl (fun ls hl => ?_)
  have lp_2_1 : ∀ (j n : Nat), n + j = 13 - w → plF (rw_ r a0 a1) q code w = ff (fun p => alN (phB (rw_ r a0 a1) q code p) w) j n → ∀ ls : Array Slot, lv_has ls 6 [(0, .ref m0), (1, .int (iI ((r : Nat) : Int))), (2, .int (iI ((code : Nat) : Int))), (3, .int (iI ((n : Nat) : Int)))] → W P0 l e (headSpec wsX1_placeIn { frames := 2, cells := 0, slots := 0, locals := 48 }).room s m ([.ref m0, .int (iI ((r : Nat) : Int)), .int (iI ((code : Nat) : Int))] : List Value).toArray below meth c s.heap [] 0 0 (MQ below (rdQ (some (.int (iI (plF (rw_ r a0 a1) q code w))))) ([.ref m0, .int (iI ((r : Nat) : Int)), .int (iI ((code : Nat) : Int))] : List Value).toArray s 0 0 (fun _ => False)) (F0 m 2 ls []) := by
    intro j
    induction j with
    | zero =>
      intro n hn_2 hqq ls hl
      refine lv_iload_n hx hb dX1_placeIn_2 rfl (lv_at hl 3 rfl) ?_
      refine lv_aload_n hx hb dX1_placeIn_3 rfl (lv_at hl 0 rfl) ?_
      refine va_get (D := (dC, dI)) (ci := 1) (v := .int (iI ((w : Nat) : Int))) (C := RX1) (T := TX1) (N := 5) hx hb hts hinX hown hK hP 0 rfl rfl 4 (by decide) (hts (.fieldLink RX1 88 "ToneRowsModel" "written" "I") (by decide +kernel)) (fun _ h9 => h9) rfl dX1_placeIn_4 ?_
      refine ib_add (z := ((n + w : Nat) : Int)) hx hb dX1_placeIn_7 (by omega) ?_
      refine ib_bi hx hb dX1_placeIn_8 (by decide) ?_
      refine ib_icmp_gt (tgt := 79) hx hb dX1_placeIn_10 (by decide) ⟨by omega, by omega⟩ ⟨by omega, by omega⟩ (fun c_10 => ?_) (fun c_10 => absurd c_10 (by omega))
      refine ib_const hx hb dX1_placeIn_79 ?_
      refine st_i (y := iI (plF (rw_ r a0 a1) q code w)) (congrArg iI (by rw [hqq]; rfl)) ?_
      exact W.iret hx hb hr (fun t ht _ => ⟨rfl, ht⟩) (fun _ h => nomatch h) dX1_placeIn_80
    | succ j ih_2_1 =>
      intro n hn_2 hqq ls hl
      refine lv_iload_n hx hb dX1_placeIn_2 rfl (lv_at hl 3 rfl) ?_
      refine lv_aload_n hx hb dX1_placeIn_3 rfl (lv_at hl 0 rfl) ?_
      refine va_get (D := (dC, dI)) (ci := 1) (v := .int (iI ((w : Nat) : Int))) (C := RX1) (T := TX1) (N := 5) hx hb hts hinX hown hK hP 0 rfl rfl 4 (by decide) (hts (.fieldLink RX1 88 "ToneRowsModel" "written" "I") (by decide +kernel)) (fun _ h9 => h9) rfl dX1_placeIn_4 ?_
      refine ib_add (z := ((n + w : Nat) : Int)) hx hb dX1_placeIn_7 (by omega) ?_
      refine ib_bi hx hb dX1_placeIn_8 (by decide) ?_
      refine ib_icmp_gt (tgt := 79) hx hb dX1_placeIn_10 (by decide) ⟨by omega, by omega⟩ ⟨by omega, by omega⟩ (fun c_10 => absurd c_10 (by omega)) (fun c_10 => ?_)
      refine ib_const hx hb dX1_placeIn_13 ?_
      refine lv_istore (lv' := [(4, .int (iI 1)), (0, .ref m0), (1, .int (iI ((r : Nat) : Int))), (2, .int (iI ((code : Nat) : Int))), (3, .int (iI ((n : Nat) : Int)))]) hx hb dX1_placeIn_14 hl (by decide) rfl (fun ls hl => ?_)
      have hl : lv_has ls 6 [(4, .int (iI (bI (alN (phB (rw_ r a0 a1) q code n) 0 = true)))), (0, .ref m0), (1, .int (iI ((r : Nat) : Int))), (2, .int (iI ((code : Nat) : Int))), (3, .int (iI ((n : Nat) : Int)))] := by
        have e9 : iI 1 = iI (bI (alN (phB (rw_ r a0 a1) q code n) 0 = true)) := congrArg iI (bI_t (by simp [alN])).symm
        rw [← e9]; exact hl
      refine ib_const hx hb dX1_placeIn_16 ?_
      refine lv_istore (lv' := [(5, .int (iI 0)), (4, .int (iI (bI (alN (phB (rw_ r a0 a1) q code n) 0 = true)))), (0, .ref m0), (1, .int (iI ((r : Nat) : Int))), (2, .int (iI ((code : Nat) : Int))), (3, .int (iI ((n : Nat) : Int)))]) hx hb dX1_placeIn_17 hl (by decide) rfl (fun ls hl => ?_)
      have lp_19_2 : ∀ (j o : Nat), o + j = w → ∀ ls : Array Slot, lv_has ls 6 [(0, .ref m0), (1, .int (iI ((r : Nat) : Int))), (2, .int (iI ((code : Nat) : Int))), (3, .int (iI ((n : Nat) : Int))), (4, .int (iI (bI (alN (phB (rw_ r a0 a1) q code n) o = true)))), (5, .int (iI ((o : Nat) : Int)))] → W P0 l e (headSpec wsX1_placeIn { frames := 2, cells := 0, slots := 0, locals := 48 }).room s m ([.ref m0, .int (iI ((r : Nat) : Int)), .int (iI ((code : Nat) : Int))] : List Value).toArray below meth c s.heap [] 0 0 (MQ below (rdQ (some (.int (iI (plF (rw_ r a0 a1) q code w))))) ([.ref m0, .int (iI ((r : Nat) : Int)), .int (iI ((code : Nat) : Int))] : List Value).toArray s 0 0 (fun _ => False)) (F0 m 19 ls []) := by
        intro j
        induction j with
        | zero =>
          intro o hn_19  ls hl
          have hno : o = w := by omega
          refine lv_iload hx hb dX1_placeIn_19 (lv_at hl 5 rfl) ?_
          refine lv_aload_n hx hb dX1_placeIn_21 rfl (lv_at hl 0 rfl) ?_
          refine va_get (D := (dC, dI)) (ci := 1) (v := .int (iI ((w : Nat) : Int))) (C := RX1) (T := TX1) (N := 5) hx hb hts hinX hown hK hP 0 rfl rfl 4 (by decide) (hts (.fieldLink RX1 88 "ToneRowsModel" "written" "I") (by decide +kernel)) (fun _ h9 => h9) rfl dX1_placeIn_22 ?_
          refine ib_icmp_ge (tgt := 66) hx hb dX1_placeIn_25 (by decide) ⟨by omega, by omega⟩ ⟨by omega, by omega⟩ (fun c_25 => ?_) (fun c_25 => absurd c_25 (by omega))
          refine lv_iload hx hb dX1_placeIn_66 (lv_at hl 4 rfl) ?_
          refine bb_eq (tgt := 73) hx hb dX1_placeIn_68 (by decide) (fun c_68 => ?_) (fun c_68 => ?_)
          · skip
            refine lv_iinc (v := iI ((n + 1 : Nat) : Int)) (lv' := [(3, .int (iI ((n + 1 : Nat) : Int))), (0, .ref m0), (1, .int (iI ((r : Nat) : Int))), (2, .int (iI ((code : Nat) : Int))), (4, .int (iI (bI (alN (phB (rw_ r a0 a1) q code n) o = true)))), (5, .int (iI ((o : Nat) : Int)))]) hx hb dX1_placeIn_73 hl (k := 3) rfl (iI_inc (by omega)) (by decide) rfl (fun ls hl => ?_)
            refine lv_goto (tgt := 2) hx hb dX1_placeIn_76 (by decide) ?_
            exact ih_2_1 (n + 1) (by omega) (hqq.trans (ff_f (by simpa [hno] using c_68))) _ (lv_sub hl [1, 2, 3, 0] rfl)
          · skip
            refine lv_iload_n hx hb dX1_placeIn_71 rfl (lv_at hl 3 rfl) ?_
            refine st_i (y := iI (plF (rw_ r a0 a1) q code w)) (congrArg iI (hqq.trans (ff_t (by simpa [hno] using c_68))).symm) ?_
            exact W.iret hx hb hr (fun t ht _ => ⟨rfl, ht⟩) (fun _ h => nomatch h) dX1_placeIn_72
        | succ j ih_19_2 =>
          intro o hn_19  ls hl
          refine lv_iload hx hb dX1_placeIn_19 (lv_at hl 5 rfl) ?_
          refine lv_aload_n hx hb dX1_placeIn_21 rfl (lv_at hl 0 rfl) ?_
          refine va_get (D := (dC, dI)) (ci := 1) (v := .int (iI ((w : Nat) : Int))) (C := RX1) (T := TX1) (N := 5) hx hb hts hinX hown hK hP 0 rfl rfl 4 (by decide) (hts (.fieldLink RX1 88 "ToneRowsModel" "written" "I") (by decide +kernel)) (fun _ h9 => h9) rfl dX1_placeIn_22 ?_
          refine ib_icmp_ge (tgt := 66) hx hb dX1_placeIn_25 (by decide) ⟨by omega, by omega⟩ ⟨by omega, by omega⟩ (fun c_25 => absurd c_25 (by omega)) (fun c_25 => ?_)
          refine lv_iload hx hb dX1_placeIn_28 (lv_at hl 4 rfl) ?_
          refine bb_eq (tgt := 57) hx hb dX1_placeIn_30 (by decide) (fun c_30 => ?_) (fun c_30 => ?_)
          · skip
            refine ib_const hx hb dX1_placeIn_57 ?_
            refine lv_istore (lv' := [(4, .int (iI 0)), (0, .ref m0), (1, .int (iI ((r : Nat) : Int))), (2, .int (iI ((code : Nat) : Int))), (3, .int (iI ((n : Nat) : Int))), (5, .int (iI ((o : Nat) : Int)))]) hx hb dX1_placeIn_58 hl (by decide) rfl (fun ls hl => ?_)
            refine lv_iinc (v := iI ((o + 1 : Nat) : Int)) (lv' := [(5, .int (iI ((o + 1 : Nat) : Int))), (4, .int (iI 0)), (0, .ref m0), (1, .int (iI ((r : Nat) : Int))), (2, .int (iI ((code : Nat) : Int))), (3, .int (iI ((n : Nat) : Int)))]) hx hb dX1_placeIn_60 hl (k := 5) rfl (iI_inc (by omega)) (by decide) rfl (fun ls hl => ?_)
            refine lv_goto (tgt := 19) hx hb dX1_placeIn_63 (by decide) ?_
            have hl : lv_has ls 6 [(5, .int (iI ((o + 1 : Nat) : Int))), (4, .int (iI (bI (alN (phB (rw_ r a0 a1) q code n) (o + 1) = true)))), (0, .ref m0), (1, .int (iI ((r : Nat) : Int))), (2, .int (iI ((code : Nat) : Int))), (3, .int (iI ((n : Nat) : Int)))] := by
              have e9 : iI 0 = iI (bI (alN (phB (rw_ r a0 a1) q code n) (o + 1) = true)) := al_0 c_30
              rw [← e9]; exact hl
            exact ih_19_2 (o + 1) (by omega)  _ (lv_sub hl [2, 3, 4, 5, 1, 0] rfl)
          · skip
            refine lv_aload_n hx hb dX1_placeIn_33 rfl (lv_at hl 0 rfl) ?_
            refine lv_iload_n hx hb dX1_placeIn_34 rfl (lv_at hl 1 rfl) ?_
            refine lv_iload_n hx hb dX1_placeIn_35 rfl (lv_at hl 2 rfl) ?_
            refine lv_iload_n hx hb dX1_placeIn_36 rfl (lv_at hl 3 rfl) ?_
            refine lv_iload hx hb dX1_placeIn_37 (lv_at hl 5 rfl) ?_
            refine ib_add (z := ((n + o : Nat) : Int)) hx hb dX1_placeIn_39 (by omega) ?_
            refine rd_call (va_runV (As := [.int (iI ((r : Nat) : Int)), .int (iI ((code : Nat) : Int)), .int (iI ((n + o : Nat) : Int))]) (rest := []) ⟨hx, hb, hml, hown, hts⟩ (mX1_formAt l dC dI cI m0 t0 k0 p0 a0 a1 K q th w h0 h1 hw hq r code (n + o) (by omega) (by omega) (by omega)) (cwV 3 hts gX1_placeIn_X1_formAt rfl rfl rfl hvX1_formAt ⟨Nat.le_of_ble_eq_true rfl, Nat.le_of_ble_eq_true rfl⟩) (bW_pre (ci := 1) (q0 := 0) hK hP rfl rfl rfl) rfl rfl hl.1 rfl (lv_room (Nat.le_of_ble_eq_true rfl)) dX1_placeIn_40 ⟨Nat.le_of_ble_eq_true rfl, Nat.le_of_ble_eq_true rfl⟩) ?_
            have hf_40 := fm_lt (rw_ r a0 a1) code (n + o)
            refine lv_aload_n hx hb dX1_placeIn_43 rfl (lv_at hl 0 rfl) ?_
            refine va_get (D := (dC, dI)) (ci := 1) (v := .ref p0) (C := RX1) (T := TX1) (N := 5) hx hb hts hinX hown hK hP 0 rfl rfl 3 (by decide) (hts (.fieldLink RX1 16 "ToneRowsModel" "phrase" "[I") (by decide +kernel)) (fun _ h9 => h9) rfl dX1_placeIn_44 ?_
            have hqn := hq o (by omega)
            refine lv_iload hx hb dX1_placeIn_47 (lv_at hl 5 rfl) ?_
            refine ib_ald (f := fun j => iI ((q j : Nat) : Int)) (i := o) (v := iI ((q o : Nat) : Int)) hx hb hK hP 3 0 rfl rfl (by first | rfl | omega) (by omega) (by omega) rfl dX1_placeIn_49 ?_
            refine ib_icmp_ne (tgt := 57) hx hb dX1_placeIn_50 (by decide) ⟨by omega, by omega⟩ ⟨by omega, by omega⟩ (fun c_50 => ?_) (fun c_50 => ?_)
            · skip
              refine ib_const hx hb dX1_placeIn_57 ?_
              refine lv_istore (lv' := [(4, .int (iI 0)), (0, .ref m0), (1, .int (iI ((r : Nat) : Int))), (2, .int (iI ((code : Nat) : Int))), (3, .int (iI ((n : Nat) : Int))), (5, .int (iI ((o : Nat) : Int)))]) hx hb dX1_placeIn_58 hl (by decide) rfl (fun ls hl => ?_)
              refine lv_iinc (v := iI ((o + 1 : Nat) : Int)) (lv' := [(5, .int (iI ((o + 1 : Nat) : Int))), (4, .int (iI 0)), (0, .ref m0), (1, .int (iI ((r : Nat) : Int))), (2, .int (iI ((code : Nat) : Int))), (3, .int (iI ((n : Nat) : Int)))]) hx hb dX1_placeIn_60 hl (k := 5) rfl (iI_inc (by omega)) (by decide) rfl (fun ls hl => ?_)
              refine lv_goto (tgt := 19) hx hb dX1_placeIn_63 (by decide) ?_
              have hl : lv_has ls 6 [(5, .int (iI ((o + 1 : Nat) : Int))), (4, .int (iI (bI (alN (phB (rw_ r a0 a1) q code n) (o + 1) = true)))), (0, .ref m0), (1, .int (iI ((r : Nat) : Int))), (2, .int (iI ((code : Nat) : Int))), (3, .int (iI ((n : Nat) : Int)))] := by
                have e9 : iI 0 = iI (bI (alN (phB (rw_ r a0 a1) q code n) (o + 1) = true)) := al_2 (decide_eq_false (by omega))
                rw [← e9]; exact hl
              exact ih_19_2 (o + 1) (by omega)  _ (lv_sub hl [2, 3, 4, 5, 1, 0] rfl)
            · skip
              refine ib_const hx hb dX1_placeIn_53 ?_
              refine lv_goto (tgt := 58) hx hb dX1_placeIn_54 (by decide) ?_
              refine lv_istore (lv' := [(4, .int (iI 1)), (0, .ref m0), (1, .int (iI ((r : Nat) : Int))), (2, .int (iI ((code : Nat) : Int))), (3, .int (iI ((n : Nat) : Int))), (5, .int (iI ((o : Nat) : Int)))]) hx hb dX1_placeIn_58 hl (by decide) rfl (fun ls hl => ?_)
              refine lv_iinc (v := iI ((o + 1 : Nat) : Int)) (lv' := [(5, .int (iI ((o + 1 : Nat) : Int))), (4, .int (iI 1)), (0, .ref m0), (1, .int (iI ((r : Nat) : Int))), (2, .int (iI ((code : Nat) : Int))), (3, .int (iI ((n : Nat) : Int)))]) hx hb dX1_placeIn_60 hl (k := 5) rfl (iI_inc (by omega)) (by decide) rfl (fun ls hl => ?_)
              refine lv_goto (tgt := 19) hx hb dX1_placeIn_63 (by decide) ?_
              have hl : lv_has ls 6 [(5, .int (iI ((o + 1 : Nat) : Int))), (4, .int (iI (bI (alN (phB (rw_ r a0 a1) q code n) (o + 1) = true)))), (0, .ref m0), (1, .int (iI ((r : Nat) : Int))), (2, .int (iI ((code : Nat) : Int))), (3, .int (iI ((n : Nat) : Int)))] := by
                have e9 : iI 1 = iI (bI (alN (phB (rw_ r a0 a1) q code n) (o + 1) = true)) := al_1 c_30 (decide_eq_true (by omega))
                rw [← e9]; exact hl
              exact ih_19_2 (o + 1) (by omega)  _ (lv_sub hl [2, 3, 4, 5, 1, 0] rfl)
      exact lp_19_2 w 0 (by omega)  _ (lv_sub hl [2, 3, 4, 5, 1, 0] rfl)
  exact lp_2_1 (13 - w) 0 (by omega) (rfl) _ (lv_sub hl [1, 2, 3, 0] rfl)
end
section
/-! ===== what the calls do with rows ===== -/
theorem nar_0 : narrow .boolean (.int (iI 0)) = .int (iI 0) := by first | rfl | decide
def sr0 (r : Nat) (f a0 : Nat → Nat) : Nat → Nat := if r = 0 then f else a0
def sr1 (r : Nat) (f a1 : Nat → Nat) : Nat → Nat := if r = 0 then a1 else f
theorem rw_sr (f a0 a1 : Nat → Nat) (r : Nat) : rw_ r (sr0 r f a0) (sr1 r f a1) = f := by
  unfold rw_ sr0 sr1
  by_cases h : r = 0 <;> simp [h]
theorem sr0_lt {f a0 : Nat → Nat} (r : Nat) (hf : lt12 f) (h0 : lt12 a0) : lt12 (sr0 r f a0) := by
  unfold sr0
  split
  · exact hf
  · exact h0
theorem sr1_lt {f a1 : Nat → Nat} (r : Nat) (hf : lt12 f) (h1 : lt12 a1) : lt12 (sr1 r f a1) := by
  unfold sr1
  split
  · exact h1
  · exact hf
def mx (G a : Nat → Nat) (n j : Nat) : Nat := if j < n then G j else a j
theorem mx_lt {G a : Nat → Nat} (n : Nat) (hG : lt12 G) (ha : lt12 a) : lt12 (mx G a n) := fun i hi => by
  unfold mx
  split
  · exact hG i hi
  · exact ha i hi
theorem mx_0 (G a : Nat → Nat) : mx G a 0 = a := funext fun j => if_neg (Nat.not_lt_zero j)
theorem mx_in {G a : Nat → Nat} {n j : Nat} (h : j < n) : mx G a n j = G j := if_pos h
theorem mx_out {G a : Nat → Nat} {n j : Nat} (h : n ≤ j) : mx G a n j = a j := if_neg (by omega)
theorem mx_st {G a : Nat → Nat} {n j : Nat} : (if j = n then iI ((G n : Nat) : Int) else iI ((mx G a n j : Nat) : Int)) = iI ((mx G a (n + 1) j : Nat) : Int) := by
  by_cases h : j = n
  · rw [if_pos h, mx_in (by omega), h]
  · rw [if_neg h]
    by_cases h2 : j < n
    · rw [mx_in h2, mx_in (by omega)]
    · rw [mx_out (by omega), mx_out (by omega)]
theorem rw_lt12 {a0 a1 : Nat → Nat} (h0 : lt12 a0) (h1 : lt12 a1) (r : Nat) : lt12 (rw_ r a0 a1) := fun i hi => rw_lt h0 h1 r hi
/-- one tone of the row r is put anew -/
theorem tb_st {G a0 a1 : Nat → Nat} {r n j : Nat} (hr : r < 2) (hn : n < 12) (hj : j < 24) :
    (if j = 12 * r + n then iI ((G n : Nat) : Int) else iI ((tb (sr0 r (mx G (rw_ r a0 a1) n) a0) (sr1 r (mx G (rw_ r a0 a1) n) a1) j : Nat) : Int)) = iI ((tb (sr0 r (mx G (rw_ r a0 a1) (n + 1)) a0) (sr1 r (mx G (rw_ r a0 a1) (n + 1)) a1) j : Nat) : Int) := by
  have e : (if j = 12 * r + n then G n else tb (sr0 r (mx G (rw_ r a0 a1) n) a0) (sr1 r (mx G (rw_ r a0 a1) n) a1) j) = tb (sr0 r (mx G (rw_ r a0 a1) (n + 1)) a0) (sr1 r (mx G (rw_ r a0 a1) (n + 1)) a1) j := by
    unfold tb sr0 sr1 mx
    rcases (show r = 0 ∨ r = 1 by omega) with rfl | rfl
    · by_cases h1 : j < 12
      · simp only [if_pos h1, if_true]
        by_cases h2 : j = n
        · rw [if_pos (by omega), if_pos (by omega), h2]
        · rw [if_neg (by omega)]
          by_cases h3 : j < n
          · rw [if_pos h3, if_pos (by omega)]
          · rw [if_neg h3, if_neg (by omega)]
      · simp only [if_neg h1, if_true]
        rw [if_neg (by omega)]
    · by_cases h1 : j < 12
      · simp only [if_pos h1, if_neg (show ¬ (1 : Nat) = 0 by decide)]
        rw [if_neg (by omega)]
      · simp only [if_neg h1, if_neg (show ¬ (1 : Nat) = 0 by decide)]
        by_cases h2 : j - 12 = n
        · rw [if_pos (by omega), if_pos (by omega), h2]
        · rw [if_neg (by omega)]
          by_cases h3 : j - 12 < n
          · rw [if_pos h3, if_pos (by omega)]
          · rw [if_neg h3, if_neg (by omega)]
  rw [← e]
  split <;> rfl
theorem tb_cg {f g a0 a1 : Nat → Nat} {r j : Nat} (h : ∀ i, i < 12 → f i = g i) (hj : j < 24) : iI ((tb (sr0 r f a0) (sr1 r f a1) j : Nat) : Int) = iI ((tb (sr0 r g a0) (sr1 r g a1) j : Nat) : Int) := by
  have e : tb (sr0 r f a0) (sr1 r f a1) j = tb (sr0 r g a0) (sr1 r g a1) j := by
    unfold tb sr0 sr1
    by_cases h0 : r = 0
    · simp only [if_pos h0]
      by_cases h1 : j < 12
      · simp only [if_pos h1]; exact h j h1
      · simp only [if_neg h1]
    · simp only [if_neg h0]
      by_cases h1 : j < 12
      · simp only [if_pos h1]
      · simp only [if_neg h1]; exact h _ (by omega)
  rw [e]
theorem tb_in {G a0 a1 : Nat → Nat} {r j : Nat} (hj : j < 24) : iI ((tb a0 a1 j : Nat) : Int) = iI ((tb (sr0 r (mx G (rw_ r a0 a1) 0) a0) (sr1 r (mx G (rw_ r a0 a1) 0) a1) j : Nat) : Int) := by
  rw [mx_0]
  have e : tb a0 a1 j = tb (sr0 r (rw_ r a0 a1) a0) (sr1 r (rw_ r a0 a1) a1) j := by
    unfold tb sr0 sr1 rw_
    by_cases h0 : r = 0 <;> simp [h0]
  rw [e]
def putF (a : Nat → Nat) (i t j : Nat) : Nat := if j = i then t else if a j = t then a i else a j
def ptF (a : Nat → Nat) (i t j : Nat) : Nat := if a j = t then a i else a j
theorem ptF_lt {a : Nat → Nat} {i t : Nat} (ha : lt12 a) (hi : i < 12) : lt12 (ptF a i t) := fun j hj => by
  unfold ptF
  split
  · exact ha i hi
  · exact ha j hj
/-- the last store of put -/
theorem tb_pt {a0 a1 : Nat → Nat} {r i t n j : Nat} (hn : n = 12) (hr : r < 2) (hi : i < 12) (hj : j < 24) :
    (if j = 12 * r + i then iI ((t : Nat) : Int) else iI ((tb (sr0 r (mx (ptF (rw_ r a0 a1) i t) (rw_ r a0 a1) n) a0) (sr1 r (mx (ptF (rw_ r a0 a1) i t) (rw_ r a0 a1) n) a1) j : Nat) : Int)) = iI ((tb (sr0 r (putF (rw_ r a0 a1) i t) a0) (sr1 r (putF (rw_ r a0 a1) i t) a1) j : Nat) : Int) := by
  subst hn
  have e : (if j = 12 * r + i then t else tb (sr0 r (mx (ptF (rw_ r a0 a1) i t) (rw_ r a0 a1) 12) a0) (sr1 r (mx (ptF (rw_ r a0 a1) i t) (rw_ r a0 a1) 12) a1) j) = tb (sr0 r (putF (rw_ r a0 a1) i t) a0) (sr1 r (putF (rw_ r a0 a1) i t) a1) j := by
    unfold tb sr0 sr1 mx putF ptF
    rcases (show r = 0 ∨ r = 1 by omega) with rfl | rfl
    · by_cases h1 : j < 12
      · simp only [if_pos h1, if_true]
        by_cases h2 : j = i
        · rw [if_pos (by omega), if_pos h2]
        · rw [if_neg (by omega), if_neg h2]
      · simp only [if_neg h1, if_true]
        rw [if_neg (by omega)]
    · by_cases h1 : j < 12
      · simp only [if_pos h1, if_neg (show ¬ (1 : Nat) = 0 by decide)]
        rw [if_neg (by omega)]
      · simp only [if_neg h1, if_neg (show ¬ (1 : Nat) = 0 by decide), if_pos (show j - 12 < 12 by omega)]
        by_cases h2 : j - 12 = i
        · rw [if_pos (by omega), if_pos h2]
        · rw [if_neg (by omega), if_neg h2]
  rw [← e]
  split <;> rfl
def mulF (a : Nat → Nat) (f j : Nat) : Nat := a j * f % 12
def rotF (a : Nat → Nat) (b j : Nat) : Nat := a ((j + b) % 12)
theorem mulF_lt (a : Nat → Nat) (f : Nat) : lt12 (mulF a f) := fun _ _ => Nat.mod_lt _ (by decide)
theorem rotF_lt {a : Nat → Nat} (b : Nat) (ha : lt12 a) : lt12 (rotF a b) := fun _ _ => ha _ (Nat.mod_lt _ (by decide))
theorem fm_lt12 (a : Nat → Nat) (c : Nat) : lt12 (fm a c) := fun _ _ => fm_lt a c _
def ivsN (a : Nat → Nat) : Nat → Nat
  | 0 => 0
  | n + 1 => ivsN a n ||| 2 ^ md (((a (n + 1) : Nat) : Int) - ((a n : Nat) : Int))
theorem ivsN_lt (a : Nat → Nat) : ∀ n, ivsN a n < 4096
  | 0 => show 0 < 4096 by decide
  | n + 1 => Nat.or_lt_two_pow (n := 12) (ivsN_lt a n) (Nat.pow_lt_pow_right (by decide) (md_lt _))
def nwB (a : Nat → Nat) (n : Nat) : Nat → Bool := fun o => !(alN (eqB a o n) 12)
def dfN (a : Nat → Nat) : Nat → Nat
  | 0 => 0
  | n + 1 => if alN (nwB a n) n = true then dfN a n + 1 else dfN a n
theorem dfN_le (a : Nat → Nat) : ∀ n, dfN a n ≤ n
  | 0 => Nat.le_refl _
  | n + 1 => by
    have h := dfN_le a n
    unfold dfN
    split <;> omega
theorem dfN_t {a : Nat → Nat} {n : Nat} (h : alN (nwB a n) n = true) : dfN a n + 1 = dfN a (n + 1) := (if_pos h).symm
theorem dfN_f {a : Nat → Nat} {n : Nat} (h : ¬ alN (nwB a n) n = true) : dfN a n + 0 = dfN a (n + 1) := (if_neg h).symm
def foB (a b : Nat → Nat) (c : Nat) : Nat → Bool := fun i => decide (fm a c i = b i)
def foF (a b : Nat → Nat) : Int := ff (fun c => alN (foB a b c) 12) 48 0
def prI (s i t : Nat) (x : Nat) : Nat → Nat
  | 0 => x
  | n + 1 => if (t : Int) - (n : Int) = (i : Int) ∨ (t : Int) - (n : Int) = 12 - (i : Int) then prI s i t x n + (s / 2 ^ t &&& s / 2 ^ n &&& 1) else prI s i t x n
def prO (s i : Nat) : Nat → Nat
  | 0 => 0
  | n + 1 => prI s i n (prO s i n) n
theorem prI_le (s i t x : Nat) : ∀ n, prI s i t x n ≤ x + n
  | 0 => Nat.le_refl _
  | n + 1 => by
    have h := prI_le s i t x n
    have h2 := Nat.and_le_right (n := s / 2 ^ t &&& s / 2 ^ n) (m := 1)
    unfold prI
    split <;> omega
theorem prO_le (s i : Nat) : ∀ n, prO s i n ≤ 12 * n + n * n
  | 0 => Nat.zero_le _
  | n + 1 => by
    have h := prO_le s i n
    have h2 := prI_le s i n (prO s i n) n
    have h3 : (n + 1) * (n + 1) = n * n + 2 * n + 1 := by rw [Nat.add_mul, Nat.mul_add]; omega
    unfold prO
    omega
theorem prO_lt (s i n : Nat) (hn : n ≤ 12) : prO s i n ≤ 288 := by
  have h := prO_le s i n
  have h2 : n * n ≤ 12 * 12 := Nat.mul_le_mul hn hn
  omega
def bitL (n : Nat) : Int64 := (1 : Int64) <<< ((iI ((n : Nat) : Int)).toInt64 &&& 63)
def cmL (a : Nat → Nat) : Nat → Int64
  | 0 => 0
  | n + 1 => if setF (fm a (a 0)) 0 6 &&& setF (fm a n) 0 6 = 0 then cmL a n ||| bitL n else cmL a n ||| 0
def deB (a : Nat → Nat) (z : Nat) : Nat → Bool := fun m => decide (lsN (setF (fm a (a 0)) (z * m) z) 12 = lsN (setF (fm a (a 0)) 0 z) 12)
def lkI (a f : Nat → Nat) (p x : Nat) : Nat → Nat
  | 0 => x
  | n + 1 => if lkI a f p x n < smN a f p n 12 0 then smN a f p n 12 0 else lkI a f p x n
def lkO (a f : Nat → Nat) : Nat → Nat
  | 0 => 0
  | n + 1 => lkI a f n (lkO a f n) 12
theorem lkI_le {a f : Nat → Nat} {p x : Nat} (hx : x ≤ 12) : ∀ n, lkI a f p x n ≤ 12
  | 0 => hx
  | n + 1 => by
    have h := lkI_le (a := a) (f := f) (p := p) hx n
    have h2 := smN_le a f p n 12 0
    unfold lkI
    split <;> omega
theorem lkO_le (a f : Nat → Nat) : ∀ n, lkO a f n ≤ 12
  | 0 => show 0 ≤ 12 by decide
  | n + 1 => lkI_le (lkO_le a f n) 12
def mkV (a : Nat → Nat) (k n : Nat) : Int := if n = a 0 then -1 else ((skN a n k (13 - k) : Nat) : Int)
def mkM (a : Nat → Nat) (k : Nat) : Nat → Int
  | 0 => -1
  | n + 1 => if mkM a k n < mkV a k n then mkV a k n else mkM a k n
def mkC (a : Nat → Nat) (k : Nat) : Nat → Int
  | 0 => -1
  | n + 1 => if mkM a k n < mkV a k n then (n : Int) else mkC a k n
theorem mkV_in (a : Nat → Nat) (k n : Nat) : -1 ≤ mkV a k n ∧ mkV a k n ≤ 13 := by
  have h := skN_le a n k (13 - k)
  unfold mkV
  split <;> omega
theorem mkM_in (a : Nat → Nat) (k : Nat) : ∀ n, -1 ≤ mkM a k n ∧ mkM a k n ≤ 13
  | 0 => ⟨show (-1 : Int) ≤ -1 by decide, show (-1 : Int) ≤ 13 by decide⟩
  | n + 1 => by
    have h := mkM_in a k n
    have h2 := mkV_in a k n
    unfold mkM
    split <;> omega
theorem mkC_in (a : Nat → Nat) (k : Nat) : ∀ n, -1 ≤ mkC a k n ∧ mkC a k n < n ∨ mkC a k n = -1
  | 0 => Or.inr rfl
  | n + 1 => by
    have h := mkC_in a k n
    unfold mkC
    split <;> omega
def ctN (f g : Nat → Nat) : Nat → Nat
  | 0 => 0
  | n + 1 => if setF f 0 n ||| setF g 0 (12 - n) = 4095 then ctN f g n ||| 2 ^ n else ctN f g n ||| 0
theorem ctN_lt (f g : Nat → Nat) : ∀ n, n ≤ 13 → ctN f g n < 8192
  | 0, _ => show 0 < 8192 by decide
  | n + 1, hn => by
    have h := ctN_lt f g n (by omega)
    unfold ctN
    split
    · exact Nat.or_lt_two_pow (n := 13) h (Nat.pow_lt_pow_right (by decide) (by omega))
    · exact Nat.or_lt_two_pow (n := 13) h (by decide)
def upq (q : Nat → Nat) (w t j : Nat) : Nat := if j = w then t else q j
def fpL (a q : Nat → Nat) (w : Nat) : Nat → Int64
  | 0 => 0
  | n + 1 => if plF a q n w = -1 then fpL a q w n ||| 0 else fpL a q w n ||| bitL n
def cpC (q a : Nat → Nat) (w : Nat) : Nat → Nat
  | 0 => w
  | n + 1 => if orN (wtB q (a n)) w = true then cpC q a w n else cpC q a w n + 1
def cpK (q a K : Nat → Nat) (w : Nat) : Nat → Nat → Nat
  | 0 => mx q K w
  | n + 1 => if orN (wtB q (a n)) w = true then cpK q a K w n else upq (cpK q a K w n) (cpC q a w n) (a n)
def cpF (q a : Nat → Nat) (w : Nat) : Nat → Nat := cpK q a (fun _ => 0) w 12
theorem cpC_le (q a : Nat → Nat) (w : Nat) : ∀ n, cpC q a w n ≤ w + n
  | 0 => Nat.le_refl _
  | n + 1 => by
    have h := cpC_le q a w n
    unfold cpC
    split <;> omega
theorem dv12 {z : Int} (h1 : 1 ≤ z) (h2 : z ≤ 12) (h : 12 % z = 0) : z = 1 ∨ z = 2 ∨ z = 3 ∨ z = 4 ∨ z = 6 ∨ z = 12 := by
  have h3 : z = 1 ∨ z = 2 ∨ z = 3 ∨ z = 4 ∨ z = 5 ∨ z = 6 ∨ z = 7 ∨ z = 8 ∨ z = 9 ∨ z = 10 ∨ z = 11 ∨ z = 12 := by omega
  rcases h3 with rfl | rfl | rfl | rfl | rfl | rfl | rfl | rfl | rfl | rfl | rfl | rfl <;> first | omega | (revert h; decide)
end
