section
-- ===== PART A: goes FIRST, ahead of the names: the tables' words, and 'selects' of the private methods out of them =====
/-- a private method of a class that the tables say can be made, by its rows of tables_1 -/
def lw_okq (q : MethodName × Nat) : Prop := (q.1.cls ≠ "java/lang/invoke/MethodHandle" ∧ q.1.cls ≠ "java/lang/invoke/VarHandle") ∧ Cond.instantiable q.1.cls q.2 ∈ tables_1 ∧ Cond.privateMethod q.1 ∈ tables_1 ∧ Cond.instanceMethod q.1 ∈ tables_1
theorem lw_p0 : lw_okq (⟨"StampMaker", "keyNumbered", "(I)LStampMaker$Key;"⟩, 10) := ⟨⟨by decide +kernel, by decide +kernel⟩, List.mem_of_getElem? (i := 17) (by decide +kernel), List.mem_of_getElem? (i := 125) (by decide +kernel), List.mem_of_getElem? (i := 126) (by decide +kernel)⟩
theorem lw_p1 : lw_okq (⟨"StampMaker$Digest", "stretch", "()V"⟩, 3) := ⟨⟨by decide +kernel, by decide +kernel⟩, List.mem_of_getElem? (i := 45) (by decide +kernel), List.mem_of_getElem? (i := 173) (by decide +kernel), List.mem_of_getElem? (i := 174) (by decide +kernel)⟩
theorem lw_p2 : lw_okq (⟨"StampMaker$Digest", "mix", "()V"⟩, 3) := ⟨⟨by decide +kernel, by decide +kernel⟩, List.mem_of_getElem? (i := 45) (by decide +kernel), List.mem_of_getElem? (i := 182) (by decide +kernel), List.mem_of_getElem? (i := 183) (by decide +kernel)⟩
theorem lw_p3 : lw_okq (⟨"StampMaker", "writeLetters", "(JI)V"⟩, 10) := ⟨⟨by decide +kernel, by decide +kernel⟩, List.mem_of_getElem? (i := 17) (by decide +kernel), List.mem_of_getElem? (i := 192) (by decide +kernel), List.mem_of_getElem? (i := 193) (by decide +kernel)⟩
theorem lw_p4 : lw_okq (⟨"StampMaker", "typedBits", "(II)J"⟩, 10) := ⟨⟨by decide +kernel, by decide +kernel⟩, List.mem_of_getElem? (i := 17) (by decide +kernel), List.mem_of_getElem? (i := 252) (by decide +kernel), List.mem_of_getElem? (i := 253) (by decide +kernel)⟩
theorem lw_p5 : lw_okq (⟨"StampMaker", "reasonAgainst", "(JJI)I"⟩, 10) := ⟨⟨by decide +kernel, by decide +kernel⟩, List.mem_of_getElem? (i := 17) (by decide +kernel), List.mem_of_getElem? (i := 268) (by decide +kernel), List.mem_of_getElem? (i := 269) (by decide +kernel)⟩
theorem lw_p6 : lw_okq (⟨"StampMaker", "accepted", "(II)I"⟩, 10) := ⟨⟨by decide +kernel, by decide +kernel⟩, List.mem_of_getElem? (i := 17) (by decide +kernel), List.mem_of_getElem? (i := 289) (by decide +kernel), List.mem_of_getElem? (i := 290) (by decide +kernel)⟩
theorem lw_p7 : lw_okq (⟨"java/lang/Throwable", "fillInStackTrace", "(I)Ljava/lang/Throwable;"⟩, 6) := ⟨⟨by decide +kernel, by decide +kernel⟩, List.mem_of_getElem? (i := 364) (by decide +kernel), List.mem_of_getElem? (i := 362) (by decide +kernel), List.mem_of_getElem? (i := 363) (by decide +kernel)⟩
theorem lw_p8 : lw_okq (⟨"StampMakerModel", "isKey", "(I)Z"⟩, 23) := ⟨⟨by decide +kernel, by decide +kernel⟩, List.mem_of_getElem? (i := 435) (by decide +kernel), List.mem_of_getElem? (i := 597) (by decide +kernel), List.mem_of_getElem? (i := 598) (by decide +kernel)⟩
theorem lw_p9 : lw_okq (⟨"StampMakerModel", "reckon", "(IJ)V"⟩, 23) := ⟨⟨by decide +kernel, by decide +kernel⟩, List.mem_of_getElem? (i := 435) (by decide +kernel), List.mem_of_getElem? (i := 614) (by decide +kernel), List.mem_of_getElem? (i := 615) (by decide +kernel)⟩
theorem lw_p10 : lw_okq (⟨"StampMakerModel", "bitAt", "(IJI)I"⟩, 23) := ⟨⟨by decide +kernel, by decide +kernel⟩, List.mem_of_getElem? (i := 435) (by decide +kernel), List.mem_of_getElem? (i := 618) (by decide +kernel), List.mem_of_getElem? (i := 619) (by decide +kernel)⟩
theorem lw_p11 : lw_okq (⟨"StampMakerModel", "five", "(I)I"⟩, 23) := ⟨⟨by decide +kernel, by decide +kernel⟩, List.mem_of_getElem? (i := 435) (by decide +kernel), List.mem_of_getElem? (i := 626) (by decide +kernel), List.mem_of_getElem? (i := 627) (by decide +kernel)⟩
theorem lw_p12 : lw_okq (⟨"StampMakerModel", "reasonOf", "(I)I"⟩, 23) := ⟨⟨by decide +kernel, by decide +kernel⟩, List.mem_of_getElem? (i := 435) (by decide +kernel), List.mem_of_getElem? (i := 648) (by decide +kernel), List.mem_of_getElem? (i := 649) (by decide +kernel)⟩
def lw_privs_1 : List (MethodName × Nat) := [(⟨"StampMaker", "keyNumbered", "(I)LStampMaker$Key;"⟩, 10), (⟨"StampMaker$Digest", "stretch", "()V"⟩, 3), (⟨"StampMaker$Digest", "mix", "()V"⟩, 3), (⟨"StampMaker", "writeLetters", "(JI)V"⟩, 10), (⟨"StampMaker", "typedBits", "(II)J"⟩, 10), (⟨"StampMaker", "reasonAgainst", "(JJI)I"⟩, 10), (⟨"StampMaker", "accepted", "(II)I"⟩, 10), (⟨"java/lang/Throwable", "fillInStackTrace", "(I)Ljava/lang/Throwable;"⟩, 6), (⟨"StampMakerModel", "isKey", "(I)Z"⟩, 23), (⟨"StampMakerModel", "reckon", "(IJ)V"⟩, 23), (⟨"StampMakerModel", "bitAt", "(IJI)I"⟩, 23), (⟨"StampMakerModel", "five", "(I)I"⟩, 23), (⟨"StampMakerModel", "reasonOf", "(I)I"⟩, 23)]
theorem lw_r1 : ∀ q ∈ lw_privs_1, lw_okq q := List.forall_mem_cons.mpr ⟨lw_p0, List.forall_mem_cons.mpr ⟨lw_p1, List.forall_mem_cons.mpr ⟨lw_p2, List.forall_mem_cons.mpr ⟨lw_p3, List.forall_mem_cons.mpr ⟨lw_p4, List.forall_mem_cons.mpr ⟨lw_p5, List.forall_mem_cons.mpr ⟨lw_p6, List.forall_mem_cons.mpr ⟨lw_p7, List.forall_mem_cons.mpr ⟨lw_p8, List.forall_mem_cons.mpr ⟨lw_p9, List.forall_mem_cons.mpr ⟨lw_p10, List.forall_mem_cons.mpr ⟨lw_p11, List.forall_mem_cons.mpr ⟨lw_p12, fun _ h => absurd h List.not_mem_nil⟩⟩⟩⟩⟩⟩⟩⟩⟩⟩⟩⟩⟩
def lw_privs : List (MethodName × Nat) := lw_privs_1
def lw_tbl : List Cond := k2_sels lw_privs ++ tables_1
theorem lw_privs_ok : ∀ q ∈ lw_privs, lw_okq q := lw_r1
-- ===== end of PART A; then your names; then what follows =====
end
section
/-! ===== BEGIN words of one list among another's, by their places ===== -/
theorem goodIn_r {big : List Cond} (ws : List Cond) (ps : List Nat) (hp : ws = ps.filterMap (fun i => big[i]?)) (h : ws.all goodWord = true) : GoodIn big ws := by
  intro w hw
  have h1 := List.all_eq_true.mp h w hw
  rw [hp] at hw
  obtain ⟨i, -, hi⟩ := List.mem_filterMap.mp hw
  have hm : w ∈ big := by first | exact List.mem_of_getElem? hi | exact List.getElem?_mem hi
  exact ⟨hm, good_of_word h1⟩
theorem goodIn_app {big a b : List Cond} (ha : GoodIn big a) (hb : GoodIn big b) : GoodIn big (a ++ b) := fun w h => (List.mem_append.mp h).elim (ha w) (hb w)
theorem goodIn_ca {big a b : List Cond} {c : Cond} (ha : GoodIn big (c :: a)) (hb : GoodIn big b) : GoodIn big (c :: (a ++ b)) := fun w h => (List.mem_cons.mp h).elim (fun e => ha w (List.mem_cons.mpr (Or.inl e))) (fun h => (List.mem_append.mp h).elim (fun h => ha w (List.mem_cons.mpr (Or.inr h))) (hb w))
theorem goodIn_sub {big ws : List Cond} (hm : ∀ w ∈ ws, w ∈ big) (h : ws.all goodWord = true) : GoodIn big ws := fun w hw => ⟨hm w hw, good_of_word (List.all_eq_true.mp h w hw)⟩
/-! ===== END ===== -/

/-! ===== BEGIN exceptions that leave a method, and their catching by the caller (launches without stack traces) ===== -/
section VXA
/-! The laws vx_back, vx_callV, vx_callS, vx_callSW, vx_throw0, vx_throwS follow proofs of the library, with one case more: JvmDerived/Free/Laws.lean (Back.of_free), Shelf42/LK1.lean (callV, callS), Shelf/KitTraced.lean (throwNew0V, throwNewS). -/
/-- where a method has thrown q: the class by its name, the cell, what was written, the world -/
def vx_T (XC : String → State → State → Prop) (st : State) (q : Addr) (t : State) (mc ms : Nat) (free : Addr → Prop) : Prop :=
  ∃ (E : String) (ce : Cell) (L : List Loc), XC E st t ∧ t.heap[q]? = some ce ∧ ce.vm = .none ∧ st.vm.findClass E = some ce.cls ∧ st.WarmedH t.vm ∧ st.sameButNew ({ t with vm := st.vm } : State) L mc ms ∧ ∀ z ∈ L, free z.base
def vx_Q (Qc : Array Value → State → Outcome → State → Prop) (XC : String → State → State → Prop) (mc ms : Nat) (free : Addr → Prop) : Array Value → State → Outcome → State → Prop := fun a st o t =>
  (Qc a st o t ∧ ∃ L, FrameEnd st o t L mc ms ∧ ∀ q ∈ L, free q.base) ∨ ∃ q, o = .threw q ∧ vx_T XC st q t mc ms free
/-- a callee that returns or throws -/
def vx_Met (l : Launch) (y : MethodName) (ws : List Cond) (rm : Room) (Pc : Array Value → State → Prop) (Qc : Array Value → State → Outcome → State → Prop) (XC : String → State → State → Prop) (mc ms : Nat) (free : Addr → Prop) : Prop :=
  MetFree l y (headSpec ws rm) Pc (fun _ _ _ _ _ => True) (vx_Q Qc XC mc ms free)
def vx_Post (XC : String → State → State → Prop) (mc ms : Nat) (free : Addr → Prop) : Pt → Array Value → Addr → Pt → Prop := fun A a q B =>
  ∃ (g : JFrame) (mk : MethodId) (t : State) (L : List Loc) (E : String) (ce : Cell), B.U.heap = t.heap ∧ B.U.vm = t.vm ∧ XC E (A.U.calling g mk a) t ∧ t.heap[q]? = some ce ∧ ce.vm = .none ∧ A.U.vm.findClass E = some ce.cls ∧ B.locs = A.locs ++ L ∧ (∀ z ∈ L, free z.base) ∧ B.cells = A.cells + mc ∧ B.slots = A.slots + ms
def vx_Back (l : Launch) (R : Room) (p : Program) (e : Env) (below : List Frame) (s : State) (sargs : Array Value) (y : MethodName) (len W9 : Nat)
    (Pre : Pt → Array Value → Prop) (Post : Pt → Array Value → Option Value → Pt → Prop) (PostX : Pt → Array Value → Addr → Pt → Prop) : Prop :=
  ∀ (m : MethodId) (meth : Method) (c : Code) (A : Pt) (g : JFrame) (ig : Instr) (mk : MethodId) (a : Array Value),
    Stand p l e R s m sargs below meth c A.U A.locs A.cells A.slots → g.method = m → g.locals.size = c.maxLocals → decode c.code g.pc = .ok (ig, len) →
    2 * g.monitorRoom + (g.stack.map fun v => v.category).sum ≤ W9 → A.U.methodNamed? y = some mk → Pre A a →
    (∃ (v : Option Value) (B : Pt), Stand p l e R s m sargs below meth c B.U B.locs B.cells B.slots ∧ Post A a v B ∧
      Steps p.tables e below (doInvoke e (A.U.setTop g) [] mk a).1 (B.U.setTop { g with pc := g.pc + len, stack := v.toList ++ g.stack })) ∨
    (∃ (q : Addr) (B : Pt), Stand p l e R s m sargs below meth c B.U B.locs B.cells B.slots ∧ PostX A a q B ∧
      Steps p.tables e below (doInvoke e (A.U.setTop g) [] mk a).1 ((B.U.setTop g).pushFrame (.throwing q)))
section Payer
variable {l : Launch} {R : Room} {p : Program} {e : Env} {below : List Frame} {s : State} {sargs : Array Value} {y : MethodName} {len W9 : Nat}
theorem vx_back {ws : List Cond} {rm : Room} {Pc : Array Value → State → Prop} {Qc : Array Value → State → Outcome → State → Prop} {XC : String → State → State → Prop} {mc ms : Nat} {free : Addr → Prop} {bytes : ByteArray} {maxL : Nat} {ret : Option FieldType}
    (hM : vx_Met l y ws rm Pc Qc XC mc ms free) (hblind : FrameBlind Pc) (hrc : rm.cells = mc) (hrs : rm.slots = ms)
    (hframes : rm.frames + 1 ≤ R.frames) (hlocals : W9 + (maxL + 11) + rm.locals ≤ R.locals)
    (hws : ∀ w ∈ ws, ∀ a' U, s.WarmedH U.vm → w.before a' U = true) (hcode : Cond.code y bytes maxL ret ∈ ws) (hinit : ∀ a' U, s.WarmedH U.vm → (Cond.initialized y.cls).before a' U = true) :
    vx_Back l R p e below s sargs y len W9 (PreOf R mc ms Pc) (PostOf Qc mc ms free) (vx_Post XC mc ms free) := by
  intro m meth c A g ig mk a X hg hsize hdg hW hn hp
  have h1 : (headSpec ws rm).pre.before a A.U = true := atoms_intro fun w hw => hws w hw _ _ X.warmed
  have h2 : (Cond.code y bytes maxL ret).before a A.U = true := hws _ hcode _ _ X.warmed
  have h3 : (Cond.initialized y.cls).before a A.U = true := hinit _ _ X.warmed
  have h4 : A.cells + (headSpec ws rm).room.cells ≤ R.cells := by rw [show (headSpec ws rm).room.cells = mc from hrc]; exact hp.1
  have h5 : A.slots + (headSpec ws rm).room.slots ≤ R.slots := by rw [show (headSpec ws rm).room.slots = ms from hrs]; exact hp.2.1
  have hPc : Pc a (A.U.calling g mk a) := hblind _ _ _ _ hp.2.2
  obtain ⟨U, Ls, c0, s0⟩ := A
  dsimp only [Pt.U, Pt.locs, Pt.cells, Pt.slots] at h1 h2 h3 h4 h5 X hn hPc ⊢
  obtain ⟨methY, cY, hmY, hcY, -, hlY, -, -, -, -⟩ := Cond.code_spec hn h2
  obtain ⟨kY, hkY, -⟩ := className_of_methodNamed hn
  have hinitY : kY.init = .initialized := Cond.initialized_spec (findClass_of_methodNamed hn) hkY h3
  have h : At U g.method c below := by rw [hg]; exact X.here
  have hlocals9 : W9 + (maxL + 11) + (headSpec ws rm).room.locals ≤ R.locals := hlocals
  have happ : (headSpec ws rm).appliesLoose y e.platform (U.calling g mk a) = true :=
    Spec.appliesLoose_calling (g := g) h hdg hn hkY hinitY
      (X.room_calling (g := g) (R' := (headSpec ws rm).room) hsize hmY hcY hframes (by rw [hlY]; omega) h4 h5) h1
  obtain ⟨mid, hmid⟩ := h.above
  have hfr : (U.setTop g).frames = (.java g :: mid) ++ below := by rw [State.frames_setTop' g h.top, hmid]; rfl
  obtain ⟨o, s₂, hsteps, -, hend, hq⟩ := Steps.callFree hM p X.admits X.cas X.clock (acts := []) hfr happ hPc trivial
  have hq' : vx_Q Qc XC mc ms free a (U.calling g mk a) o s₂ := hq
  rw [State.frames_setTop' g h.top] at hend
  obtain ⟨g₀, hg0⟩ := Option.isSome_iff_exists.mp h.top
  obtain ⟨r, hr⟩ := State.topJava?_eq_some.mp hg0
  have hr' : (({ U with heap := s₂.heap, slotsUsed := s₂.slotsUsed } : State).setVm s₂.vm).frames = .java g₀ :: r := hr
  rcases hq' with ⟨hqc, L, hfe, hL⟩ | ⟨q, rfl, E, ce, L, hx, hce, hcv, hcl, hW₂, hsm, hL⟩
  · obtain ⟨⟨v, rfl⟩, hW₂, e2, q2, q3, q4, q5, q6⟩ := id hfe
    have e3 : s₂ = ({ (U.calling g mk a).setFrames s₂.frames with heap := s₂.heap, slotsUsed := s₂.slotsUsed } : State).setVm s₂.vm := by
      have : s₂ = ({ s₂ with vm := (U.calling g mk a).vm } : State).setVm s₂.vm := rfl
      rw [e2] at this
      exact this
    obtain ⟨c₂, i₂, len₂, hc₂, hd₂, hf₂⟩ := hend
    have hW' : U.WarmedH s₂.vm := hW₂
    have hcc : c₂ = c := by
      have h1 : s₂.code? g.method = U.code? g.method := by
        rw [State.code?_eq, State.code?_eq, hW'.alike.method?]
      exact Option.some.inj (hc₂.symm.trans (h1.trans h.code))
    subst hcc
    have hlen : len₂ = len := by rw [hdg] at hd₂; cases hd₂; rfl
    subst hlen
    have hs₂ : s₂ = (({ U with heap := s₂.heap, slotsUsed := s₂.slotsUsed } : State).setVm s₂.vm).setTop { g with pc := g.pc + len₂, stack := v.toList ++ g.stack } := by
      refine e3.trans ?_
      rw [hf₂, State.calling_eq h.top, State.setFrames_setFrames, State.setTop_of_frames _ hr', hr]
      rfl
    have hsame : U.sameButNew ({ U with heap := s₂.heap, slotsUsed := s₂.slotsUsed } : State) L mc ms := by
      refine ⟨?_, q2, q3, q4, q5, q6⟩
      obtain ⟨t, ht, -⟩ := State.frames_cons hr
      show ({ U with heap := s₂.heap, slotsUsed := s₂.slotsUsed } : State) = { U.setFrames U.frames with heap := s₂.heap, slotsUsed := s₂.slotsUsed }
      rw [State.setFrames_self ht]
    subst hg
    refine Or.inl ⟨v, ⟨(({ U with heap := s₂.heap, slotsUsed := s₂.slotsUsed } : State).setVm s₂.vm), Ls ++ L, c0 + mc, s0 + ms⟩,
      ⟨X.admits, X.cas, X.clock, X.frames, X.room, X.hears, X.method, X.code, (X.here.setHeapUsed s₂.heap s₂.slotsUsed).setVm hW'.alike, X.tail, State.WarmedH.trans X.warmed hW', X.limits, X.bytes, X.same.trans (hsame.setVm s.vm)⟩,
      ⟨g, mk, s₂, L, rfl, rfl, hqc, rfl, hL, rfl, rfl⟩, ?_⟩
    show Steps p.tables e below _ ((({ U with heap := s₂.heap, slotsUsed := s₂.slotsUsed } : State).setVm s₂.vm).setTop { g with pc := g.pc + len₂, stack := v.toList ++ g.stack })
    rw [← hs₂]
    exact hsteps
  · obtain ⟨e2, q2, q3, q4, q5, q6⟩ := id hsm
    have e3 : s₂ = ({ (U.calling g mk a).setFrames s₂.frames with heap := s₂.heap, slotsUsed := s₂.slotsUsed } : State).setVm s₂.vm := by
      have : s₂ = ({ s₂ with vm := (U.calling g mk a).vm } : State).setVm s₂.vm := rfl
      rw [e2] at this
      exact this
    have hf₂ : s₂.frames = .throwing q :: .java g :: U.frames.tail := hend
    have hW' : U.WarmedH s₂.vm := hW₂
    have hs₂ : s₂ = ((({ U with heap := s₂.heap, slotsUsed := s₂.slotsUsed } : State).setVm s₂.vm).setTop g).pushFrame (.throwing q) := by
      refine e3.trans ?_
      rw [hf₂, State.calling_eq h.top, State.setFrames_setFrames, State.pushFrame, State.frames_setTop _ hr', State.setTop_of_frames _ hr', State.setFrames_setFrames, hr]
      rfl
    have hsame : U.sameButNew ({ U with heap := s₂.heap, slotsUsed := s₂.slotsUsed } : State) L mc ms := by
      refine ⟨?_, q2, q3, q4, q5, q6⟩
      obtain ⟨t, ht, -⟩ := State.frames_cons hr
      show ({ U with heap := s₂.heap, slotsUsed := s₂.slotsUsed } : State) = { U.setFrames U.frames with heap := s₂.heap, slotsUsed := s₂.slotsUsed }
      rw [State.setFrames_self ht]
    subst hg
    refine Or.inr ⟨q, ⟨(({ U with heap := s₂.heap, slotsUsed := s₂.slotsUsed } : State).setVm s₂.vm), Ls ++ L, c0 + mc, s0 + ms⟩,
      ⟨X.admits, X.cas, X.clock, X.frames, X.room, X.hears, X.method, X.code, (X.here.setHeapUsed s₂.heap s₂.slotsUsed).setVm hW'.alike, X.tail, State.WarmedH.trans X.warmed hW', X.limits, X.bytes, X.same.trans (hsame.setVm s.vm)⟩,
      ⟨g, mk, s₂, L, E, ce, rfl, rfl, hx, hce, hcv, hcl, rfl, hL, rfl, rfl⟩, ?_⟩
    show Steps p.tables e below _ (((({ U with heap := s₂.heap, slotsUsed := s₂.slotsUsed } : State).setVm s₂.vm).setTop g).pushFrame (.throwing q))
    rw [← hs₂]
    exact hsteps
end Payer
section Calls
variable {p : Program} {l : Launch} {e : Env} {R : Room} {s : State} {m : MethodId} {args : Array Value} {below : List Frame} {meth : Method} {c : Code} {T : State} {locs : List Loc} {cells slots : Nat}
theorem vx_callV (X : Stand p l e R s m args below meth c T locs cells slots) (hexec : p.tables.exec = Jvm.exec) {own C : String} {index : Nat} {y : MethodName} {bytes : ByteArray} {maxL : Nat} {ret : Option FieldType}
    (hown : s.vm.findClass own = some m.cls) (hlink : (Cond.methodLink own index y).before args s = true) (hinst : (Cond.instanceMethod y).before args s = true) (hsel : (Cond.selects C y y).before args s = true)
    (hcode : (Cond.code y bytes maxL ret).before args s = true) (hy : y.cls ≠ "java/lang/invoke/MethodHandle" ∧ y.cls ≠ "java/lang/invoke/VarHandle")
    {W9 : Nat} {Pre : Pt → Array Value → Prop} {Post : Pt → Array Value → Option Value → Pt → Prop} {PostX : Pt → Array Value → Addr → Pt → Prop} (hK : vx_Back l R p e below s args y 3 W9 Pre Post PostX)
    {b : Addr} {cellB : Cell} (hcell : T.heap[b]? = some cellB) (hobj : cellB.vm.isStatics = false) (hcls : s.vm.findClass C = some cellB.cls)
    {g : JFrame} (hg : g.method = m) (hsize : g.locals.size = c.maxLocals) {argsL rest : List Value} (hlen : ∀ sig, parseMethodDescriptor y.desc = some sig → argsL.length = sig.parameters.length)
    (hstack : g.stack = argsL.reverse ++ .ref b :: rest) (hW : 2 * g.monitorRoom + (rest.map fun v => v.category).sum ≤ W9) (hdg : decode c.code g.pc = .ok (.invokevirtual index, 3))
    (hpre : ∀ vm₁, s.WarmedH vm₁ → Pre ⟨T.setVm vm₁, locs, cells, slots⟩ (Value.ref b :: argsL).toArray) :
    (∃ (v : Option Value) (vm₁ : Vm) (B : Pt), s.WarmedH vm₁ ∧ Stand p l e R s m args below meth c B.U B.locs B.cells B.slots ∧ Post ⟨T.setVm vm₁, locs, cells, slots⟩ (Value.ref b :: argsL).toArray v B ∧
      ∀ target, Steps p.tables e below (B.U.setTop { g with pc := g.pc + 3, stack := v.toList ++ rest }) target → Steps p.tables e below (T.setTop g) target) ∨
    (∃ (q : Addr) (vm₁ : Vm) (B : Pt), s.WarmedH vm₁ ∧ Stand p l e R s m args below meth c B.U B.locs B.cells B.slots ∧ PostX ⟨T.setVm vm₁, locs, cells, slots⟩ (Value.ref b :: argsL).toArray q B ∧
      Steps p.tables e below (T.setTop g) ((B.U.setTop { g with stack := rest }).pushFrame (.throwing q))) := by
  obtain ⟨mk, methM, hnamed, hmethM, hstM, habM⟩ := Cond.instanceMethod_spec hinst
  obtain ⟨methM', cM, hmethM', -, -, -, -, -, -, hsigM⟩ := Cond.code_spec hnamed hcode
  cases hmethM.symm.trans hmethM'
  obtain ⟨c2, r2, m2, q1, q2, q3, q4, kP, hkP, hkPi⟩ := Cond.selects_spec hsel
  cases hcls.symm.trans q1
  cases (State.methodFound?_of_named hnamed hy).symm.trans q2
  cases hnamed.symm.trans q3
  have hselP : selectMethod e.platform s.vm cellB.cls mk = .method mk := by rw [Launch.admits_selectMethod X.admits]; exact q4
  obtain ⟨vm₁, X₁, hstep₁⟩ := X.invokevirtual hexec hown hlink hnamed hmethM hstM hkP hkPi hy (a := b) (cell := cellB) hcell
    (fun z h => by rw [h] at hobj; cases hobj) hselP hmethM habM hkP hkPi (g := g) hg (argsL := argsL) (rest := rest) (hlen _ hsigM) hstack hdg
  rcases hK m meth c ⟨T.setVm vm₁, locs, cells, slots⟩ { g with stack := rest } (.invokevirtual index) mk (Value.ref b :: argsL).toArray X₁ hg hsize hdg hW (X₁.named hnamed) (hpre vm₁ X₁.warmed) with ⟨v, B, X', hpost, hsteps⟩ | ⟨q, B, X', hpost, hsteps⟩
  · exact Or.inl ⟨v, vm₁, B, X₁.warmed, X', hpost, fun target h => hstep₁ _ fun acts => by rw [doInvoke_state]; exact hsteps.trans h⟩
  · exact Or.inr ⟨q, vm₁, B, X₁.warmed, X', hpost, hstep₁ _ fun acts => by rw [doInvoke_state]; exact hsteps⟩
theorem vx_callS (X : Stand p l e R s m args below meth c T locs cells slots) (hexec : p.tables.exec = Jvm.exec) {own : String} {index : Nat} {y : MethodName} {bytes : ByteArray} {maxL : Nat} {ret : Option FieldType}
    (hown : s.vm.findClass own = some m.cls) (hlink : (Cond.methodLink own index y).before args s = true) (hstat : (Cond.static y).before args s = true) (hinit : (Cond.initialized y.cls).before args s = true)
    (hcode : (Cond.code y bytes maxL ret).before args s = true) (hy : y.cls ≠ "java/lang/invoke/MethodHandle" ∧ y.cls ≠ "java/lang/invoke/VarHandle")
    {W9 : Nat} {Pre : Pt → Array Value → Prop} {Post : Pt → Array Value → Option Value → Pt → Prop} {PostX : Pt → Array Value → Addr → Pt → Prop} (hK : vx_Back l R p e below s args y 3 W9 Pre Post PostX)
    {g : JFrame} (hg : g.method = m) (hsize : g.locals.size = c.maxLocals) {argsL rest : List Value} (hlen : ∀ sig, parseMethodDescriptor y.desc = some sig → argsL.length = sig.parameters.length)
    (hstack : g.stack = argsL.reverse ++ rest) (hW : 2 * g.monitorRoom + (rest.map fun v => v.category).sum ≤ W9) (hdg : decode c.code g.pc = .ok (.invokestatic index, 3))
    (hpre : ∀ vm₁, s.WarmedH vm₁ → Pre ⟨T.setVm vm₁, locs, cells, slots⟩ argsL.toArray) :
    (∃ (v : Option Value) (vm₁ : Vm) (B : Pt), s.WarmedH vm₁ ∧ Stand p l e R s m args below meth c B.U B.locs B.cells B.slots ∧ Post ⟨T.setVm vm₁, locs, cells, slots⟩ argsL.toArray v B ∧
      ∀ target, Steps p.tables e below (B.U.setTop { g with pc := g.pc + 3, stack := v.toList ++ rest }) target → Steps p.tables e below (T.setTop g) target) ∨
    (∃ (q : Addr) (vm₁ : Vm) (B : Pt), s.WarmedH vm₁ ∧ Stand p l e R s m args below meth c B.U B.locs B.cells B.slots ∧ PostX ⟨T.setVm vm₁, locs, cells, slots⟩ argsL.toArray q B ∧
      Steps p.tables e below (T.setTop g) ((B.U.setTop { g with stack := rest }).pushFrame (.throwing q))) := by
  obtain ⟨mk, hnamed⟩ := Cond.code_named hcode
  obtain ⟨methM, cM, hmethM, -, -, -, -, -, -, hsigM⟩ := Cond.code_spec hnamed hcode
  have hstatic : methM.isStatic = true := Cond.static_spec hnamed hmethM hstat
  obtain ⟨kP, hkP, -⟩ := className_of_methodNamed hnamed
  have hinitP : kP.init = .initialized := Cond.initialized_spec (findClass_of_methodNamed hnamed) hkP hinit
  obtain ⟨vm₁, X₁, hstep₁⟩ := X.invokestatic hexec hown hlink hnamed hmethM hstatic hkP hinitP hy (g := g) hg (argsL := argsL) (rest := rest) (hlen _ hsigM) hstack hdg
  rcases hK m meth c ⟨T.setVm vm₁, locs, cells, slots⟩ { g with stack := rest } (.invokestatic index) mk argsL.toArray X₁ hg hsize hdg hW (X₁.named hnamed) (hpre vm₁ X₁.warmed) with ⟨v, B, X', hpost, hsteps⟩ | ⟨q, B, X', hpost, hsteps⟩
  · exact Or.inl ⟨v, vm₁, B, X₁.warmed, X', hpost, fun target h => hstep₁ _ fun acts => by rw [doInvoke_state]; exact hsteps.trans h⟩
  · exact Or.inr ⟨q, vm₁, B, X₁.warmed, X', hpost, hstep₁ _ fun acts => by rw [doInvoke_state]; exact hsteps⟩
end Calls
theorem vx_cls {s : State} {T : State} {vm₁ : Vm} {E : String} {k : ClassId} (hW : s.WarmedH vm₁) (h : (T.setVm vm₁).vm.findClass E = some k) : s.vm.findClass E = some k := by
  have h1 : vm₁.findClass E = some k := h
  rw [hW.alike.findClass] at h1
  exact h1
/-- the method's frame g, with q thrown over it -/
def vx_W (p : Program) (l : Launch) (e : Env) (R : Room) (s : State) (m : MethodId) (args : Array Value) (below : List Frame) (meth : Method) (c : Code) (H : Heap) (locs : List Loc) (cells slots : Nat) (Q : State → Prop) (g : JFrame) (q : Addr) : Prop :=
  ∀ T : State, T.heap = H → Stand p l e R s m args below meth c T locs cells slots → ∃ t, Steps p.tables e below ((T.setTop g).pushFrame (.throwing q)) t ∧ Q t
def vx_Run (p : Program) (l : Launch) (e : Env) (R : Room) (s : State) (m : MethodId) (args : Array Value) (below : List Frame) (meth : Method) (c : Code) (H : Heap) (locs : List Loc) (cells slots mc ms : Nat) (g : JFrame) (rest : List Value) (Qa : State → Outcome → State → Prop) (XC : String → State → State → Prop) (free : Addr → Prop) : Prop :=
  ∀ T : State, T.heap = H → Stand p l e R s m args below meth c T locs cells slots →
    (∃ (v : Option Value) (st₀ t T' : State) (L : List Loc), st₀.heap = H ∧ Stand p l e R s m args below meth c T' (locs ++ L) (cells + mc) (slots + ms) ∧ (∀ q ∈ L, free q.base) ∧ T'.heap = t.heap ∧ T'.vm = t.vm ∧ Qa st₀ (.returned v) t ∧
      Goes p e below T g T' { g with pc := g.pc + 3, stack := v.toList ++ rest }) ∨
    (∃ (q : Addr) (st₀ t T' : State) (L : List Loc) (E : String) (ce : Cell), st₀.heap = H ∧ Stand p l e R s m args below meth c T' (locs ++ L) (cells + mc) (slots + ms) ∧ (∀ z ∈ L, free z.base) ∧ T'.heap = t.heap ∧ T'.vm = t.vm ∧ XC E st₀ t ∧ t.heap[q]? = some ce ∧ ce.vm = .none ∧ s.vm.findClass E = some ce.cls ∧
      Steps p.tables e below (T.setTop g) ((T'.setTop { g with stack := rest }).pushFrame (.throwing q)))
def vx_X {S : Type} (px : S → Prop) (B : String → S → State → Prop) (A : Nat → Prop) : String → State → State → Prop := fun E st t => ∃ u : S, px u ∧ B E u t ∧ va_F A st t
section Runs
variable {p : Program} {l : Launch} {e : Env} {R : Room} {s : State} {m : MethodId} {args : Array Value} {below : List Frame} {meth : Method} {c : Code} {H : Heap} {locs : List Loc} {cells slots : Nat}
variable {y : MethodName} {bytes cc : ByteArray} {maxL nL mc ms n index : Nat} {ret : Option FieldType} {ws : List Cond} {rm : Room} {Pc : Array Value → State → Prop} {Qc : Array Value → State → Outcome → State → Prop} {XC : String → State → State → Prop} {free : Addr → Prop} {Ts : List Cond} {own C : String} {b : Addr} {As rest : List Value} {g : JFrame}
theorem vx_callBack (cb : CallB R s args own index y bytes maxL ret ws rm mc ms n) (hM : vx_Met l y ws rm Pc Qc XC mc ms free) (hbl : FrameBlind Pc) : vx_Back l R p e below s args y 3 8 (PreOf R mc ms Pc) (PostOf Qc mc ms free) (vx_Post XC mc ms free) := by
  obtain ⟨hrc, hrs, hfr, hlo, hws, hcw, -, hini, -⟩ := cb
  exact vx_back (bytes := bytes) (maxL := maxL) (ret := ret) hM hbl hrc hrs hfr hlo hws hcw (fun a' U hW => word_at hW (Or.inl (by first | rfl | simp [Cond.onTables, Cond.keeps, Cond.steady])) hini)
theorem vx_runV (S : CallFix p m c cc nL s args Ts own) (hM : vx_Met l y ws rm Pc Qc XC mc ms free) (cw : CallW R s args own C index y bytes maxL ret ws rm mc ms n) (hp : PreV s H C b Pc As)
    (hg : g.method = m) (hn : As.length = n) (hsize : g.locals.size = nL) (hstack : g.stack = As.reverse ++ .ref b :: rest) (hW : 2 * g.monitorRoom + (rest.map fun v => v.category).sum ≤ 8) (hdg : decode cc g.pc = .ok (.invokevirtual index, 3)) (hf : cells + mc ≤ R.cells ∧ slots + ms ≤ R.slots) :
    vx_Run p l e R s m args below meth c H locs cells slots mc ms g rest (Qc (Value.ref b :: As).toArray) XC free := by
  have hK : vx_Back l R p e below s args y 3 8 (PreOf R mc ms Pc) (PostOf Qc mc ms free) (vx_Post XC mc ms free) := vx_callBack cw.1 hM hp.1
  obtain ⟨⟨-, -, -, -, -, -, hcode, -, hy, hlen, hl⟩, hin, hse⟩ := cw
  obtain ⟨hx, hb, hml, ho, -⟩ := S
  obtain ⟨-, ⟨cellB, hcB, hoB, hclB⟩, hPc⟩ := hp
  intro T hT X
  rcases vx_callV X hx (C := C) (bytes := bytes) (maxL := maxL) (ret := ret) ho hl hin hse hcode hy hK (by rw [hT]; exact hcB) hoB hclB hg (hsize.trans hml.symm) (argsL := As) (rest := rest) (fun sig h => hn.trans (hlen sig h)) hstack hW (by rw [hb]; exact hdg)
    (fun vm₁ hW₁ => ⟨hf.1, hf.2, hPc (T.setVm vm₁) hT hW₁⟩) with ⟨v, vm₁, ⟨U', l2, c2, s2⟩, hW₁, X', ⟨g', mk, t, L, e1, e2, hq, h1, hL, h2, h3⟩, st⟩ | ⟨q, vm₁, ⟨U', l2, c2, s2⟩, hW₁, X', ⟨g', mk, t, L, E, ce, e1, e2, hq, hce, hcv, hcl, h1, hL, h2, h3⟩, st⟩
  · dsimp only [Pt.U, Pt.locs, Pt.cells, Pt.slots] at X' e1 e2 h1 h2 h3 st
    subst h1; subst h2; subst h3
    exact Or.inl ⟨v, (T.setVm vm₁).calling g' mk (Value.ref b :: As).toArray, t, U', L, hT, X', hL, e1, e2, hq, st⟩
  · dsimp only [Pt.U, Pt.locs, Pt.cells, Pt.slots] at X' e1 e2 h1 h2 h3 st hcl
    subst h1; subst h2; subst h3
    exact Or.inr ⟨q, (T.setVm vm₁).calling g' mk (Value.ref b :: As).toArray, t, U', L, E, ce, hT, X', hL, e1, e2, hq, hce, hcv, vx_cls hW₁ hcl, st⟩
theorem vx_runS (S : CallFix p m c cc nL s args Ts own) (hM : vx_Met l y ws rm Pc Qc XC mc ms free) (cw : CallB R s args own index y bytes maxL ret ws rm mc ms n ∧ (Cond.static y).before args s = true) (hp : PreS s H Pc As)
    (hg : g.method = m) (hn : As.length = n) (hsize : g.locals.size = nL) (hstack : g.stack = As.reverse ++ rest) (hW : 2 * g.monitorRoom + (rest.map fun v => v.category).sum ≤ 8) (hdg : decode cc g.pc = .ok (.invokestatic index, 3)) (hf : cells + mc ≤ R.cells ∧ slots + ms ≤ R.slots) :
    vx_Run p l e R s m args below meth c H locs cells slots mc ms g rest (Qc As.toArray) XC free := by
  have hK : vx_Back l R p e below s args y 3 8 (PreOf R mc ms Pc) (PostOf Qc mc ms free) (vx_Post XC mc ms free) := vx_callBack cw.1 hM hp.1
  obtain ⟨⟨-, -, -, -, -, -, hcode, hini, hy, hlen, hl⟩, hstt⟩ := cw
  obtain ⟨hx, hb, hml, ho, -⟩ := S
  intro T hT X
  rcases vx_callS X hx (bytes := bytes) (maxL := maxL) (ret := ret) ho hl hstt hini hcode hy hK hg (hsize.trans hml.symm) (argsL := As) (rest := rest) (fun sig h => hn.trans (hlen sig h)) hstack hW (by rw [hb]; exact hdg)
    (fun vm₁ hW₁ => ⟨hf.1, hf.2, hp.2 (T.setVm vm₁) hT hW₁⟩) with ⟨v, vm₁, ⟨U', l2, c2, s2⟩, hW₁, X', ⟨g', mk, t, L, e1, e2, hq, h1, hL, h2, h3⟩, st⟩ | ⟨q, vm₁, ⟨U', l2, c2, s2⟩, hW₁, X', ⟨g', mk, t, L, E, ce, e1, e2, hq, hce, hcv, hcl, h1, hL, h2, h3⟩, st⟩
  · dsimp only [Pt.U, Pt.locs, Pt.cells, Pt.slots] at X' e1 e2 h1 h2 h3 st
    subst h1; subst h2; subst h3
    exact Or.inl ⟨v, (T.setVm vm₁).calling g' mk As.toArray, t, U', L, hT, X', hL, e1, e2, hq, st⟩
  · dsimp only [Pt.U, Pt.locs, Pt.cells, Pt.slots] at X' e1 e2 h1 h2 h3 st hcl
    subst h1; subst h2; subst h3
    exact Or.inr ⟨q, (T.setVm vm₁).calling g' mk As.toArray, t, U', L, E, ce, hT, X', hL, e1, e2, hq, hce, hcv, vx_cls hW₁ hcl, st⟩
end Runs
section Rows
variable {p : Program} {l : Launch} {e : Env} {R : Room} {s : State} {m : MethodId} {args : Array Value} {below : List Frame} {meth : Method} {c : Code} {H : Heap} {locs : List Loc} {cells slots : Nat} {Q : State → Prop}
variable {mc ms : Nat} {free : Addr → Prop} {A0 A1 : Nat → Prop} {H0 : Heap} {a : Array Value} {pc : Nat} {ls : Array Slot} {st0 rest : List Value}
theorem vx_keep {st₀ t T' : State} {L : List Loc} (h0 : st₀.heap = H) (e1 : T'.heap = t.heap) (hS : va_S A0 H0 H locs) (hA : ∀ q, q < H.size → A1 q → A0 q) (hf : ∀ q, free q → A0 q) (hL : ∀ q ∈ L, free q.base) (hF : va_F A1 st₀ t) :
    H.size ≤ T'.heap.size ∧ (∀ q : Nat, q < H.size → ¬ A1 q → T'.heap[q]? = H[q]?) ∧ va_S A0 H0 T'.heap (locs ++ L) := by
  obtain ⟨hz, hk⟩ := hF
  rw [h0] at hz hk
  exact ⟨by rw [e1]; exact hz, fun q h1 h2 => by rw [e1]; exact hk q h1 h2,
    ⟨Nat.le_trans hS.1 (by rw [e1]; exact hz), fun q h1 h2 => by rw [e1, hk q (Nat.lt_of_lt_of_le h1 hS.1) (fun z => h2 (hA q (Nat.lt_of_lt_of_le h1 hS.1) z))]; exact hS.2.1 q h1 h2, fun q hq => by
      rcases List.mem_append.mp hq with h | h
      · exact hS.2.2 q h
      · exact hf _ (hL q h)⟩⟩
theorem vx_calli {S SX : Type} {post : Int32 → S → Prop} {px : SX → Prop} {B : S → State → Prop} {BX : String → SX → State → Prop} {AX : Nat → Prop} (hr : vx_Run p l e R s m args below meth c H locs cells slots mc ms (F0 m pc ls st0) rest (va_Qi post B A1 a) (vx_X px BX AX) free) (hS : va_S A0 H0 H locs) (hA : ∀ q, q < H.size → A1 q → A0 q) (hf : ∀ q, free q → A0 q) (hAX : ∀ q, q < H.size → AX q → A0 q)
    (kx : ∀ (E : String) (ce : Cell) (q9 : Addr) (u : SX) (t : State) (H1 : Heap) (locs1 : List Loc), t.heap = H1 → s.vm.Alike t.vm → px u → BX E u t → H.size ≤ H1.size → (∀ q : Nat, q < H.size → ¬ AX q → H1[q]? = H[q]?) → va_S A0 H0 H1 locs1 → H1[q9]? = some ce → ce.vm = .none → s.vm.findClass E = some ce.cls → vx_W p l e R s m args below meth c H1 locs1 (cells + mc) (slots + ms) Q (F0 m pc ls rest) q9)
    (kk : ∀ (r : Int32) (u : S) (t : State) (H1 : Heap) (locs1 : List Loc), t.heap = H1 → s.vm.Alike t.vm → post r u → B u t → H.size ≤ H1.size → (∀ q : Nat, q < H.size → ¬ A1 q → H1[q]? = H[q]?) → va_S A0 H0 H1 locs1 → W p l e R s m args below meth c H1 locs1 (cells + mc) (slots + ms) Q (F0 m (pc + 3) ls (.int r :: rest))) : W p l e R s m args below meth c H locs cells slots Q (F0 m pc ls st0) := by
  intro T hT X
  rcases hr T hT X with ⟨v, st₀, t, T', L, h0, X', hL, e1, e2, ⟨⟨r, u, hv, hp, hb⟩, hF⟩, st⟩ | ⟨q, st₀, t, T', L, E, ce, h0, X', hL, e1, e2, ⟨u, hp, hb, hF⟩, hce, hcv, hcl, st⟩
  · cases hv
    obtain ⟨k1, k2, k3⟩ := vx_keep h0 e1 hS hA hf hL hF
    obtain ⟨t2, a1, b1⟩ := kk r u t T'.heap (locs ++ L) e1.symm (by rw [← e2]; exact X'.warmed.alike) hp hb k1 k2 k3 T' rfl X'
    exact ⟨t2, st t2 a1, b1⟩
  · obtain ⟨k1, k2, k3⟩ := vx_keep h0 e1 hS hAX hf hL hF
    obtain ⟨t2, a1, b1⟩ := kx E ce q u t T'.heap (locs ++ L) e1.symm (by rw [← e2]; exact X'.warmed.alike) hp hb k1 k2 k3 (by rw [e1]; exact hce) hcv hcl T' rfl X'
    exact ⟨t2, st.trans a1, b1⟩
theorem vx_calll {S SX : Type} {post : Int64 → S → Prop} {px : SX → Prop} {B : S → State → Prop} {BX : String → SX → State → Prop} {AX : Nat → Prop} (hr : vx_Run p l e R s m args below meth c H locs cells slots mc ms (F0 m pc ls st0) rest (va_Ql post B A1 a) (vx_X px BX AX) free) (hS : va_S A0 H0 H locs) (hA : ∀ q, q < H.size → A1 q → A0 q) (hf : ∀ q, free q → A0 q) (hAX : ∀ q, q < H.size → AX q → A0 q)
    (kx : ∀ (E : String) (ce : Cell) (q9 : Addr) (u : SX) (t : State) (H1 : Heap) (locs1 : List Loc), t.heap = H1 → s.vm.Alike t.vm → px u → BX E u t → H.size ≤ H1.size → (∀ q : Nat, q < H.size → ¬ AX q → H1[q]? = H[q]?) → va_S A0 H0 H1 locs1 → H1[q9]? = some ce → ce.vm = .none → s.vm.findClass E = some ce.cls → vx_W p l e R s m args below meth c H1 locs1 (cells + mc) (slots + ms) Q (F0 m pc ls rest) q9)
    (kk : ∀ (r : Int64) (u : S) (t : State) (H1 : Heap) (locs1 : List Loc), t.heap = H1 → s.vm.Alike t.vm → post r u → B u t → H.size ≤ H1.size → (∀ q : Nat, q < H.size → ¬ A1 q → H1[q]? = H[q]?) → va_S A0 H0 H1 locs1 → W p l e R s m args below meth c H1 locs1 (cells + mc) (slots + ms) Q (F0 m (pc + 3) ls (.long r :: rest))) : W p l e R s m args below meth c H locs cells slots Q (F0 m pc ls st0) := by
  intro T hT X
  rcases hr T hT X with ⟨v, st₀, t, T', L, h0, X', hL, e1, e2, ⟨⟨r, u, hv, hp, hb⟩, hF⟩, st⟩ | ⟨q, st₀, t, T', L, E, ce, h0, X', hL, e1, e2, ⟨u, hp, hb, hF⟩, hce, hcv, hcl, st⟩
  · cases hv
    obtain ⟨k1, k2, k3⟩ := vx_keep h0 e1 hS hA hf hL hF
    obtain ⟨t2, a1, b1⟩ := kk r u t T'.heap (locs ++ L) e1.symm (by rw [← e2]; exact X'.warmed.alike) hp hb k1 k2 k3 T' rfl X'
    exact ⟨t2, st t2 a1, b1⟩
  · obtain ⟨k1, k2, k3⟩ := vx_keep h0 e1 hS hAX hf hL hF
    obtain ⟨t2, a1, b1⟩ := kx E ce q u t T'.heap (locs ++ L) e1.symm (by rw [← e2]; exact X'.warmed.alike) hp hb k1 k2 k3 (by rw [e1]; exact hce) hcv hcl T' rfl X'
    exact ⟨t2, st.trans a1, b1⟩
theorem vx_callf {S SX : Type} {post : UInt32 → S → Prop} {px : SX → Prop} {B : S → State → Prop} {BX : String → SX → State → Prop} {AX : Nat → Prop} (hr : vx_Run p l e R s m args below meth c H locs cells slots mc ms (F0 m pc ls st0) rest (va_Qf post B A1 a) (vx_X px BX AX) free) (hS : va_S A0 H0 H locs) (hA : ∀ q, q < H.size → A1 q → A0 q) (hf : ∀ q, free q → A0 q) (hAX : ∀ q, q < H.size → AX q → A0 q)
    (kx : ∀ (E : String) (ce : Cell) (q9 : Addr) (u : SX) (t : State) (H1 : Heap) (locs1 : List Loc), t.heap = H1 → s.vm.Alike t.vm → px u → BX E u t → H.size ≤ H1.size → (∀ q : Nat, q < H.size → ¬ AX q → H1[q]? = H[q]?) → va_S A0 H0 H1 locs1 → H1[q9]? = some ce → ce.vm = .none → s.vm.findClass E = some ce.cls → vx_W p l e R s m args below meth c H1 locs1 (cells + mc) (slots + ms) Q (F0 m pc ls rest) q9)
    (kk : ∀ (r : UInt32) (u : S) (t : State) (H1 : Heap) (locs1 : List Loc), t.heap = H1 → s.vm.Alike t.vm → post r u → B u t → H.size ≤ H1.size → (∀ q : Nat, q < H.size → ¬ A1 q → H1[q]? = H[q]?) → va_S A0 H0 H1 locs1 → W p l e R s m args below meth c H1 locs1 (cells + mc) (slots + ms) Q (F0 m (pc + 3) ls (.float r :: rest))) : W p l e R s m args below meth c H locs cells slots Q (F0 m pc ls st0) := by
  intro T hT X
  rcases hr T hT X with ⟨v, st₀, t, T', L, h0, X', hL, e1, e2, ⟨⟨r, u, hv, hp, hb⟩, hF⟩, st⟩ | ⟨q, st₀, t, T', L, E, ce, h0, X', hL, e1, e2, ⟨u, hp, hb, hF⟩, hce, hcv, hcl, st⟩
  · cases hv
    obtain ⟨k1, k2, k3⟩ := vx_keep h0 e1 hS hA hf hL hF
    obtain ⟨t2, a1, b1⟩ := kk r u t T'.heap (locs ++ L) e1.symm (by rw [← e2]; exact X'.warmed.alike) hp hb k1 k2 k3 T' rfl X'
    exact ⟨t2, st t2 a1, b1⟩
  · obtain ⟨k1, k2, k3⟩ := vx_keep h0 e1 hS hAX hf hL hF
    obtain ⟨t2, a1, b1⟩ := kx E ce q u t T'.heap (locs ++ L) e1.symm (by rw [← e2]; exact X'.warmed.alike) hp hb k1 k2 k3 (by rw [e1]; exact hce) hcv hcl T' rfl X'
    exact ⟨t2, st.trans a1, b1⟩
theorem vx_calld {S SX : Type} {post : UInt64 → S → Prop} {px : SX → Prop} {B : S → State → Prop} {BX : String → SX → State → Prop} {AX : Nat → Prop} (hr : vx_Run p l e R s m args below meth c H locs cells slots mc ms (F0 m pc ls st0) rest (va_Qd post B A1 a) (vx_X px BX AX) free) (hS : va_S A0 H0 H locs) (hA : ∀ q, q < H.size → A1 q → A0 q) (hf : ∀ q, free q → A0 q) (hAX : ∀ q, q < H.size → AX q → A0 q)
    (kx : ∀ (E : String) (ce : Cell) (q9 : Addr) (u : SX) (t : State) (H1 : Heap) (locs1 : List Loc), t.heap = H1 → s.vm.Alike t.vm → px u → BX E u t → H.size ≤ H1.size → (∀ q : Nat, q < H.size → ¬ AX q → H1[q]? = H[q]?) → va_S A0 H0 H1 locs1 → H1[q9]? = some ce → ce.vm = .none → s.vm.findClass E = some ce.cls → vx_W p l e R s m args below meth c H1 locs1 (cells + mc) (slots + ms) Q (F0 m pc ls rest) q9)
    (kk : ∀ (r : UInt64) (u : S) (t : State) (H1 : Heap) (locs1 : List Loc), t.heap = H1 → s.vm.Alike t.vm → post r u → B u t → H.size ≤ H1.size → (∀ q : Nat, q < H.size → ¬ A1 q → H1[q]? = H[q]?) → va_S A0 H0 H1 locs1 → W p l e R s m args below meth c H1 locs1 (cells + mc) (slots + ms) Q (F0 m (pc + 3) ls (.double r :: rest))) : W p l e R s m args below meth c H locs cells slots Q (F0 m pc ls st0) := by
  intro T hT X
  rcases hr T hT X with ⟨v, st₀, t, T', L, h0, X', hL, e1, e2, ⟨⟨r, u, hv, hp, hb⟩, hF⟩, st⟩ | ⟨q, st₀, t, T', L, E, ce, h0, X', hL, e1, e2, ⟨u, hp, hb, hF⟩, hce, hcv, hcl, st⟩
  · cases hv
    obtain ⟨k1, k2, k3⟩ := vx_keep h0 e1 hS hA hf hL hF
    obtain ⟨t2, a1, b1⟩ := kk r u t T'.heap (locs ++ L) e1.symm (by rw [← e2]; exact X'.warmed.alike) hp hb k1 k2 k3 T' rfl X'
    exact ⟨t2, st t2 a1, b1⟩
  · obtain ⟨k1, k2, k3⟩ := vx_keep h0 e1 hS hAX hf hL hF
    obtain ⟨t2, a1, b1⟩ := kx E ce q u t T'.heap (locs ++ L) e1.symm (by rw [← e2]; exact X'.warmed.alike) hp hb k1 k2 k3 (by rw [e1]; exact hce) hcv hcl T' rfl X'
    exact ⟨t2, st.trans a1, b1⟩
theorem vx_callv {S SX : Type} {post : S → Prop} {px : SX → Prop} {B : S → State → Prop} {BX : String → SX → State → Prop} {AX : Nat → Prop} (hr : vx_Run p l e R s m args below meth c H locs cells slots mc ms (F0 m pc ls st0) rest (va_Qv post B A1 a) (vx_X px BX AX) free) (hS : va_S A0 H0 H locs) (hA : ∀ q, q < H.size → A1 q → A0 q) (hf : ∀ q, free q → A0 q) (hAX : ∀ q, q < H.size → AX q → A0 q)
    (kx : ∀ (E : String) (ce : Cell) (q9 : Addr) (u : SX) (t : State) (H1 : Heap) (locs1 : List Loc), t.heap = H1 → s.vm.Alike t.vm → px u → BX E u t → H.size ≤ H1.size → (∀ q : Nat, q < H.size → ¬ AX q → H1[q]? = H[q]?) → va_S A0 H0 H1 locs1 → H1[q9]? = some ce → ce.vm = .none → s.vm.findClass E = some ce.cls → vx_W p l e R s m args below meth c H1 locs1 (cells + mc) (slots + ms) Q (F0 m pc ls rest) q9)
    (kk : ∀ (u : S) (t : State) (H1 : Heap) (locs1 : List Loc), t.heap = H1 → s.vm.Alike t.vm → post u → B u t → H.size ≤ H1.size → (∀ q : Nat, q < H.size → ¬ A1 q → H1[q]? = H[q]?) → va_S A0 H0 H1 locs1 → W p l e R s m args below meth c H1 locs1 (cells + mc) (slots + ms) Q (F0 m (pc + 3) ls (rest))) : W p l e R s m args below meth c H locs cells slots Q (F0 m pc ls st0) := by
  intro T hT X
  rcases hr T hT X with ⟨v, st₀, t, T', L, h0, X', hL, e1, e2, ⟨⟨u, hv, hp, hb⟩, hF⟩, st⟩ | ⟨q, st₀, t, T', L, E, ce, h0, X', hL, e1, e2, ⟨u, hp, hb, hF⟩, hce, hcv, hcl, st⟩
  · cases hv
    obtain ⟨k1, k2, k3⟩ := vx_keep h0 e1 hS hA hf hL hF
    obtain ⟨t2, a1, b1⟩ := kk u t T'.heap (locs ++ L) e1.symm (by rw [← e2]; exact X'.warmed.alike) hp hb k1 k2 k3 T' rfl X'
    exact ⟨t2, st t2 a1, b1⟩
  · obtain ⟨k1, k2, k3⟩ := vx_keep h0 e1 hS hAX hf hL hF
    obtain ⟨t2, a1, b1⟩ := kx E ce q u t T'.heap (locs ++ L) e1.symm (by rw [← e2]; exact X'.warmed.alike) hp hb k1 k2 k3 (by rw [e1]; exact hce) hcv hcl T' rfl X'
    exact ⟨t2, st.trans a1, b1⟩
/-- caught by the row x of this method's table; the rows ahead don't take it -/
theorem vx_catch {own name : String} {E : String} {ce : Cell} {q : Addr} (hown : s.vm.findClass own = some m.cls) (pre : List ExceptionTableEntry) (x : ExceptionTableEntry) (suf : List ExceptionTableEntry) (hsplit : c.exceptionTable.toList = pre ++ x :: suf)
    (hpass : ∀ z ∈ pre, covers z pc = false ∨ (z.catchType ≠ 0 ∧ ∃ nm : String, (Cond.classLink own z.catchType nm).before args s = true ∧ va_Nc E nm s)) (hx : covers x pc = true) (h0 : x.catchType ≠ 0)
    (hlink : (Cond.classLink own x.catchType name).before args s = true) (hcast : (Cond.castable E name).before args s = true) (hcell : H[q]? = some ce) (hv : ce.vm = .none) (hcl : s.vm.findClass E = some ce.cls)
    (kk : W p l e R s m args below meth c H locs cells slots Q (F0 m x.handlerPc ls [.ref q])) : vx_W p l e R s m args below meth c H locs cells slots Q (F0 m pc ls rest) q := by
  intro T hT X
  have hpl : e.platform.magicAccessors = ({} : Platform).magicAccessors := by rw [X.admits.platform]
  obtain ⟨c3, c4, hc3, hc4, hasg⟩ := Cond.castable_spec hcast
  cases Option.some.inj (hc3.symm.trans hcl)
  obtain ⟨c5, hc5, hcl5⟩ := Cond.classLink_spec hown hlink e.platform hpl
  cases Option.some.inj (hc4.symm.trans hc5)
  obtain ⟨vm', X', st⟩ := X.thenCaughtThrough q (g := F0 m pc ls rest) rfl (Steps.refl _) (by rw [hT]; exact hcell) (by rw [hv]; rfl) (by obtain ⟨k9, h9, -⟩ := Vm.findClass_spec hcl; exact ⟨k9, h9⟩) pre x suf hsplit
    (fun z hz => by
      rcases hpass z hz with h | ⟨hz0, nm, hl1, hn1⟩
      · exact Or.inl h
      · obtain ⟨c6, hc6, hcl6⟩ := Cond.classLink_spec hown hl1 e.platform hpl
        obtain ⟨a8, b8, h1, h2, h3⟩ := hn1
        cases Option.some.inj (h1.symm.trans hcl)
        cases Option.some.inj (h2.symm.trans hc6)
        exact Or.inr ⟨hz0, _, hcl6, h3⟩) hx (Or.inr ⟨h0, c4, hcl5, hasg⟩)
  obtain ⟨t, a1, b1⟩ := kk (T.setVm vm') hT X'
  exact ⟨t, st.trans a1, b1⟩
end Rows
section Ends
variable {p : Program} {l : Launch} {e : Env} {R : Room} {s : State} {m : MethodId} {args : Array Value} {below : List Frame} {meth : Method} {c : Code} {H : Heap} {locs : List Loc} {cells slots : Nat} {Q : State → Prop}
variable {mc ms : Nat} {free : Addr → Prop} {A0 A1 : Nat → Prop} {H0 : Heap} {a : Array Value} {ls : Array Slot} {st0 rest : List Value}
variable {Qc : Array Value → State → Outcome → State → Prop} {XC : String → State → State → Prop}
/-- what a body that may throw owes at its end -/
def vx_MQ (below : List Frame) (Qc : Array Value → State → Outcome → State → Prop) (XC : String → State → State → Prop) (a : Array Value) (s : State) (mc ms : Nat) (free : Addr → Prop) : State → Prop := fun t =>
  ∃ o, t.status = .running ∧ Ended t below o ∧ vx_Q Qc XC mc ms free a s o t
theorem vx_ret {g : JFrame} {mc ms : Nat} (k : W p l e R s m args below meth c H locs cells slots (MQ below Qc args s mc ms free) g) : W p l e R s m args below meth c H locs cells slots (vx_MQ below Qc XC args s mc ms free) g := by
  intro T hT X
  obtain ⟨t, a1, o, b1, b2, b3, b4⟩ := k T hT X
  exact ⟨t, a1, o, b1, b2, Or.inl ⟨b3, b4⟩⟩
/-- not caught here: it goes on to the caller -/
theorem vx_widen {g : JFrame} {q : Addr} {k n : Nat} (h1 : cells ≤ k) (h2 : slots ≤ n) (kk : vx_W p l e R s m args below meth c H locs k n Q g q) : vx_W p l e R s m args below meth c H locs cells slots Q g q := fun T hT X => kk T hT (stand_widen X h1 h2)
theorem vx_out {pc : Nat} {E : String} {ce : Cell} {q : Addr} {mc ms : Nat} (hout : ∀ x ∈ c.exceptionTable.toList, covers x pc = false) (hlocks : meth.locks = false) (hcell : H[q]? = some ce) (hv : ce.vm = .none) (hcl : s.vm.findClass E = some ce.cls)
    (hx : ∀ t : State, t.heap = H → s.vm.Alike t.vm → XC E s t) (hf : ∀ z ∈ locs, free z.base) (hc : cells ≤ mc) (hs : slots ≤ ms) :
    vx_W p l e R s m args below meth c H locs cells slots (vx_MQ below Qc XC args s mc ms free) (F0 m pc ls rest) q := by
  intro T hT X
  obtain ⟨st1, hrun, hend, hW, hsm⟩ := X.leaveThrown q (g := F0 m pc ls rest) rfl rfl rfl hout hlocks
  have hcell9 : (T.setFrames (.throwing q :: below)).heap[q]? = some ce := by
    show T.heap[q]? = some ce
    rw [hT]; exact hcell
  exact ⟨_, st1, .threw q, hrun, hend, Or.inr ⟨q, rfl, E, ce, locs, hx _ hT hW.alike, hcell9, hv, hcl, hW, hsm.mono hc hs, hf⟩⟩
theorem vx_frame {U : State} {k n : Nat} (h : s.sameButNew ({ U with vm := s.vm } : State) locs k n) : s.heap.size ≤ U.heap.size ∧ ∀ q : Nat, q < s.heap.size → (∀ z ∈ locs, z.base ≠ q) → U.heap[q]? = s.heap[q]? := by
  obtain ⟨-, h2, -, -, -, h6⟩ := h
  refine ⟨h2, fun q hq hz => ?_⟩
  obtain ⟨c9, e1, e2, e3, e4⟩ := h6 q _ (Array.getElem?_eq_getElem hq)
  have hs : c9.slots = (s.heap[q]).slots := Array.ext_getElem? fun i => e4 i fun hm => hz _ hm rfl
  have h9 : c9 = s.heap[q] := by
    rw [hs] at e2
    exact e2
  have e5 : U.heap[q]? = some c9 := e1
  rw [e5, h9, Array.getElem?_eq_getElem hq]
/-- the words of a throw but the four that speak of the heap -/
def vx_no (w : Cond) : Bool := decide (w ≠ .isRef (.static Bundle.tN "UNASSIGNED_STACK" Bundle.steD)) && decide (w ≠ .isRef (.static Bundle.tN "SUPPRESSED_SENTINEL" Bundle.listD)) && decide (w ≠ .laysStatic Bundle.tN "UNASSIGNED_STACK" Bundle.steD) && decide (w ≠ .laysStatic Bundle.tN "SUPPRESSED_SENTINEL" Bundle.listD)
def vx_at0 (own : String) (ic : Nat) (X : String) (names : List String) : List Cond := (Bundle.ownAtoms0 own ic X names).filter vx_no
def vx_atS (own : String) (ic : Nat) (X : String) (names : List String) : List Cond := (Bundle.ownAtoms own ic X names).filter vx_no
/-- a word that the tables alone decide, or a good one -/
def vx_ot (w : Cond) : Bool := w.onTables || goodWord w
theorem vx_ot_at {args a' : Array Value} {s U : State} {w : Cond} (hW : s.WarmedH U.vm) (hvm : s.vm = U.vm) (hg : vx_ot w = true) (h : w.before args s = true) : w.before a' U = true := by
  simp only [vx_ot, Bool.or_eq_true] at hg
  rcases hg with hg | hg
  · exact va_tabs hg hvm h
  · exact word_at hW (good_of_word hg) h
/-- a list's words: the good ones out of the method's own list, the others by premises of their own -/
theorem vx_hat {args : Array Value} {s : State} {L B : List Cond} (h1 : ∀ w ∈ L.filter goodWord, w.before args s = true) (h2 : ∀ w ∈ L.filter (fun w => !goodWord w), w ∈ B) (h3 : ∀ w ∈ B, w.before args s = true) : ∀ w ∈ L, w.before args s = true := by
  intro w hw
  by_cases g : goodWord w = true
  · exact h1 w (List.mem_filter.mpr ⟨hw, g⟩)
  · refine h3 w (h2 w (List.mem_filter.mpr ⟨hw, ?_⟩))
    show (!goodWord w) = true
    cases hgw : goodWord w
    · rfl
    · exact absurd hgw g
theorem vx_c {args : Array Value} {s : State} {w : Cond} {B : List Cond} (h : w.before args s = true) (t : ∀ w ∈ B, w.before args s = true) : ∀ w' ∈ w :: B, w'.before args s = true := fun w' h' => (List.mem_cons.mp h').elim (fun e => by rw [e]; exact h) (t w')
theorem vx_n {args : Array Value} {s : State} : ∀ w ∈ ([] : List Cond), w.before args s = true := fun _ h => nomatch h
theorem vx_own {args : Array Value} {s : State} {L : List Cond} (h1 : ∀ w ∈ L.filter vx_no, w.before args s = true)
    (hU : (Cond.isRef (.static Bundle.tN "UNASSIGNED_STACK" Bundle.steD)).before args s = true) (hN : (Cond.isRef (.static Bundle.tN "SUPPRESSED_SENTINEL" Bundle.listD)).before args s = true)
    (lU : (Cond.laysStatic Bundle.tN "UNASSIGNED_STACK" Bundle.steD).before args s = true) (lN : (Cond.laysStatic Bundle.tN "SUPPRESSED_SENTINEL" Bundle.listD).before args s = true) : ∀ w ∈ L, w.before args s = true := by
  intro w hw
  by_cases e1 : w = .isRef (.static Bundle.tN "UNASSIGNED_STACK" Bundle.steD)
  · rw [e1]; exact hU
  · by_cases e2 : w = .isRef (.static Bundle.tN "SUPPRESSED_SENTINEL" Bundle.listD)
    · rw [e2]; exact hN
    · by_cases e3 : w = .laysStatic Bundle.tN "UNASSIGNED_STACK" Bundle.steD
      · rw [e3]; exact lU
      · by_cases e4 : w = .laysStatic Bundle.tN "SUPPRESSED_SENTINEL" Bundle.listD
        · rw [e4]; exact lN
        · exact h1 w (List.mem_filter.mpr ⟨hw, by unfold vx_no; rw [decide_eq_true e1, decide_eq_true e2, decide_eq_true e3, decide_eq_true e4]; rfl⟩)
/-- where a static field lies, its class's statics cell in H -/
def vx_L (C n d : String) (A : Nat → Prop) (U : State) (H : Heap) : Prop := ∃ (c : ClassId) (k : Class) (i : Nat) (f : Field) (a : Nat) (cell : Cell), U.vm.findClass C = some c ∧ U.fieldFound? C n d = some (c, k, i, f) ∧ f.isStatic = true ∧ k.statics = some a ∧ H[a]? = some cell ∧ cell.vm.isStatics = true ∧ cell.cls = c ∧ f.slot < cell.slots.size ∧ k.staticTypes[f.slot]? = some f.type ∧ ¬ A a
theorem vx_L.moved {C n d : String} {A : Nat → Prop} {u U : State} {H : Heap} (hvm : u.vm.Alike U.vm) (h : vx_L C n d A u H) : vx_L C n d A U H := by
  obtain ⟨c, k, i, f, a, cell, h1, h2, h3, h4, h5, h6, h7, h8, h9, h10⟩ := h
  obtain ⟨k', hi', he⟩ := State.fieldFound?_setVm hvm h2
  exact ⟨c, k', i, f, a, cell, by rw [hvm.findClass]; exact h1, hi', h3, by rw [he]; exact h4, h5, h6, h7, h8, by rw [he]; exact h9, h10⟩
theorem vx_L.kept {C n d : String} {A : Nat → Prop} {U : State} {H H1 : Heap} (h : vx_L C n d A U H) (hq : ∀ a : Nat, a < H.size → ¬ A a → H1[a]? = H[a]?) : vx_L C n d A U H1 := by
  obtain ⟨c, k, i, f, a, cell, h1, h2, h3, h4, h5, h6, h7, h8, h9, h10⟩ := h
  exact ⟨c, k, i, f, a, cell, h1, h2, h3, h4, by rw [hq a (Array.getElem?_eq_some_iff.mp h5).1 h10]; exact h5, h6, h7, h8, h9, h10⟩
theorem vx_L.narrow {C n d : String} {A B : Nat → Prop} {U : State} {H : Heap} (h : vx_L C n d A U H) (hAB : ∀ q, B q → A q) : vx_L C n d B U H := by
  obtain ⟨c, k, i, f, a, cell, h1, h2, h3, h4, h5, h6, h7, h8, h9, h10⟩ := h
  exact ⟨c, k, i, f, a, cell, h1, h2, h3, h4, h5, h6, h7, h8, h9, fun z => h10 (hAB _ z)⟩
theorem vx_L.word {C n d : String} {A : Nat → Prop} {s : State} {args : Array Value} (h : vx_L C n d A s s.heap) : (Cond.laysStatic C n d).before args s = true := by
  obtain ⟨c, k, i, f, a, cell, h1, h2, h3, h4, h5, h6, h7, h8, h9, -⟩ := h
  show (Cond.laysStatic C n d).holds args s none s [] = true
  exact Cond.laysStatic_of h1 h2 h3 h4 h5 h6 h7 h8 h9
/-- .. and what it holds: null or some reference -/
def vx_Zq (C n d : String) (A : Nat → Prop) (U : State) (H : Heap) : Prop := va_Zq C n d A U H ∧ vx_L C n d A U H
theorem vx_Zq.moved {C n d : String} {A : Nat → Prop} {u U : State} {H : Heap} (hvm : u.vm.Alike U.vm) (h : vx_Zq C n d A u H) : vx_Zq C n d A U H := ⟨va_Zq.moved hvm h.1, vx_L.moved hvm h.2⟩
theorem vx_Zq.kept {C n d : String} {A : Nat → Prop} {U : State} {H H1 : Heap} (h : vx_Zq C n d A U H) (hq : ∀ a : Nat, a < H.size → ¬ A a → H1[a]? = H[a]?) : vx_Zq C n d A U H1 := ⟨va_Zq.kept h.1 hq, vx_L.kept h.2 hq⟩
theorem vx_Zq.narrow {C n d : String} {A B : Nat → Prop} {U : State} {H : Heap} (h : vx_Zq C n d A U H) (hAB : ∀ q, B q → A q) : vx_Zq C n d B U H := ⟨va_Zq.narrow h.1 hAB, vx_L.narrow h.2 hAB⟩
theorem vx_Zqof {args : Array Value} {s : State} {C n d : String} {A : Nat → Prop} (hl : (Cond.laysStatic C n d).before args s = true) (hini : (Cond.initialized C).before args s = true) (h : (Cond.isRef (.static C n d)).before args s = true) (hA : ∀ a : Nat, a < s.heap.size → ¬ A a) : vx_Zq C n d A s s.heap := by
  refine ⟨va_Zqof hl hini h hA, ?_⟩
  obtain ⟨c, k, i, f, a, cell, h1, h2, h3, h4, h5, h6, h7, h8, h9⟩ := Cond.laysStatic_spec hl
  exact ⟨c, k, i, f, a, cell, h1, h2, h3, h4, h5, h6, h7, h8, h9, hA a (Array.getElem?_eq_some_iff.mp h5).1⟩
theorem vx_isRef {C n d : String} {v : Value} {A : Nat → Prop} {s : State} {args : Array Value} (h : va_Z C n d v A s s.heap) (hv : v.isRef = true) : (Cond.isRef (.static C n d)).before args s = true := by
  obtain ⟨cf, kf, fi, f, a, cell, h1, h2, h3, h4, h5, h6, h7, -⟩ := h
  have he : (Term.static C n d).eval args s none [] s = some v := by
    simp [Term.eval, State.fieldNamed?, h1, h2, h4, h5, h6, h7]
  simp only [Cond.before, Cond.holds, Cond.value, he]
  cases v <;> simp_all [Value.isRef]
theorem vx_isRefq {C n d : String} {A : Nat → Prop} {s : State} {args : Array Value} (h : va_Zq C n d A s s.heap) : (Cond.isRef (.static C n d)).before args s = true := by
  rcases h with h | ⟨t, h⟩
  · exact vx_isRef h rfl
  · exact vx_isRef h rfl
/-- the same frame, seen from here: as if the method were called anew in this heap -/
theorem vx_rebase {T : State} (X : Stand p l e R s m args below meth c T locs cells slots) {R' : Room} (hf : R'.frames ≤ R.frames) (hl : R'.locals ≤ R.locals) (hc : cells + R'.cells ≤ R.cells) (hs : slots + R'.slots ≤ R.slots) :
    Stand p l e R' ((T.setVm s.vm).setFrames (.invoking m args :: below)) m args below meth c T [] 0 0 := by
  have htop : (T.setVm s.vm).topJava?.isSome := X.here.top
  have hF : ((T.setVm s.vm).setFrames (.invoking m args :: below)).frames = .invoking m args :: below := State.frames_setFrames _ (State.cur_lt_of_top htop)
  obtain ⟨g₀, hg0⟩ := Option.isSome_iff_exists.mp htop
  obtain ⟨r, hr⟩ := State.topJava?_eq_some.mp hg0
  have hl9 : e.platform.stackLimits (T.setVm s.vm).me = e.platform.stackLimits s.me := X.limits
  have hb9 : (T.setVm s.vm).me.stackBytes = s.me.stackBytes := X.bytes
  refine ⟨X.admits, X.cas, X.clock, hF, ?_, X.hears, X.method, X.code, X.here, X.tail, X.warmed, ?_, ?_, ?_⟩
  · have h := X.room
    have hU : ((T.setVm s.vm).setFrames (.invoking m args :: below)).localsInUse = s.localsInUse := by
      rw [State.localsInUse_invoking hF (meth := meth) (c := c) X.method X.code, State.localsInUse_invoking X.frames X.method X.code]
    simp only [State.hasRoom, Bool.and_eq_true, decide_eq_true_eq] at h ⊢
    obtain ⟨⟨⟨⟨h1, h2, h3, h4, h5, h6⟩, h7⟩, h8⟩, h9⟩ := h
    rw [X.frames, List.length_cons] at h2 h3
    have q1 := X.heapSize
    have q2 := X.used
    simp only [hF, hU, List.length_cons, State.stackLimits_setFrames, State.stackBytes_setFrames, hl9, hb9]
    refine ⟨⟨⟨⟨by omega, by omega, by omega, by omega, by omega, h6⟩, ?_⟩, ?_⟩, X.book⟩
    · show T.heap.size + R'.cells ≤ e.platform.maxCells
      omega
    · show T.slotsUsed + R'.slots ≤ e.platform.maxSlots
      omega
  · rw [State.stackLimits_setFrames]; rfl
  · rw [State.stackBytes_setFrames]; rfl
  · refine ⟨?_, Nat.le_refl _, Nat.le_refl _, ?_, ?_, fun a c9 h9 => ⟨c9, h9, rfl, rfl, fun _ _ => rfl⟩⟩
    · obtain ⟨t, ht, -⟩ := State.frames_cons hr
      show T.setVm s.vm = { ((T.setVm s.vm).setFrames (.invoking m args :: below)).setFrames (T.setVm s.vm).frames with heap := T.heap, slotsUsed := T.slotsUsed }
      rw [State.setFrames_setFrames, State.setFrames_self ht]
      rfl
    · show T.slotsUsed = T.slotsUsed + ((T.heap.toList.drop T.heap.size).map (·.slots.size)).sum
      rw [List.drop_eq_nil_of_le (Nat.le_of_eq Array.length_toList)]
      rfl
    · show ((T.heap.toList.drop T.heap.size).map (·.slots.size)).sum ≤ 0
      rw [List.drop_eq_nil_of_le (Nat.le_of_eq Array.length_toList)]
      exact Nat.le_refl _
/-- 'throw new E()': new; dup; invokespecial; athrow -/
theorem vx_throw0 {cc : ByteArray} {pc : Nat} (hexec : p.tables.exec = Jvm.exec) (hb : c.code = cc) (hl : l.stackTraces = false) {own cls : String} {names : List String} {ik ic mc ms : Nat} {A : Nat → Prop}
    (hown : s.vm.findClass own = some m.cls) (hcls : Bundle.fit cls = true) (hnames : ∀ n ∈ names, Bundle.fit n = true)
    (hk : (Cond.classLink own ik cls).before args s = true) (hini : (Cond.initialized cls).before args s = true) (hat : ∀ w ∈ vx_at0 own ic cls names, w.before args s = true)
    (hgood : ∀ w ∈ Cond.classLink own ik cls :: Cond.initialized cls :: vx_at0 own ic cls names, vx_ot w = true)
    (hU : vx_Zq Bundle.tN "UNASSIGNED_STACK" Bundle.steD A s s.heap) (hN : vx_Zq Bundle.tN "SUPPRESSED_SENTINEL" Bundle.listD A s s.heap) (hS : va_S A s.heap H locs) (hsize : ls.size = c.maxLocals)
    (d0 : decode cc pc = .ok (.new ik, 3)) (d3 : decode cc (pc + 3) = .ok (.dup, 1)) (d4 : decode cc (pc + 4) = .ok (.invokespecial ic, 3)) (d7 : decode cc (pc + 7) = .ok (.athrow, 1))
    (hout : ∀ x ∈ c.exceptionTable.toList, covers x (pc + 7) = false)
    (hRframes : names.length + 3 < R.frames) (hRlocals : (rest.map fun v => v.category).sum + (13 * (names.length + 1) + 42) ≤ R.locals) (hRcells : cells + 1 ≤ R.cells) (hRslots : slots + 6 ≤ R.slots) (hlocks : meth.locks = false)
    (hx : ∀ t : State, s.vm.Alike t.vm → H.size ≤ t.heap.size → (∀ q : Nat, q < H.size → t.heap[q]? = H[q]?) → XC cls s t)
    (hf : ∀ z ∈ locs, free z.base) (hc : cells + 1 ≤ mc) (hs : slots + 6 ≤ ms) :
    W p l e R s m args below meth c H locs cells slots (vx_MQ below Qc XC args s mc ms free) (F0 m pc ls rest) := by
  intro T hT X
  have htr : e.platform.stackTraces = false := (show e.platform.stackTraces = l.stackTraces by rw [X.admits.platform]).trans hl
  have Y := vx_rebase X (R' := { frames := R.frames, locals := R.locals, cells := 1, slots := 6 }) (Nat.le_refl _) (Nat.le_refl _) hRcells hRslots
  obtain ⟨s', hA⟩ : ∃ z, z = (T.setVm s.vm).setFrames (.invoking m args :: below) := ⟨_, rfl⟩
  rw [← hA] at Y
  have hvm : s'.vm = s.vm := by rw [hA]; rfl
  have hhp : s'.heap = H := by rw [hA]; exact hT
  have hW0 : s.WarmedH s'.vm := by rw [hvm]; exact State.WarmedH.refl s
  have hat' : ∀ w ∈ vx_at0 own ic cls names, w.before args s' = true := fun w hw => vx_ot_at hW0 hvm.symm (hgood w (List.mem_cons_of_mem _ (List.mem_cons_of_mem _ hw))) (hat w hw)
  have hk' : (Cond.classLink own ik cls).before args s' = true := vx_ot_at hW0 hvm.symm (hgood _ List.mem_cons_self) hk
  have hini' : (Cond.initialized cls).before args s' = true := vx_ot_at hW0 hvm.symm (hgood _ (List.mem_cons_of_mem _ List.mem_cons_self)) hini
  have hU' : vx_Zq Bundle.tN "UNASSIGNED_STACK" Bundle.steD A s' s'.heap := by rw [hhp]; exact vx_Zq.moved hW0.alike (hU.kept hS.2.1)
  have hN' : vx_Zq Bundle.tN "SUPPRESSED_SENTINEL" Bundle.listD A s' s'.heap := by rw [hhp]; exact vx_Zq.moved hW0.alike (hN.kept hS.2.1)
  have h : ∀ w ∈ Bundle.ownAtoms0 own ic cls names, w.before args s' = true := vx_own hat' (vx_isRefq hU'.1) (vx_isRefq hN'.1) hU'.2.word hN'.2.word
  have hown' : s'.vm.findClass own = some m.cls := by rw [hvm]; exact hown
  have hins : (Cond.instantiable cls 6).before args s' = true := h _ (by simp [Bundle.ownAtoms0])
  obtain ⟨vm₁, cX, kX, hfX, hkX, -, -, X₁, st1⟩ := Y.newCold hexec (own := own) (C := cls) (index := ik) (n := 6) hown' hk' hins hini'
    (g := F0 m pc ls rest) rfl (by rw [hb]; exact d0) (Nat.le_refl _) (Nat.le_refl _)
  generalize hT1 : (T.setVm vm₁).pushCell { cls := cX, slots := kX.instanceTypes.map defaultValue, vm := .none } = T1 at X₁ st1
  have hcat : (Value.ref T.heap.size).category = 1 := rfl
  have hcellA : T1.heap[T.heap.size]? = some (freshCell cX kX) := by rw [← hT1]; exact State.heap_pushCell_size _ _
  have d3' : decode c.code (pc + 3) = .ok (.dup, 1) := by rw [hb]; exact d3
  obtain ⟨U, hsteps, hrun, hend, hW, hsame, ce, hce, hO⟩ := X₁.ctorThrow0 hexec htr (own := own) (cls := cls) (names := names) (ic := ic) hown' hcls hnames h (fun x hx => nomatch hx) hfX hkX hcellA (by rw [hhp, hT]; exact Nat.le_refl _)
    (g := { method := m, pc := pc + 4, locals := ls, stack := .ref T.heap.size :: .ref T.heap.size :: rest, locked := none }) rfl hsize rfl rfl (rest := rest) rfl
    (by rw [hb]; exact d4) (by rw [hb]; exact d7) hout hRframes (by simp only [List.map_cons, List.sum_cons, hcat]; omega) hlocks
  obtain ⟨f1, f2⟩ := vx_frame hsame
  rw [hhp] at f1 f2
  have hWs : s.WarmedH U.vm := State.WarmedH.trans hW0 hW
  have hcl : s.vm.findClass cls = some ce.cls := by
    have h9 := hO.cls
    rw [hvm] at h9
    exact h9
  have hall : s.sameButNew ({ U with vm := s.vm } : State) locs mc ms := by
    subst hA
    obtain ⟨e1, e2⟩ := hsame
    rw [State.setFrames_setFrames] at e1
    have h2 : (T.setVm s.vm).sameButNew ({ U with vm := s.vm } : State) [] (0 + 1) (0 + 6) := ⟨e1, e2⟩
    have h3 := X.same.trans h2
    rw [List.append_nil] at h3
    exact h3.mono hc hs
  refine ⟨U, ?_, .threw T.heap.size, hrun, hend, Or.inr ⟨T.heap.size, rfl, cls, ce, locs, hx U hWs.alike f1 (fun q hq => f2 q hq (fun z hz => nomatch hz)), hce, hO.vm, hcl, hWs, hall, hf⟩⟩
  refine st1 _ ?_
  show Steps p.tables e below (T1.setTop { method := m, pc := pc + 3, locals := ls, stack := .ref T.heap.size :: rest, locked := none }) _
  jvm_step X₁.here [X₁.here.top, hexec, d3', Value.category]
  exact hsteps
/-- 'throw new E("text")': new; dup; ldc; invokespecial; athrow -/
theorem vx_throwS {cc : ByteArray} {pc : Nat} (hexec : p.tables.exec = Jvm.exec) (hb : c.code = cc) (hl : l.stackTraces = false) {own cls text : String} {names : List String} {ik is ic mc ms sa : Nat} {A : Nat → Prop}
    (hown : s.vm.findClass own = some m.cls) (hcls : Bundle.fit cls = true) (hnames : ∀ n ∈ names, Bundle.fit n = true)
    (hk : (Cond.classLink own ik cls).before args s = true) (hini : (Cond.initialized cls).before args s = true) (hstr : vk_R own is text sa s) (hat : ∀ w ∈ vx_atS own ic cls names, w.before args s = true)
    (hgood : ∀ w ∈ Cond.classLink own ik cls :: Cond.initialized cls :: vx_atS own ic cls names, vx_ot w = true)
    (hU : vx_Zq Bundle.tN "UNASSIGNED_STACK" Bundle.steD A s s.heap) (hN : vx_Zq Bundle.tN "SUPPRESSED_SENTINEL" Bundle.listD A s s.heap) (hS : va_S A s.heap H locs) (hsize : ls.size = c.maxLocals)
    (d0 : decode cc pc = .ok (.new ik, 3)) (d3 : decode cc (pc + 3) = .ok (.dup, 1)) (d4 : decode cc (pc + 4) = .ok (.ldc is, 2)) (d6 : decode cc (pc + 6) = .ok (.invokespecial ic, 3)) (d9 : decode cc (pc + 9) = .ok (.athrow, 1))
    (hout : ∀ x ∈ c.exceptionTable.toList, covers x (pc + 9) = false)
    (hRframes : names.length + 3 < R.frames) (hRlocals : (rest.map fun v => v.category).sum + (13 * (names.length + 1) + 43) ≤ R.locals) (hRcells : cells + 1 ≤ R.cells) (hRslots : slots + 6 ≤ R.slots) (hlocks : meth.locks = false)
    (hx : ∀ t : State, s.vm.Alike t.vm → H.size ≤ t.heap.size → (∀ q : Nat, q < H.size → t.heap[q]? = H[q]?) → XC cls s t)
    (hf : ∀ z ∈ locs, free z.base) (hc : cells + 1 ≤ mc) (hs : slots + 6 ≤ ms) :
    W p l e R s m args below meth c H locs cells slots (vx_MQ below Qc XC args s mc ms free) (F0 m pc ls rest) := by
  intro T hT X
  have htr : e.platform.stackTraces = false := (show e.platform.stackTraces = l.stackTraces by rw [X.admits.platform]).trans hl
  have Y := vx_rebase X (R' := { frames := R.frames, locals := R.locals, cells := 1, slots := 6 }) (Nat.le_refl _) (Nat.le_refl _) hRcells hRslots
  obtain ⟨s', hA⟩ : ∃ z, z = (T.setVm s.vm).setFrames (.invoking m args :: below) := ⟨_, rfl⟩
  rw [← hA] at Y
  have hvm : s'.vm = s.vm := by rw [hA]; rfl
  have hhp : s'.heap = H := by rw [hA]; exact hT
  have hW0 : s.WarmedH s'.vm := by rw [hvm]; exact State.WarmedH.refl s
  have hat' : ∀ w ∈ vx_atS own ic cls names, w.before args s' = true := fun w hw => vx_ot_at hW0 hvm.symm (hgood w (List.mem_cons_of_mem _ (List.mem_cons_of_mem _ hw))) (hat w hw)
  have hk' : (Cond.classLink own ik cls).before args s' = true := vx_ot_at hW0 hvm.symm (hgood _ List.mem_cons_self) hk
  have hini' : (Cond.initialized cls).before args s' = true := vx_ot_at hW0 hvm.symm (hgood _ (List.mem_cons_of_mem _ List.mem_cons_self)) hini
  have hU' : vx_Zq Bundle.tN "UNASSIGNED_STACK" Bundle.steD A s' s'.heap := by rw [hhp]; exact vx_Zq.moved hW0.alike (hU.kept hS.2.1)
  have hN' : vx_Zq Bundle.tN "SUPPRESSED_SENTINEL" Bundle.listD A s' s'.heap := by rw [hhp]; exact vx_Zq.moved hW0.alike (hN.kept hS.2.1)
  have h : ∀ w ∈ Bundle.ownAtoms own ic cls names, w.before args s' = true := vx_own hat' (vx_isRefq hU'.1) (vx_isRefq hN'.1) hU'.2.word hN'.2.word
  have hown' : s'.vm.findClass own = some m.cls := by rw [hvm]; exact hown
  have hins : (Cond.instantiable cls 6).before args s' = true := h _ (by simp [Bundle.ownAtoms])
  obtain ⟨vm₁, cX, kX, hfX, hkX, -, -, X₁, st1⟩ := Y.newCold hexec (own := own) (C := cls) (index := ik) (n := 6) hown' hk' hins hini'
    (g := F0 m pc ls rest) rfl (by rw [hb]; exact d0) (Nat.le_refl _) (Nat.le_refl _)
  generalize hT1 : (T.setVm vm₁).pushCell { cls := cX, slots := kX.instanceTypes.map defaultValue, vm := .none } = T1 at X₁ st1
  have hcat : (Value.ref T.heap.size).category = 1 := rfl
  have hcellA : T1.heap[T.heap.size]? = some (freshCell cX kX) := by rw [← hT1]; exact State.heap_pushCell_size _ _
  have d3' : decode c.code (pc + 3) = .ok (.dup, 1) := by rw [hb]; exact d3
  have d4' : decode c.code (pc + 4) = .ok (.ldc is, 2) := by rw [hb]; exact d4
  have hstr' : vk_R own is text sa s' := vk_R.warm hW0 hstr
  obtain ⟨U, hsteps, hrun, hend, hW, hsame, ce, hce, hO⟩ := X₁.ctorThrowS hexec htr (own := own) (cls := cls) (names := names) (ic := ic) hown' hcls hnames h (fun x hx => nomatch hx) hfX hkX hcellA (by rw [hhp, hT]; exact Nat.le_refl _) (msg := .ref sa) rfl
    (g := { method := m, pc := pc + 6, locals := ls, stack := .ref sa :: .ref T.heap.size :: .ref T.heap.size :: rest, locked := none }) rfl hsize rfl rfl (rest := rest) rfl
    (by rw [hb]; exact d6) (by rw [hb]; exact d9) hout hRframes (by simp only [List.map_cons, List.sum_cons, hcat]; omega) hlocks
  obtain ⟨f1, f2⟩ := vx_frame hsame
  rw [hhp] at f1 f2
  have hWs : s.WarmedH U.vm := State.WarmedH.trans hW0 hW
  have hcl : s.vm.findClass cls = some ce.cls := by
    have h9 := hO.cls
    rw [hvm] at h9
    exact h9
  have hall : s.sameButNew ({ U with vm := s.vm } : State) locs mc ms := by
    subst hA
    obtain ⟨e1, e2⟩ := hsame
    rw [State.setFrames_setFrames] at e1
    have h2 : (T.setVm s.vm).sameButNew ({ U with vm := s.vm } : State) [] (0 + 1) (0 + 6) := ⟨e1, e2⟩
    have h3 := X.same.trans h2
    rw [List.append_nil] at h3
    exact h3.mono hc hs
  refine ⟨U, ?_, .threw T.heap.size, hrun, hend, Or.inr ⟨T.heap.size, rfl, cls, ce, locs, hx U hWs.alike f1 (fun q hq => f2 q hq (fun z hz => nomatch hz)), hce, hO.vm, hcl, hWs, hall, hf⟩⟩
  refine st1 _ ?_
  show Steps p.tables e below (T1.setTop { method := m, pc := pc + 3, locals := ls, stack := .ref T.heap.size :: rest, locked := none }) _
  jvm_step X₁.here [X₁.here.top, hexec, d3', Value.category]
  exact X₁.ldcString hexec (own := own) (text := text) (index := is) (a := sa) hown' hstr'.1 hstr'.2
    (g := { method := m, pc := pc + 4, locals := ls, stack := .ref T.heap.size :: .ref T.heap.size :: rest, locked := none }) rfl d4' _ hsteps
/-- 'throw new E("text")', the text by a wide index -/
theorem vx_throwSW {cc : ByteArray} {pc : Nat} (hexec : p.tables.exec = Jvm.exec) (hb : c.code = cc) (hl : l.stackTraces = false) {own cls text : String} {names : List String} {ik is ic mc ms sa : Nat} {A : Nat → Prop}
    (hown : s.vm.findClass own = some m.cls) (hcls : Bundle.fit cls = true) (hnames : ∀ n ∈ names, Bundle.fit n = true)
    (hk : (Cond.classLink own ik cls).before args s = true) (hini : (Cond.initialized cls).before args s = true) (hstr : vk_R own is text sa s) (hat : ∀ w ∈ vx_atS own ic cls names, w.before args s = true)
    (hgood : ∀ w ∈ Cond.classLink own ik cls :: Cond.initialized cls :: vx_atS own ic cls names, vx_ot w = true)
    (hU : vx_Zq Bundle.tN "UNASSIGNED_STACK" Bundle.steD A s s.heap) (hN : vx_Zq Bundle.tN "SUPPRESSED_SENTINEL" Bundle.listD A s s.heap) (hS : va_S A s.heap H locs) (hsize : ls.size = c.maxLocals)
    (d0 : decode cc pc = .ok (.new ik, 3)) (d3 : decode cc (pc + 3) = .ok (.dup, 1)) (d4 : decode cc (pc + 4) = .ok (.ldc_w is, 3)) (d7 : decode cc (pc + 7) = .ok (.invokespecial ic, 3)) (d10 : decode cc (pc + 10) = .ok (.athrow, 1))
    (hout : ∀ x ∈ c.exceptionTable.toList, covers x (pc + 10) = false)
    (hRframes : names.length + 3 < R.frames) (hRlocals : (rest.map fun v => v.category).sum + (13 * (names.length + 1) + 43) ≤ R.locals) (hRcells : cells + 1 ≤ R.cells) (hRslots : slots + 6 ≤ R.slots) (hlocks : meth.locks = false)
    (hx : ∀ t : State, s.vm.Alike t.vm → H.size ≤ t.heap.size → (∀ q : Nat, q < H.size → t.heap[q]? = H[q]?) → XC cls s t)
    (hf : ∀ z ∈ locs, free z.base) (hc : cells + 1 ≤ mc) (hs : slots + 6 ≤ ms) :
    W p l e R s m args below meth c H locs cells slots (vx_MQ below Qc XC args s mc ms free) (F0 m pc ls rest) := by
  intro T hT X
  have htr : e.platform.stackTraces = false := (show e.platform.stackTraces = l.stackTraces by rw [X.admits.platform]).trans hl
  have Y := vx_rebase X (R' := { frames := R.frames, locals := R.locals, cells := 1, slots := 6 }) (Nat.le_refl _) (Nat.le_refl _) hRcells hRslots
  obtain ⟨s', hA⟩ : ∃ z, z = (T.setVm s.vm).setFrames (.invoking m args :: below) := ⟨_, rfl⟩
  rw [← hA] at Y
  have hvm : s'.vm = s.vm := by rw [hA]; rfl
  have hhp : s'.heap = H := by rw [hA]; exact hT
  have hW0 : s.WarmedH s'.vm := by rw [hvm]; exact State.WarmedH.refl s
  have hat' : ∀ w ∈ vx_atS own ic cls names, w.before args s' = true := fun w hw => vx_ot_at hW0 hvm.symm (hgood w (List.mem_cons_of_mem _ (List.mem_cons_of_mem _ hw))) (hat w hw)
  have hk' : (Cond.classLink own ik cls).before args s' = true := vx_ot_at hW0 hvm.symm (hgood _ List.mem_cons_self) hk
  have hini' : (Cond.initialized cls).before args s' = true := vx_ot_at hW0 hvm.symm (hgood _ (List.mem_cons_of_mem _ List.mem_cons_self)) hini
  have hU' : vx_Zq Bundle.tN "UNASSIGNED_STACK" Bundle.steD A s' s'.heap := by rw [hhp]; exact vx_Zq.moved hW0.alike (hU.kept hS.2.1)
  have hN' : vx_Zq Bundle.tN "SUPPRESSED_SENTINEL" Bundle.listD A s' s'.heap := by rw [hhp]; exact vx_Zq.moved hW0.alike (hN.kept hS.2.1)
  have h : ∀ w ∈ Bundle.ownAtoms own ic cls names, w.before args s' = true := vx_own hat' (vx_isRefq hU'.1) (vx_isRefq hN'.1) hU'.2.word hN'.2.word
  have hown' : s'.vm.findClass own = some m.cls := by rw [hvm]; exact hown
  have hins : (Cond.instantiable cls 6).before args s' = true := h _ (by simp [Bundle.ownAtoms])
  obtain ⟨vm₁, cX, kX, hfX, hkX, -, -, X₁, st1⟩ := Y.newCold hexec (own := own) (C := cls) (index := ik) (n := 6) hown' hk' hins hini'
    (g := F0 m pc ls rest) rfl (by rw [hb]; exact d0) (Nat.le_refl _) (Nat.le_refl _)
  generalize hT1 : (T.setVm vm₁).pushCell { cls := cX, slots := kX.instanceTypes.map defaultValue, vm := .none } = T1 at X₁ st1
  have hcat : (Value.ref T.heap.size).category = 1 := rfl
  have hcellA : T1.heap[T.heap.size]? = some (freshCell cX kX) := by rw [← hT1]; exact State.heap_pushCell_size _ _
  have d3' : decode c.code (pc + 3) = .ok (.dup, 1) := by rw [hb]; exact d3
  have d4' : decode c.code (pc + 4) = .ok (.ldc_w is, 3) := by rw [hb]; exact d4
  have hstr' : vk_R own is text sa s' := vk_R.warm hW0 hstr
  obtain ⟨U, hsteps, hrun, hend, hW, hsame, ce, hce, hO⟩ := X₁.ctorThrowS hexec htr (own := own) (cls := cls) (names := names) (ic := ic) hown' hcls hnames h (fun x hx => nomatch hx) hfX hkX hcellA (by rw [hhp, hT]; exact Nat.le_refl _) (msg := .ref sa) rfl
    (g := { method := m, pc := pc + 7, locals := ls, stack := .ref sa :: .ref T.heap.size :: .ref T.heap.size :: rest, locked := none }) rfl hsize rfl rfl (rest := rest) rfl
    (by rw [hb]; exact d7) (by rw [hb]; exact d10) hout hRframes (by simp only [List.map_cons, List.sum_cons, hcat]; omega) hlocks
  obtain ⟨f1, f2⟩ := vx_frame hsame
  rw [hhp] at f1 f2
  have hWs : s.WarmedH U.vm := State.WarmedH.trans hW0 hW
  have hcl : s.vm.findClass cls = some ce.cls := by
    have h9 := hO.cls
    rw [hvm] at h9
    exact h9
  have hall : s.sameButNew ({ U with vm := s.vm } : State) locs mc ms := by
    subst hA
    obtain ⟨e1, e2⟩ := hsame
    rw [State.setFrames_setFrames] at e1
    have h2 : (T.setVm s.vm).sameButNew ({ U with vm := s.vm } : State) [] (0 + 1) (0 + 6) := ⟨e1, e2⟩
    have h3 := X.same.trans h2
    rw [List.append_nil] at h3
    exact h3.mono hc hs
  refine ⟨U, ?_, .threw T.heap.size, hrun, hend, Or.inr ⟨T.heap.size, rfl, cls, ce, locs, hx U hWs.alike f1 (fun q hq => f2 q hq (fun z hz => nomatch hz)), hce, hO.vm, hcl, hWs, hall, hf⟩⟩
  refine st1 _ ?_
  show Steps p.tables e below (T1.setTop { method := m, pc := pc + 3, locals := ls, stack := .ref T.heap.size :: rest, locked := none }) _
  jvm_step X₁.here [X₁.here.top, hexec, d3', Value.category]
  exact X₁.ldcStringW hexec (own := own) (text := text) (index := is) (a := sa) hown' hstr'.1 hstr'.2
    (g := { method := m, pc := pc + 4, locals := ls, stack := .ref T.heap.size :: .ref T.heap.size :: rest, locked := none }) rfl d4' _ hsteps
end Ends
section Bodies
variable {l : Launch}
theorem vx_ofW {y : MethodName} {ws ws' : List Cond} {rm : Room} {Pc : Array Value → State → Prop} {Qc : Array Value → State → Outcome → State → Prop} {XC : String → State → State → Prop} {mc ms : Nat} {free : Addr → Prop} {cc : ByteArray} {maxL : Nat} {ret : Option FieldType}
    (hy : plainName y.cls = true) (hw : ws = Cond.code y cc maxL ret :: ws')
    (body : ∀ p e s m args below meth c s₁, BodyLoose p l y (headSpec ws rm) cc maxL ret e s m args below meth c s₁ → c.maxLocals = maxL → (∀ x ∈ c.exceptionTable.toList, False) → Pc args s →
      W p l e (headSpec ws rm).room s m args below meth c s.heap [] 0 0 (vx_MQ below Qc XC args s mc ms free) (entryFrame m args maxL)) : vx_Met l y ws rm Pc Qc XC mc ms free := by
  refine MetFree.of_bodyS (code := cc) (maxLocals := maxL) (ret := ret) hy ?_ ?_
  · intro args s m h hn
    obtain ⟨meth, c, h1, h2, h3, h4, h5, h6, -, -⟩ := Cond.code_spec hn (atoms_spec (ws := ws) h _ (by rw [hw]; exact List.mem_cons_self))
    exact ⟨meth, c, h1, h2, h3, h4, h5, h6⟩
  · intro p e s m args below meth c s₁ B hml hP _
    have hh0 : s₁.heap = s.heap := by rw [B.state]; rfl
    have ht : ∀ x ∈ c.exceptionTable.toList, False := by
      obtain ⟨meth9, c9, h1, h2, -, -, -, -, h7, -⟩ := Cond.code_spec B.named (atoms_spec (ws := ws) B.pre _ (by rw [hw]; exact List.mem_cons_self))
      cases Option.some.inj (h1.symm.trans B.method)
      cases Option.some.inj (h2.symm.trans (Stand.of_body B).code)
      intro x hx
      rw [Array.isEmpty_iff.mp h7] at hx
      cases hx
    obtain ⟨t, a1, o, b1, b2, b3⟩ := body p e s m args below meth c s₁ B hml ht hP s₁ hh0 (Stand.of_body B)
    exact ⟨t, o, a1, b1, b2, b3⟩
/-- the table of a body with handlers -/
theorem vx_table {p : Program} {x y : MethodName} {S : Spec} {cc bytes : ByteArray} {maxL maxL' : Nat} {ret ret' : Option FieldType} {e : Env} {s s₁ : State} {m : MethodId} {args : Array Value} {below : List Frame} {meth : Method} {c : Code} {hh : List (Nat × Nat × Nat × Nat)}
    (B : BodyLoose p l y S cc maxL ret e s m args below meth c s₁) (h : (Cond.codeWith y bytes maxL' ret' hh).before args s = true) : c.exceptionTable.toList = tableOf hh := by
  obtain ⟨m9, meth9, c9, hn9, h1, h2, -, -, h6, -⟩ := Cond.codeWith_spec h
  cases Option.some.inj (hn9.symm.trans B.named)
  cases Option.some.inj (h1.symm.trans B.method)
  cases Option.some.inj (h2.symm.trans (Stand.of_body B).code)
  rw [← h6, table_eq]
end Bodies
end VXA
/-! ===== END ===== -/
/-! ===== BEGIN a static call of a method with an exception table ===== -/
section VXS
variable {p : Program} {l : Launch} {e : Env} {R : Room} {s : State} {m : MethodId} {args : Array Value} {below : List Frame} {meth : Method} {c : Code} {T : State} {H : Heap} {locs : List Loc} {cells slots : Nat}
abbrev vx_CSW (R : Room) (s : State) (args : Array Value) (own : String) (index : Nat) (y : MethodName) (bytes : ByteArray) (maxL : Nat) (ret : Option FieldType) (hh : List (Nat × Nat × Nat × Nat)) (ws : List Cond) (rm : Room) (mc ms n : Nat) : Prop :=
  (rm.cells = mc ∧ rm.slots = ms ∧ rm.frames + 1 ≤ R.frames ∧ 8 + (maxL + 11) + rm.locals ≤ R.locals ∧ (∀ w ∈ ws, ∀ (a' : Array Value) (U : State), s.WarmedH U.vm → w.before a' U = true) ∧ Cond.codeWith y bytes maxL ret hh ∈ ws) ∧
  (Cond.codeWith y bytes maxL ret hh).before args s = true ∧ (Cond.initialized y.cls).before args s = true ∧ (y.cls ≠ "java/lang/invoke/MethodHandle" ∧ y.cls ≠ "java/lang/invoke/VarHandle") ∧
  (∀ sig, parseMethodDescriptor y.desc = some sig → n = sig.parameters.length) ∧ (Cond.methodLink own index y).before args s = true ∧ (Cond.static y).before args s = true
theorem vx_cwSW {own : String} {index maxL mc ms : Nat} {y : MethodName} {bytes : ByteArray} {ret : Option FieldType} {hh : List (Nat × Nat × Nat × Nat)} {Ts ws ws' : List Cond} {rm : Room} (n : Nat) (ht : ∀ w ∈ Ts, w.before args s = true) (hT : GoodIn Ts (va_wsS own index y ws)) (hw : ws = Cond.codeWith y bytes maxL ret hh :: ws') (hrc : rm.cells = mc) (hrs : rm.slots = ms)
    (hd : y.cls ≠ "java/lang/invoke/MethodHandle" ∧ y.cls ≠ "java/lang/invoke/VarHandle" ∧ (parseMethodDescriptor y.desc).map (fun d => d.parameters.length) = some n) (hR : rm.frames + 1 ≤ R.frames ∧ 8 + (maxL + 11) + rm.locals ≤ R.locals) :
    vx_CSW R s args own index y bytes maxL ret hh ws rm mc ms n := by
  have ok : ∀ w ∈ va_wsS own index y ws, w.before args s = true := fun w h => ht w (hT w h).1
  have hG : GoodIn Ts ws := fun w h => hT w (by unfold va_wsS; exact List.mem_append_right _ h)
  have hc : Cond.codeWith y bytes maxL ret hh ∈ ws := by rw [hw]; exact List.mem_cons_self
  refine ⟨⟨hrc, hrs, hR.1, hR.2, pay_in ht hG, hc⟩, ht _ (hG _ hc).1, ok _ (by simp [va_wsS]), ⟨hd.1, hd.2.1⟩, fun sig h => ?_, ok _ (by simp [va_wsS]), ok _ (by simp [va_wsS])⟩
  have h2 := hd.2.2
  rw [h] at h2
  exact (Option.some.inj h2).symm
theorem vx_callSW (X : Stand p l e R s m args below meth c T locs cells slots) (hexec : p.tables.exec = Jvm.exec) {own : String} {index : Nat} {y : MethodName} {bytes : ByteArray} {maxL : Nat} {ret : Option FieldType} {hh : List (Nat × Nat × Nat × Nat)}
    (hown : s.vm.findClass own = some m.cls) (hlink : (Cond.methodLink own index y).before args s = true) (hstat : (Cond.static y).before args s = true) (hinit : (Cond.initialized y.cls).before args s = true)
    (hcode : (Cond.codeWith y bytes maxL ret hh).before args s = true) (hy : y.cls ≠ "java/lang/invoke/MethodHandle" ∧ y.cls ≠ "java/lang/invoke/VarHandle")
    {W9 : Nat} {Pre : Pt → Array Value → Prop} {Post : Pt → Array Value → Option Value → Pt → Prop} (hK : Back l R p e below s args y 3 W9 Pre Post)
    {g : JFrame} (hg : g.method = m) (hsize : g.locals.size = c.maxLocals) {argsL rest : List Value} (hlen : ∀ sig, parseMethodDescriptor y.desc = some sig → argsL.length = sig.parameters.length)
    (hstack : g.stack = argsL.reverse ++ rest) (hW : 2 * g.monitorRoom + (rest.map fun v => v.category).sum ≤ W9) (hdg : decode c.code g.pc = .ok (.invokestatic index, 3))
    (hpre : ∀ vm₁, s.WarmedH vm₁ → Pre ⟨T.setVm vm₁, locs, cells, slots⟩ argsL.toArray) :
    ∃ (v : Option Value) (vm₁ : Vm) (B : Pt), s.WarmedH vm₁ ∧ Stand p l e R s m args below meth c B.U B.locs B.cells B.slots ∧ Post ⟨T.setVm vm₁, locs, cells, slots⟩ argsL.toArray v B ∧
      ∀ target, Steps p.tables e below (B.U.setTop { g with pc := g.pc + 3, stack := v.toList ++ rest }) target → Steps p.tables e below (T.setTop g) target := by
  obtain ⟨mk, methM, cM, hnamed, hmethM, -, -, -, -, -, -, hsigM⟩ := Cond.codeWith_spec hcode
  have hstatic : methM.isStatic = true := Cond.static_spec hnamed hmethM hstat
  obtain ⟨kP, hkP, -⟩ := className_of_methodNamed hnamed
  have hinitP : kP.init = .initialized := Cond.initialized_spec (findClass_of_methodNamed hnamed) hkP hinit
  obtain ⟨vm₁, X₁, hstep₁⟩ := X.invokestatic hexec hown hlink hnamed hmethM hstatic hkP hinitP hy (g := g) hg (argsL := argsL) (rest := rest) (hlen _ hsigM) hstack hdg
  obtain ⟨v, B, X', hpost, hsteps⟩ := hK m meth c ⟨T.setVm vm₁, locs, cells, slots⟩ { g with stack := rest } (.invokestatic index) mk argsL.toArray X₁ hg hsize hdg hW (X₁.named hnamed) (hpre vm₁ X₁.warmed)
  exact ⟨v, vm₁, B, X₁.warmed, X', hpost, fun target h => hstep₁ _ fun acts => by rw [doInvoke_state]; exact hsteps.trans h⟩
theorem vx_runSW {y : MethodName} {bytes cc : ByteArray} {maxL nL mc ms n index : Nat} {ret : Option FieldType} {hh : List (Nat × Nat × Nat × Nat)} {ws : List Cond} {rm : Room} {Pc : Array Value → State → Prop} {Qc : Array Value → State → Outcome → State → Prop} {free : Addr → Prop} {Ts : List Cond} {own : String} {As rest : List Value} {g : JFrame}
    (S : CallFix p m c cc nL s args Ts own) (hM : Met l y ws rm Pc Qc mc ms free) (cw : vx_CSW R s args own index y bytes maxL ret hh ws rm mc ms n) (hp : PreS s H Pc As)
    (hg : g.method = m) (hn : As.length = n) (hsize : g.locals.size = nL) (hstack : g.stack = As.reverse ++ rest) (hW : 2 * g.monitorRoom + (rest.map fun v => v.category).sum ≤ 8) (hdg : decode cc g.pc = .ok (.invokestatic index, 3)) (hf : cells + mc ≤ R.cells ∧ slots + ms ≤ R.slots) :
    va_Run p l e R s m args below meth c H locs cells slots mc ms g rest (Qc As.toArray) (free) := by
  obtain ⟨⟨hrc, hrs, hfr, hlo, hws, hcw⟩, hcode, hini, hy, hlen, hl, hstt⟩ := cw
  have hK : Back l R p e below s args y 3 8 (PreOf R mc ms Pc) (PostOf Qc mc ms free) := va_backW (hh := hh) (bytes := bytes) (maxL := maxL) (ret := ret) hM hp.1 hrc hrs hfr hlo hws hcw (fun a' U hW => word_at hW (Or.inl (by first | rfl | simp [Cond.onTables, Cond.keeps, Cond.steady])) hini)
  obtain ⟨hx, hb, hml, ho, -⟩ := S
  intro T hT X
  obtain ⟨v, vm₁, ⟨U', l2, c2, s2⟩, hW₁, X', ⟨g', mk, t, L, e1, e2, hq, h1, hL, h2, h3⟩, st⟩ := vx_callSW X hx (hh := hh) (bytes := bytes) (maxL := maxL) (ret := ret) ho hl hstt hini hcode hy hK hg (hsize.trans hml.symm) (argsL := As) (rest := rest) (fun sig h => hn.trans (hlen sig h)) hstack hW (by rw [hb]; exact hdg)
    (fun vm₁ hW₁ => ⟨hf.1, hf.2, hp.2 (T.setVm vm₁) hT hW₁⟩)
  dsimp only [Pt.U, Pt.locs, Pt.cells, Pt.slots] at X' e1 e2 h1 h2 h3 st
  subst h1; subst h2; subst h3
  exact ⟨v, (T.setVm vm₁).calling g' mk As.toArray, t, U', L, hT, X', hL, e1, e2, hq, st⟩
/-- not caught here, past rows that name other classes: it goes on to the caller -/
theorem vx_outP {p : Program} {l : Launch} {e : Env} {R : Room} {s : State} {m : MethodId} {args : Array Value} {below : List Frame} {meth : Method} {c : Code} {H : Heap} {locs : List Loc} {cells slots : Nat} {free : Addr → Prop} {ls : Array Slot} {rest : List Value} {Qc : Array Value → State → Outcome → State → Prop} {XC : String → State → State → Prop}
    {pc : Nat} {own E : String} {ce : Cell} {q : Addr} {mc ms : Nat} (hown : s.vm.findClass own = some m.cls) (hlocks : meth.locks = false)
    (hpass : ∀ z ∈ c.exceptionTable.toList, covers z pc = false ∨ (z.catchType ≠ 0 ∧ ∃ nm : String, (Cond.classLink own z.catchType nm).before args s = true ∧ va_Nc E nm s)) (hcell : H[q]? = some ce) (hv : ce.vm = .none) (hcl : s.vm.findClass E = some ce.cls)
    (hx : ∀ t : State, t.heap = H → s.vm.Alike t.vm → XC E s t) (hf : ∀ z ∈ locs, free z.base) (hc : cells ≤ mc) (hs : slots ≤ ms) :
    vx_W p l e R s m args below meth c H locs cells slots (vx_MQ below Qc XC args s mc ms free) (F0 m pc ls rest) q := by
  intro T hT X
  have hpl : e.platform.magicAccessors = ({} : Platform).magicAccessors := by rw [X.admits.platform]
  obtain ⟨vm', hW', X', st⟩ := X.outThrough hlocks q (g := F0 m pc ls rest) rfl rfl rfl (cell := ce) (by rw [hT]; exact hcell) (by rw [hv]; rfl)
    (by obtain ⟨k9, h9, -⟩ := Vm.findClass_spec hcl; exact ⟨k9, h9⟩) (fun z hz => by
      rcases hpass z hz with h | ⟨hz0, nm, hl1, hn1⟩
      · exact Or.inl h
      · obtain ⟨c6, hc6, hcl6⟩ := Cond.classLink_spec hown hl1 e.platform hpl
        obtain ⟨a8, b8, h1, h2, h3⟩ := hn1
        cases Option.some.inj (h1.symm.trans hcl)
        cases Option.some.inj (h2.symm.trans hc6)
        exact Or.inr ⟨hz0, _, hcl6, h3⟩)
  obtain ⟨g₀, hfr⟩ := X'.frames_eq
  have hcell9 : ((T.setVm vm').setFrames (.throwing q :: below)).heap[q]? = some ce := by
    show T.heap[q]? = some ce
    rw [hT]; exact hcell
  have hend : Ended ((T.setVm vm').setFrames (.throwing q :: below)) below (.threw q) := State.frames_setFrames _ (State.cur_lt_of_frames hfr)
  refine ⟨(T.setVm vm').setFrames (.throwing q :: below), ?_, .threw q, X'.here.running, hend, Or.inr ⟨q, rfl, E, ce, locs, hx _ hT (X'.ends _).1.alike, hcell9, hv, hcl, (X'.ends _).1, (X'.ends _).2.mono hc hs, hf⟩⟩
  rw [X.pushThrowing_eq]
  exact st
/-- a thing of a world lies in the heap -/
theorem vx_lt {D : va_G} {cl : List vw_C} {ws : va_W} {H1 : Heap} (h : va_P D cl ws H1) {k : Nat} {q : Nat × va_E} (hk : ws[k]? = some q) : q.1 < H1.size := (h k q hk).lt
end VXS
/-! ===== END ===== -/
/-! ===== BEGIN methods with a table of their own: called by a name, returning or throwing ===== -/
section VXH
/-! vx_backW, vx_callVX, vx_callSX, vx_callVW, vx_runVW, vx_runVX, vx_runSX, vx_ofWH follow the same proofs as their sisters above (Free/Laws.lean, Shelf42/LK1.lean); vx_outP calls Shelf42/NT130.lean (outThrough). -/
section
variable {l : Launch} {R : Room} {p : Program} {e : Env} {below : List Frame} {s : State} {sargs : Array Value} {y : MethodName} {len W9 : Nat}
theorem vx_backW {ws : List Cond} {rm : Room} {Pc : Array Value → State → Prop} {Qc : Array Value → State → Outcome → State → Prop} {XC : String → State → State → Prop} {mc ms : Nat} {free : Addr → Prop} {bytes : ByteArray} {maxL : Nat} {ret : Option FieldType} {hh : List (Nat × Nat × Nat × Nat)}
    (hM : vx_Met l y ws rm Pc Qc XC mc ms free) (hblind : FrameBlind Pc) (hrc : rm.cells = mc) (hrs : rm.slots = ms)
    (hframes : rm.frames + 1 ≤ R.frames) (hlocals : W9 + (maxL + 11) + rm.locals ≤ R.locals)
    (hws : ∀ w ∈ ws, ∀ a' U, s.WarmedH U.vm → w.before a' U = true) (hcode : Cond.codeWith y bytes maxL ret hh ∈ ws) (hinit : ∀ a' U, s.WarmedH U.vm → (Cond.initialized y.cls).before a' U = true) :
    vx_Back l R p e below s sargs y len W9 (PreOf R mc ms Pc) (PostOf Qc mc ms free) (vx_Post XC mc ms free) := by
  intro m meth c A g ig mk a X hg hsize hdg hW hn hp
  have h1 : (headSpec ws rm).pre.before a A.U = true := atoms_intro fun w hw => hws w hw _ _ X.warmed
  have h2 : (Cond.codeWith y bytes maxL ret hh).before a A.U = true := hws _ hcode _ _ X.warmed
  have h3 : (Cond.initialized y.cls).before a A.U = true := hinit _ _ X.warmed
  have h4 : A.cells + (headSpec ws rm).room.cells ≤ R.cells := by rw [show (headSpec ws rm).room.cells = mc from hrc]; exact hp.1
  have h5 : A.slots + (headSpec ws rm).room.slots ≤ R.slots := by rw [show (headSpec ws rm).room.slots = ms from hrs]; exact hp.2.1
  have hPc : Pc a (A.U.calling g mk a) := hblind _ _ _ _ hp.2.2
  obtain ⟨U, Ls, c0, s0⟩ := A
  dsimp only [Pt.U, Pt.locs, Pt.cells, Pt.slots] at h1 h2 h3 h4 h5 X hn hPc ⊢
  obtain ⟨m9, methY, cY, hn9, hmY, hcY, -, hlY, -⟩ := Cond.codeWith_spec h2
  cases Option.some.inj (hn9.symm.trans hn)
  obtain ⟨kY, hkY, -⟩ := className_of_methodNamed hn
  have hinitY : kY.init = .initialized := Cond.initialized_spec (findClass_of_methodNamed hn) hkY h3
  have h : At U g.method c below := by rw [hg]; exact X.here
  have hlocals9 : W9 + (maxL + 11) + (headSpec ws rm).room.locals ≤ R.locals := hlocals
  have happ : (headSpec ws rm).appliesLoose y e.platform (U.calling g mk a) = true :=
    Spec.appliesLoose_calling (g := g) h hdg hn hkY hinitY
      (X.room_calling (g := g) (R' := (headSpec ws rm).room) hsize hmY hcY hframes (by rw [hlY]; omega) h4 h5) h1
  obtain ⟨mid, hmid⟩ := h.above
  have hfr : (U.setTop g).frames = (.java g :: mid) ++ below := by rw [State.frames_setTop' g h.top, hmid]; rfl
  obtain ⟨o, s₂, hsteps, -, hend, hq⟩ := Steps.callFree hM p X.admits X.cas X.clock (acts := []) hfr happ hPc trivial
  have hq' : vx_Q Qc XC mc ms free a (U.calling g mk a) o s₂ := hq
  rw [State.frames_setTop' g h.top] at hend
  obtain ⟨g₀, hg0⟩ := Option.isSome_iff_exists.mp h.top
  obtain ⟨r, hr⟩ := State.topJava?_eq_some.mp hg0
  have hr' : (({ U with heap := s₂.heap, slotsUsed := s₂.slotsUsed } : State).setVm s₂.vm).frames = .java g₀ :: r := hr
  rcases hq' with ⟨hqc, L, hfe, hL⟩ | ⟨q, rfl, E, ce, L, hx, hce, hcv, hcl, hW₂, hsm, hL⟩
  · obtain ⟨⟨v, rfl⟩, hW₂, e2, q2, q3, q4, q5, q6⟩ := id hfe
    have e3 : s₂ = ({ (U.calling g mk a).setFrames s₂.frames with heap := s₂.heap, slotsUsed := s₂.slotsUsed } : State).setVm s₂.vm := by
      have : s₂ = ({ s₂ with vm := (U.calling g mk a).vm } : State).setVm s₂.vm := rfl
      rw [e2] at this
      exact this
    obtain ⟨c₂, i₂, len₂, hc₂, hd₂, hf₂⟩ := hend
    have hW' : U.WarmedH s₂.vm := hW₂
    have hcc : c₂ = c := by
      have h1 : s₂.code? g.method = U.code? g.method := by
        rw [State.code?_eq, State.code?_eq, hW'.alike.method?]
      exact Option.some.inj (hc₂.symm.trans (h1.trans h.code))
    subst hcc
    have hlen : len₂ = len := by rw [hdg] at hd₂; cases hd₂; rfl
    subst hlen
    have hs₂ : s₂ = (({ U with heap := s₂.heap, slotsUsed := s₂.slotsUsed } : State).setVm s₂.vm).setTop { g with pc := g.pc + len₂, stack := v.toList ++ g.stack } := by
      refine e3.trans ?_
      rw [hf₂, State.calling_eq h.top, State.setFrames_setFrames, State.setTop_of_frames _ hr', hr]
      rfl
    have hsame : U.sameButNew ({ U with heap := s₂.heap, slotsUsed := s₂.slotsUsed } : State) L mc ms := by
      refine ⟨?_, q2, q3, q4, q5, q6⟩
      obtain ⟨t, ht, -⟩ := State.frames_cons hr
      show ({ U with heap := s₂.heap, slotsUsed := s₂.slotsUsed } : State) = { U.setFrames U.frames with heap := s₂.heap, slotsUsed := s₂.slotsUsed }
      rw [State.setFrames_self ht]
    subst hg
    refine Or.inl ⟨v, ⟨(({ U with heap := s₂.heap, slotsUsed := s₂.slotsUsed } : State).setVm s₂.vm), Ls ++ L, c0 + mc, s0 + ms⟩,
      ⟨X.admits, X.cas, X.clock, X.frames, X.room, X.hears, X.method, X.code, (X.here.setHeapUsed s₂.heap s₂.slotsUsed).setVm hW'.alike, X.tail, State.WarmedH.trans X.warmed hW', X.limits, X.bytes, X.same.trans (hsame.setVm s.vm)⟩,
      ⟨g, mk, s₂, L, rfl, rfl, hqc, rfl, hL, rfl, rfl⟩, ?_⟩
    show Steps p.tables e below _ ((({ U with heap := s₂.heap, slotsUsed := s₂.slotsUsed } : State).setVm s₂.vm).setTop { g with pc := g.pc + len₂, stack := v.toList ++ g.stack })
    rw [← hs₂]
    exact hsteps
  · obtain ⟨e2, q2, q3, q4, q5, q6⟩ := id hsm
    have e3 : s₂ = ({ (U.calling g mk a).setFrames s₂.frames with heap := s₂.heap, slotsUsed := s₂.slotsUsed } : State).setVm s₂.vm := by
      have : s₂ = ({ s₂ with vm := (U.calling g mk a).vm } : State).setVm s₂.vm := rfl
      rw [e2] at this
      exact this
    have hf₂ : s₂.frames = .throwing q :: .java g :: U.frames.tail := hend
    have hW' : U.WarmedH s₂.vm := hW₂
    have hs₂ : s₂ = ((({ U with heap := s₂.heap, slotsUsed := s₂.slotsUsed } : State).setVm s₂.vm).setTop g).pushFrame (.throwing q) := by
      refine e3.trans ?_
      rw [hf₂, State.calling_eq h.top, State.setFrames_setFrames, State.pushFrame, State.frames_setTop _ hr', State.setTop_of_frames _ hr', State.setFrames_setFrames, hr]
      rfl
    have hsame : U.sameButNew ({ U with heap := s₂.heap, slotsUsed := s₂.slotsUsed } : State) L mc ms := by
      refine ⟨?_, q2, q3, q4, q5, q6⟩
      obtain ⟨t, ht, -⟩ := State.frames_cons hr
      show ({ U with heap := s₂.heap, slotsUsed := s₂.slotsUsed } : State) = { U.setFrames U.frames with heap := s₂.heap, slotsUsed := s₂.slotsUsed }
      rw [State.setFrames_self ht]
    subst hg
    refine Or.inr ⟨q, ⟨(({ U with heap := s₂.heap, slotsUsed := s₂.slotsUsed } : State).setVm s₂.vm), Ls ++ L, c0 + mc, s0 + ms⟩,
      ⟨X.admits, X.cas, X.clock, X.frames, X.room, X.hears, X.method, X.code, (X.here.setHeapUsed s₂.heap s₂.slotsUsed).setVm hW'.alike, X.tail, State.WarmedH.trans X.warmed hW', X.limits, X.bytes, X.same.trans (hsame.setVm s.vm)⟩,
      ⟨g, mk, s₂, L, E, ce, rfl, rfl, hx, hce, hcv, hcl, rfl, hL, rfl, rfl⟩, ?_⟩
    show Steps p.tables e below _ (((({ U with heap := s₂.heap, slotsUsed := s₂.slotsUsed } : State).setVm s₂.vm).setTop g).pushFrame (.throwing q))
    rw [← hs₂]
    exact hsteps
end
variable {p : Program} {l : Launch} {e : Env} {R : Room} {s : State} {m : MethodId} {args : Array Value} {below : List Frame} {meth : Method} {c : Code} {T : State} {H : Heap} {locs : List Loc} {cells slots : Nat}
theorem vx_callVX (X : Stand p l e R s m args below meth c T locs cells slots) (hexec : p.tables.exec = Jvm.exec) {own C : String} {index : Nat} {y : MethodName} {bytes : ByteArray} {maxL : Nat} {ret : Option FieldType} {hh : List (Nat × Nat × Nat × Nat)}
    (hown : s.vm.findClass own = some m.cls) (hlink : (Cond.methodLink own index y).before args s = true) (hinst : (Cond.instanceMethod y).before args s = true) (hsel : (Cond.selects C y y).before args s = true)
    (hcode : (Cond.codeWith y bytes maxL ret hh).before args s = true) (hy : y.cls ≠ "java/lang/invoke/MethodHandle" ∧ y.cls ≠ "java/lang/invoke/VarHandle")
    {W9 : Nat} {Pre : Pt → Array Value → Prop} {Post : Pt → Array Value → Option Value → Pt → Prop} {PostX : Pt → Array Value → Addr → Pt → Prop} (hK : vx_Back l R p e below s args y 3 W9 Pre Post PostX)
    {b : Addr} {cellB : Cell} (hcell : T.heap[b]? = some cellB) (hobj : cellB.vm.isStatics = false) (hcls : s.vm.findClass C = some cellB.cls)
    {g : JFrame} (hg : g.method = m) (hsize : g.locals.size = c.maxLocals) {argsL rest : List Value} (hlen : ∀ sig, parseMethodDescriptor y.desc = some sig → argsL.length = sig.parameters.length)
    (hstack : g.stack = argsL.reverse ++ .ref b :: rest) (hW : 2 * g.monitorRoom + (rest.map fun v => v.category).sum ≤ W9) (hdg : decode c.code g.pc = .ok (.invokevirtual index, 3))
    (hpre : ∀ vm₁, s.WarmedH vm₁ → Pre ⟨T.setVm vm₁, locs, cells, slots⟩ (Value.ref b :: argsL).toArray) :
    (∃ (v : Option Value) (vm₁ : Vm) (B : Pt), s.WarmedH vm₁ ∧ Stand p l e R s m args below meth c B.U B.locs B.cells B.slots ∧ Post ⟨T.setVm vm₁, locs, cells, slots⟩ (Value.ref b :: argsL).toArray v B ∧
      ∀ target, Steps p.tables e below (B.U.setTop { g with pc := g.pc + 3, stack := v.toList ++ rest }) target → Steps p.tables e below (T.setTop g) target) ∨
    (∃ (q : Addr) (vm₁ : Vm) (B : Pt), s.WarmedH vm₁ ∧ Stand p l e R s m args below meth c B.U B.locs B.cells B.slots ∧ PostX ⟨T.setVm vm₁, locs, cells, slots⟩ (Value.ref b :: argsL).toArray q B ∧
      Steps p.tables e below (T.setTop g) ((B.U.setTop { g with stack := rest }).pushFrame (.throwing q))) := by
  obtain ⟨mk, methM, hnamed, hmethM, hstM, habM⟩ := Cond.instanceMethod_spec hinst
  obtain ⟨m8, methM', cM, hn8, hmethM', -, -, -, -, -, -, hsigM⟩ := Cond.codeWith_spec hcode
  cases Option.some.inj (hn8.symm.trans hnamed)
  cases hmethM.symm.trans hmethM'
  obtain ⟨c2, r2, m2, q1, q2, q3, q4, kP, hkP, hkPi⟩ := Cond.selects_spec hsel
  cases hcls.symm.trans q1
  cases (State.methodFound?_of_named hnamed hy).symm.trans q2
  cases hnamed.symm.trans q3
  have hselP : selectMethod e.platform s.vm cellB.cls mk = .method mk := by rw [Launch.admits_selectMethod X.admits]; exact q4
  obtain ⟨vm₁, X₁, hstep₁⟩ := X.invokevirtual hexec hown hlink hnamed hmethM hstM hkP hkPi hy (a := b) (cell := cellB) hcell
    (fun z h => by rw [h] at hobj; cases hobj) hselP hmethM habM hkP hkPi (g := g) hg (argsL := argsL) (rest := rest) (hlen _ hsigM) hstack hdg
  rcases hK m meth c ⟨T.setVm vm₁, locs, cells, slots⟩ { g with stack := rest } (.invokevirtual index) mk (Value.ref b :: argsL).toArray X₁ hg hsize hdg hW (X₁.named hnamed) (hpre vm₁ X₁.warmed) with ⟨v, B, X', hpost, hsteps⟩ | ⟨q, B, X', hpost, hsteps⟩
  · exact Or.inl ⟨v, vm₁, B, X₁.warmed, X', hpost, fun target h => hstep₁ _ fun acts => by rw [doInvoke_state]; exact hsteps.trans h⟩
  · exact Or.inr ⟨q, vm₁, B, X₁.warmed, X', hpost, hstep₁ _ fun acts => by rw [doInvoke_state]; exact hsteps⟩
theorem vx_callSX (X : Stand p l e R s m args below meth c T locs cells slots) (hexec : p.tables.exec = Jvm.exec) {own : String} {index : Nat} {y : MethodName} {bytes : ByteArray} {maxL : Nat} {ret : Option FieldType} {hh : List (Nat × Nat × Nat × Nat)}
    (hown : s.vm.findClass own = some m.cls) (hlink : (Cond.methodLink own index y).before args s = true) (hstat : (Cond.static y).before args s = true) (hinit : (Cond.initialized y.cls).before args s = true)
    (hcode : (Cond.codeWith y bytes maxL ret hh).before args s = true) (hy : y.cls ≠ "java/lang/invoke/MethodHandle" ∧ y.cls ≠ "java/lang/invoke/VarHandle")
    {W9 : Nat} {Pre : Pt → Array Value → Prop} {Post : Pt → Array Value → Option Value → Pt → Prop} {PostX : Pt → Array Value → Addr → Pt → Prop} (hK : vx_Back l R p e below s args y 3 W9 Pre Post PostX)
    {g : JFrame} (hg : g.method = m) (hsize : g.locals.size = c.maxLocals) {argsL rest : List Value} (hlen : ∀ sig, parseMethodDescriptor y.desc = some sig → argsL.length = sig.parameters.length)
    (hstack : g.stack = argsL.reverse ++ rest) (hW : 2 * g.monitorRoom + (rest.map fun v => v.category).sum ≤ W9) (hdg : decode c.code g.pc = .ok (.invokestatic index, 3))
    (hpre : ∀ vm₁, s.WarmedH vm₁ → Pre ⟨T.setVm vm₁, locs, cells, slots⟩ argsL.toArray) :
    (∃ (v : Option Value) (vm₁ : Vm) (B : Pt), s.WarmedH vm₁ ∧ Stand p l e R s m args below meth c B.U B.locs B.cells B.slots ∧ Post ⟨T.setVm vm₁, locs, cells, slots⟩ argsL.toArray v B ∧
      ∀ target, Steps p.tables e below (B.U.setTop { g with pc := g.pc + 3, stack := v.toList ++ rest }) target → Steps p.tables e below (T.setTop g) target) ∨
    (∃ (q : Addr) (vm₁ : Vm) (B : Pt), s.WarmedH vm₁ ∧ Stand p l e R s m args below meth c B.U B.locs B.cells B.slots ∧ PostX ⟨T.setVm vm₁, locs, cells, slots⟩ argsL.toArray q B ∧
      Steps p.tables e below (T.setTop g) ((B.U.setTop { g with stack := rest }).pushFrame (.throwing q))) := by
  obtain ⟨mk, methM, cM, hnamed, hmethM, -, -, -, -, -, -, hsigM⟩ := Cond.codeWith_spec hcode
  have hstatic : methM.isStatic = true := Cond.static_spec hnamed hmethM hstat
  obtain ⟨kP, hkP, -⟩ := className_of_methodNamed hnamed
  have hinitP : kP.init = .initialized := Cond.initialized_spec (findClass_of_methodNamed hnamed) hkP hinit
  obtain ⟨vm₁, X₁, hstep₁⟩ := X.invokestatic hexec hown hlink hnamed hmethM hstatic hkP hinitP hy (g := g) hg (argsL := argsL) (rest := rest) (hlen _ hsigM) hstack hdg
  rcases hK m meth c ⟨T.setVm vm₁, locs, cells, slots⟩ { g with stack := rest } (.invokestatic index) mk argsL.toArray X₁ hg hsize hdg hW (X₁.named hnamed) (hpre vm₁ X₁.warmed) with ⟨v, B, X', hpost, hsteps⟩ | ⟨q, B, X', hpost, hsteps⟩
  · exact Or.inl ⟨v, vm₁, B, X₁.warmed, X', hpost, fun target h => hstep₁ _ fun acts => by rw [doInvoke_state]; exact hsteps.trans h⟩
  · exact Or.inr ⟨q, vm₁, B, X₁.warmed, X', hpost, hstep₁ _ fun acts => by rw [doInvoke_state]; exact hsteps⟩
theorem vx_callVW (X : Stand p l e R s m args below meth c T locs cells slots) (hexec : p.tables.exec = Jvm.exec) {own C : String} {index : Nat} {y : MethodName} {bytes : ByteArray} {maxL : Nat} {ret : Option FieldType} {hh : List (Nat × Nat × Nat × Nat)}
    (hown : s.vm.findClass own = some m.cls) (hlink : (Cond.methodLink own index y).before args s = true) (hinst : (Cond.instanceMethod y).before args s = true) (hsel : (Cond.selects C y y).before args s = true)
    (hcode : (Cond.codeWith y bytes maxL ret hh).before args s = true) (hy : y.cls ≠ "java/lang/invoke/MethodHandle" ∧ y.cls ≠ "java/lang/invoke/VarHandle")
    {W9 : Nat} {Pre : Pt → Array Value → Prop} {Post : Pt → Array Value → Option Value → Pt → Prop} (hK : Back l R p e below s args y 3 W9 Pre Post)
    {b : Addr} {cellB : Cell} (hcell : T.heap[b]? = some cellB) (hobj : cellB.vm.isStatics = false) (hcls : s.vm.findClass C = some cellB.cls)
    {g : JFrame} (hg : g.method = m) (hsize : g.locals.size = c.maxLocals) {argsL rest : List Value} (hlen : ∀ sig, parseMethodDescriptor y.desc = some sig → argsL.length = sig.parameters.length)
    (hstack : g.stack = argsL.reverse ++ .ref b :: rest) (hW : 2 * g.monitorRoom + (rest.map fun v => v.category).sum ≤ W9) (hdg : decode c.code g.pc = .ok (.invokevirtual index, 3))
    (hpre : ∀ vm₁, s.WarmedH vm₁ → Pre ⟨T.setVm vm₁, locs, cells, slots⟩ (Value.ref b :: argsL).toArray) :
    ∃ (v : Option Value) (vm₁ : Vm) (B : Pt), s.WarmedH vm₁ ∧ Stand p l e R s m args below meth c B.U B.locs B.cells B.slots ∧ Post ⟨T.setVm vm₁, locs, cells, slots⟩ (Value.ref b :: argsL).toArray v B ∧
      ∀ target, Steps p.tables e below (B.U.setTop { g with pc := g.pc + 3, stack := v.toList ++ rest }) target → Steps p.tables e below (T.setTop g) target := by
  obtain ⟨mk, methM, hnamed, hmethM, hstM, habM⟩ := Cond.instanceMethod_spec hinst
  obtain ⟨m8, methM', cM, hn8, hmethM', -, -, -, -, -, -, hsigM⟩ := Cond.codeWith_spec hcode
  cases Option.some.inj (hn8.symm.trans hnamed)
  cases hmethM.symm.trans hmethM'
  obtain ⟨c2, r2, m2, q1, q2, q3, q4, kP, hkP, hkPi⟩ := Cond.selects_spec hsel
  cases hcls.symm.trans q1
  cases (State.methodFound?_of_named hnamed hy).symm.trans q2
  cases hnamed.symm.trans q3
  have hselP : selectMethod e.platform s.vm cellB.cls mk = .method mk := by rw [Launch.admits_selectMethod X.admits]; exact q4
  obtain ⟨vm₁, X₁, hstep₁⟩ := X.invokevirtual hexec hown hlink hnamed hmethM hstM hkP hkPi hy (a := b) (cell := cellB) hcell
    (fun z h => by rw [h] at hobj; cases hobj) hselP hmethM habM hkP hkPi (g := g) hg (argsL := argsL) (rest := rest) (hlen _ hsigM) hstack hdg
  obtain ⟨v, B, X', hpost, hsteps⟩ := hK m meth c ⟨T.setVm vm₁, locs, cells, slots⟩ { g with stack := rest } (.invokevirtual index) mk (Value.ref b :: argsL).toArray X₁ hg hsize hdg hW (X₁.named hnamed) (hpre vm₁ X₁.warmed)
  exact ⟨v, vm₁, B, X₁.warmed, X', hpost, fun target h => hstep₁ _ fun acts => by rw [doInvoke_state]; exact hsteps.trans h⟩
abbrev vx_CVW (R : Room) (s : State) (args : Array Value) (own C : String) (index : Nat) (y : MethodName) (bytes : ByteArray) (maxL : Nat) (ret : Option FieldType) (hh : List (Nat × Nat × Nat × Nat)) (ws : List Cond) (rm : Room) (mc ms n : Nat) : Prop :=
  (rm.cells = mc ∧ rm.slots = ms ∧ rm.frames + 1 ≤ R.frames ∧ 8 + (maxL + 11) + rm.locals ≤ R.locals ∧ (∀ w ∈ ws, ∀ (a' : Array Value) (U : State), s.WarmedH U.vm → w.before a' U = true) ∧ Cond.codeWith y bytes maxL ret hh ∈ ws) ∧
  (Cond.codeWith y bytes maxL ret hh).before args s = true ∧ (Cond.initialized y.cls).before args s = true ∧ (y.cls ≠ "java/lang/invoke/MethodHandle" ∧ y.cls ≠ "java/lang/invoke/VarHandle") ∧
  (∀ sig, parseMethodDescriptor y.desc = some sig → n = sig.parameters.length) ∧ (Cond.methodLink own index y).before args s = true ∧ (Cond.instanceMethod y).before args s = true ∧ (Cond.selects C y y).before args s = true
theorem vx_cwVW {own C : String} {index maxL mc ms : Nat} {y : MethodName} {bytes : ByteArray} {ret : Option FieldType} {hh : List (Nat × Nat × Nat × Nat)} {Ts ws ws' : List Cond} {rm : Room} (n : Nat) (ht : ∀ w ∈ Ts, w.before args s = true) (hT : GoodIn Ts (wsV own index C y ws)) (hw : ws = Cond.codeWith y bytes maxL ret hh :: ws') (hrc : rm.cells = mc) (hrs : rm.slots = ms)
    (hd : y.cls = C ∧ y.cls ≠ "java/lang/invoke/MethodHandle" ∧ y.cls ≠ "java/lang/invoke/VarHandle" ∧ (parseMethodDescriptor y.desc).map (fun d => d.parameters.length) = some n) (hR : rm.frames + 1 ≤ R.frames ∧ 8 + (maxL + 11) + rm.locals ≤ R.locals) :
    vx_CVW R s args own C index y bytes maxL ret hh ws rm mc ms n := by
  obtain ⟨hC, hd⟩ := hd
  subst hC
  have ok : ∀ w ∈ wsV own index y.cls y ws, w.before args s = true := fun w h => ht w (hT w h).1
  have hG : GoodIn Ts ws := fun w h => hT w (by unfold wsV; exact List.mem_append_right _ h)
  have hc : Cond.codeWith y bytes maxL ret hh ∈ ws := by rw [hw]; exact List.mem_cons_self
  refine ⟨⟨hrc, hrs, hR.1, hR.2, pay_in ht hG, hc⟩, ht _ (hG _ hc).1, ok _ (by simp [wsV]), ⟨hd.1, hd.2.1⟩, fun sig h => ?_, ok _ (by simp [wsV]), ok _ (by simp [wsV]), ok _ (by simp [wsV])⟩
  have h2 := hd.2.2
  rw [h] at h2
  exact (Option.some.inj h2).symm
theorem vx_runVW {y : MethodName} {bytes cc : ByteArray} {maxL nL mc ms n index : Nat} {ret : Option FieldType} {hh : List (Nat × Nat × Nat × Nat)} {ws : List Cond} {rm : Room} {Pc : Array Value → State → Prop} {Qc : Array Value → State → Outcome → State → Prop} {free : Addr → Prop} {Ts : List Cond} {own C : String} {b : Addr} {As rest : List Value} {g : JFrame}
    (S : CallFix p m c cc nL s args Ts own) (hM : Met l y ws rm Pc Qc mc ms free) (cw : vx_CVW R s args own C index y bytes maxL ret hh ws rm mc ms n) (hp : PreV s H C b Pc As)
    (hg : g.method = m) (hn : As.length = n) (hsize : g.locals.size = nL) (hstack : g.stack = As.reverse ++ .ref b :: rest) (hW : 2 * g.monitorRoom + (rest.map fun v => v.category).sum ≤ 8) (hdg : decode cc g.pc = .ok (.invokevirtual index, 3)) (hf : cells + mc ≤ R.cells ∧ slots + ms ≤ R.slots) :
    va_Run p l e R s m args below meth c H locs cells slots mc ms g rest (Qc (Value.ref b :: As).toArray) free := by
  obtain ⟨⟨hrc, hrs, hfr, hlo, hws, hcw⟩, hcode, hini, hy, hlen, hl, hin, hse⟩ := cw
  have hK : Back l R p e below s args y 3 8 (PreOf R mc ms Pc) (PostOf Qc mc ms free) := va_backW (hh := hh) (bytes := bytes) (maxL := maxL) (ret := ret) hM hp.1 hrc hrs hfr hlo hws hcw (fun a' U hW => word_at hW (Or.inl (by first | rfl | simp [Cond.onTables, Cond.keeps, Cond.steady])) hini)
  obtain ⟨hx, hb, hml, ho, -⟩ := S
  obtain ⟨-, ⟨cellB, hcB, hoB, hclB⟩, hPc⟩ := hp
  intro T hT X
  obtain ⟨v, vm₁, ⟨U', l2, c2, s2⟩, hW₁, X', ⟨g', mk, t, L, e1, e2, hq, h1, hL, h2, h3⟩, st⟩ := vx_callVW X hx (C := C) (hh := hh) (bytes := bytes) (maxL := maxL) (ret := ret) ho hl hin hse hcode hy hK (by rw [hT]; exact hcB) hoB hclB hg (hsize.trans hml.symm) (argsL := As) (rest := rest) (fun sig h => hn.trans (hlen sig h)) hstack hW (by rw [hb]; exact hdg)
    (fun vm₁ hW₁ => ⟨hf.1, hf.2, hPc (T.setVm vm₁) hT hW₁⟩)
  dsimp only [Pt.U, Pt.locs, Pt.cells, Pt.slots] at X' e1 e2 h1 h2 h3 st
  subst h1; subst h2; subst h3
  exact ⟨v, (T.setVm vm₁).calling g' mk (Value.ref b :: As).toArray, t, U', L, hT, X', hL, e1, e2, hq, st⟩
section
variable {y : MethodName} {bytes cc : ByteArray} {maxL nL mc ms n index : Nat} {ret : Option FieldType} {ws : List Cond} {rm : Room} {Pc : Array Value → State → Prop} {Qc : Array Value → State → Outcome → State → Prop} {XC : String → State → State → Prop} {free : Addr → Prop} {Ts : List Cond} {own C : String} {b : Addr} {As rest : List Value} {g : JFrame}
theorem vx_runVX {hh : List (Nat × Nat × Nat × Nat)} (S : CallFix p m c cc nL s args Ts own) (hM : vx_Met l y ws rm Pc Qc XC mc ms free) (cw : vx_CVW R s args own C index y bytes maxL ret hh ws rm mc ms n) (hp : PreV s H C b Pc As)
    (hg : g.method = m) (hn : As.length = n) (hsize : g.locals.size = nL) (hstack : g.stack = As.reverse ++ .ref b :: rest) (hW : 2 * g.monitorRoom + (rest.map fun v => v.category).sum ≤ 8) (hdg : decode cc g.pc = .ok (.invokevirtual index, 3)) (hf : cells + mc ≤ R.cells ∧ slots + ms ≤ R.slots) :
    vx_Run p l e R s m args below meth c H locs cells slots mc ms g rest (Qc (Value.ref b :: As).toArray) XC free := by
  obtain ⟨⟨hrc, hrs, hfr, hlo, hws, hcw⟩, hcode, hini, hy, hlen, hl, hin, hse⟩ := cw
  have hK : vx_Back l R p e below s args y 3 8 (PreOf R mc ms Pc) (PostOf Qc mc ms free) (vx_Post XC mc ms free) := vx_backW (hh := hh) (bytes := bytes) (maxL := maxL) (ret := ret) hM hp.1 hrc hrs hfr hlo hws hcw (fun a' U hW => word_at hW (Or.inl (by first | rfl | simp [Cond.onTables, Cond.keeps, Cond.steady])) hini)
  obtain ⟨hx, hb, hml, ho, -⟩ := S
  obtain ⟨-, ⟨cellB, hcB, hoB, hclB⟩, hPc⟩ := hp
  intro T hT X
  rcases vx_callVX X hx (C := C) (hh := hh) (bytes := bytes) (maxL := maxL) (ret := ret) ho hl hin hse hcode hy hK (by rw [hT]; exact hcB) hoB hclB hg (hsize.trans hml.symm) (argsL := As) (rest := rest) (fun sig h => hn.trans (hlen sig h)) hstack hW (by rw [hb]; exact hdg)
    (fun vm₁ hW₁ => ⟨hf.1, hf.2, hPc (T.setVm vm₁) hT hW₁⟩) with ⟨v, vm₁, ⟨U', l2, c2, s2⟩, hW₁, X', ⟨g', mk, t, L, e1, e2, hq, h1, hL, h2, h3⟩, st⟩ | ⟨q, vm₁, ⟨U', l2, c2, s2⟩, hW₁, X', ⟨g', mk, t, L, E, ce, e1, e2, hq, hce, hcv, hcl, h1, hL, h2, h3⟩, st⟩
  · dsimp only [Pt.U, Pt.locs, Pt.cells, Pt.slots] at X' e1 e2 h1 h2 h3 st
    subst h1; subst h2; subst h3
    exact Or.inl ⟨v, (T.setVm vm₁).calling g' mk (Value.ref b :: As).toArray, t, U', L, hT, X', hL, e1, e2, hq, st⟩
  · dsimp only [Pt.U, Pt.locs, Pt.cells, Pt.slots] at X' e1 e2 h1 h2 h3 st hcl
    subst h1; subst h2; subst h3
    exact Or.inr ⟨q, (T.setVm vm₁).calling g' mk (Value.ref b :: As).toArray, t, U', L, E, ce, hT, X', hL, e1, e2, hq, hce, hcv, vx_cls hW₁ hcl, st⟩
theorem vx_runSX {hh : List (Nat × Nat × Nat × Nat)} (S : CallFix p m c cc nL s args Ts own) (hM : vx_Met l y ws rm Pc Qc XC mc ms free) (cw : vx_CSW R s args own index y bytes maxL ret hh ws rm mc ms n) (hp : PreS s H Pc As)
    (hg : g.method = m) (hn : As.length = n) (hsize : g.locals.size = nL) (hstack : g.stack = As.reverse ++ rest) (hW : 2 * g.monitorRoom + (rest.map fun v => v.category).sum ≤ 8) (hdg : decode cc g.pc = .ok (.invokestatic index, 3)) (hf : cells + mc ≤ R.cells ∧ slots + ms ≤ R.slots) :
    vx_Run p l e R s m args below meth c H locs cells slots mc ms g rest (Qc As.toArray) XC free := by
  obtain ⟨⟨hrc, hrs, hfr, hlo, hws, hcw⟩, hcode, hini, hy, hlen, hl, hstt⟩ := cw
  have hK : vx_Back l R p e below s args y 3 8 (PreOf R mc ms Pc) (PostOf Qc mc ms free) (vx_Post XC mc ms free) := vx_backW (hh := hh) (bytes := bytes) (maxL := maxL) (ret := ret) hM hp.1 hrc hrs hfr hlo hws hcw (fun a' U hW => word_at hW (Or.inl (by first | rfl | simp [Cond.onTables, Cond.keeps, Cond.steady])) hini)
  obtain ⟨hx, hb, hml, ho, -⟩ := S
  intro T hT X
  rcases vx_callSX X hx (hh := hh) (bytes := bytes) (maxL := maxL) (ret := ret) ho hl hstt hini hcode hy hK hg (hsize.trans hml.symm) (argsL := As) (rest := rest) (fun sig h => hn.trans (hlen sig h)) hstack hW (by rw [hb]; exact hdg)
    (fun vm₁ hW₁ => ⟨hf.1, hf.2, hp.2 (T.setVm vm₁) hT hW₁⟩) with ⟨v, vm₁, ⟨U', l2, c2, s2⟩, hW₁, X', ⟨g', mk, t, L, e1, e2, hq, h1, hL, h2, h3⟩, st⟩ | ⟨q, vm₁, ⟨U', l2, c2, s2⟩, hW₁, X', ⟨g', mk, t, L, E, ce, e1, e2, hq, hce, hcv, hcl, h1, hL, h2, h3⟩, st⟩
  · dsimp only [Pt.U, Pt.locs, Pt.cells, Pt.slots] at X' e1 e2 h1 h2 h3 st
    subst h1; subst h2; subst h3
    exact Or.inl ⟨v, (T.setVm vm₁).calling g' mk As.toArray, t, U', L, hT, X', hL, e1, e2, hq, st⟩
  · dsimp only [Pt.U, Pt.locs, Pt.cells, Pt.slots] at X' e1 e2 h1 h2 h3 st hcl
    subst h1; subst h2; subst h3
    exact Or.inr ⟨q, (T.setVm vm₁).calling g' mk As.toArray, t, U', L, E, ce, hT, X', hL, e1, e2, hq, hce, hcv, vx_cls hW₁ hcl, st⟩
end
end VXH
theorem vx_ofWH {l : Launch} {y : MethodName} {ws ws' : List Cond} {rm : Room} {Pc : Array Value → State → Prop} {Qc : Array Value → State → Outcome → State → Prop} {XC : String → State → State → Prop} {mc ms : Nat} {free : Addr → Prop} {cc : ByteArray} {maxL : Nat} {ret : Option FieldType} {hh : List (Nat × Nat × Nat × Nat)}
    (hy : plainName y.cls = true) (hw : ws = Cond.codeWith y cc maxL ret hh :: ws')
    (body : ∀ p e s m args below meth c s₁, BodyLoose p l y (headSpec ws rm) cc maxL ret e s m args below meth c s₁ → c.maxLocals = maxL → Pc args s →
      W p l e (headSpec ws rm).room s m args below meth c s.heap [] 0 0 (vx_MQ below Qc XC args s mc ms free) (entryFrame m args maxL)) : vx_Met l y ws rm Pc Qc XC mc ms free := by
  refine MetFree.of_bodyS (code := cc) (maxLocals := maxL) (ret := ret) hy ?_ ?_
  · intro args s m h hn
    obtain ⟨m9, meth, c, hn9, h1, h2, h3, h4, -, h5, h6, -⟩ := Cond.codeWith_spec (atoms_spec (ws := ws) h _ (by rw [hw]; exact List.mem_cons_self))
    cases hn.symm.trans hn9
    exact ⟨meth, c, h1, h2, h3, h4, h5, h6⟩
  · intro p e s m args below meth c s₁ B hml hP _
    have hh0 : s₁.heap = s.heap := by rw [B.state]; rfl
    obtain ⟨t, a1, o, b1, b2, b3⟩ := body p e s m args below meth c s₁ B hml hP s₁ hh0 (Stand.of_body B)
    exact ⟨t, o, a1, b1, b2, b3⟩
/-! ===== END ===== -/

/-! ===== BEGIN what the machine throws by itself, no traces kept ===== -/
section VXM
set_option maxHeartbeats 1000000 in
/-- the machine throws cls with the message text, no traces kept: from its note over the frame g to 'throwing' over the same frame (follows the proofs of Stand.vmThrowsMessage, Shelf/KitTracedVmS.lean, and Stand.throwsMessageColdBareV, StandMessageColdV.lean, without the step out of the frame) -/
theorem vx_vmAt {p : Program} {l : Launch} {e : Env} {R : Room} {s : State} {m₀ : MethodId} {args : Array Value} {below : List Frame} {meth : Method} {c : Code} {W : State} {locs : List Loc} {cells slots : Nat}
    (X : Stand p l e R s m₀ args below meth c W locs cells slots) (hexec : p.tables.exec = Jvm.exec) (htr : e.platform.stackTraces = false) {cls : String} {names : List String} {text : String}
    (hcls : Bundle.fit cls = true) (hnames : ∀ n ∈ names, Bundle.fit n = true) (hsoe : (cls == "java/lang/StackOverflowError") = false) (hoom : (cls == "java/lang/OutOfMemoryError") = false)
    (h : ∀ a ∈ Bundle.messageArmAtoms cls names, a.before args s = true)
    (hlocs : ∀ x ∈ locs, ∀ cell, s.heap[x.base]? = some cell → cell.vm.isStatics = false)
    (htext : (text == notModelled) = false) (hlimit : ¬ (stringBytes (stringToUtf16 text)).size > e.platform.arrayLengthLimit) (hheap : ¬ (stringBytes (stringToUtf16 text)).size * componentBytes .byte > e.platform.maxHeapBytes)
    {g : JFrame} (hg : g.method = m₀) (hsize : g.locals.size = c.maxLocals)
    (hRframes : names.length + 4 < R.frames) (hRlocals : 2 * g.monitorRoom + (g.stack.map fun v => v.category).sum + 10240 ≤ R.locals) (hshort : 13 * names.length + 55 ≤ 10240)
    (hRcells : cells + 3 ≤ R.cells) (hRslots : slots + ((stringBytes (stringToUtf16 text)).size + 4 + 6) ≤ R.slots) (hlocks : meth.locks = false) :
    ∃ (S : State) (q : Addr) (ce : Cell), (∀ target, Steps p.tables e below ((S.setTop g).pushFrame (.throwing q)) target → Steps p.tables e below ((W.setTop g).pushFrame (.throwNew cls (some text) none)) target) ∧
      Stand p l e R s m₀ args below meth c S locs (cells + 3) (slots + ((stringBytes (stringToUtf16 text)).size + 4 + 6)) ∧ S.heap[q]? = some ce ∧ s.vm.findClass cls = some ce.cls ∧ ce.vm = .none := by
  have howns : e.platform.frameOwnsMonitors = true := by rw [X.admits.platform]
  have hfin : e.platform.finalization = false := by rw [X.admits.platform]
  have hpl : e.platform.magicAccessors = ({} : Platform).magicAccessors := by rw [X.admits.platform]
  have a : ∀ x, x ∈ Bundle.messageArmAtoms cls names → x.holds args s none s [] = true := fun x hx => h x hx
  obtain ⟨T, Z0, L, -, Y⟩ := ThrowableC.of_atoms (args := args) howns hfin hpl (fun x hx => h x (by simp [Bundle.messageArmAtoms, hx]))
  obtain ⟨Z, M, LZ, LM, hnZ⟩ := Init0T.ofS_atoms (args := args) hpl L Y (fun x hx => h x (by simp [Bundle.messageArmAtoms, hx]))
  obtain ⟨P1, Ps, hlen, L1, hL, hP1m, hlink1, hlink⟩ := Bundle.chainS (args := args) hpl hnZ names cls hcls hnames (fun x hx => h x (by simp [Bundle.messageArmAtoms, hx]))
  obtain ⟨Zs, LZs, hn4, hfitv, hfitc⟩ := StringT.of_atoms (args := args) (fun x hx => h x (by simp [Bundle.messageArmAtoms, hx]))
  have hfound : s.vm.findClass cls = some P1.m.cls := findClass_of_methodNamed hP1m
  obtain ⟨c1, kX, hc1, hk, hord, -, -, hn6⟩ := Cond.instantiable_spec (a (.instantiable cls 6) (by simp [Bundle.messageArmAtoms]))
  cases Option.some.inj (hc1.symm.trans hfound)
  have hinit := Cond.initialized_spec hfound hk (a (.initialized cls) (by simp [Bundle.messageArmAtoms]))
  have hctor : kX.findMethod "<init>" "(Ljava/lang/String;)V" = some P1.m.idx := findMethod_of_methodNamed hP1m hk
  have hsel0 : selectMethod e.platform s.vm P1.m.cls T.fill0 = .method T.fill0 := by
    obtain ⟨c2, r2, m2, q1, q2, q3, q4, -⟩ := Cond.selects_spec (a (.selects cls Bundle.tFill0 Bundle.tFill0) (by simp [Bundle.messageArmAtoms]))
    cases Option.some.inj (q1.symm.trans hfound)
    cases Option.some.inj (q2.symm.trans (State.methodFound?_of_named Y.fill0 (by decide)))
    cases Option.some.inj (q3.symm.trans Y.fill0)
    rw [Launch.admits_selectMethod X.admits]; exact q4
  have hselF : selectMethod e.platform s.vm P1.m.cls T.fill = .method T.fill := by
    obtain ⟨c2, r2, m2, q1, q2, q3, q4, -⟩ := Cond.selects_spec (a (.selects cls Bundle.tFill Bundle.tFill) (by simp [Bundle.messageArmAtoms]))
    cases Option.some.inj (q1.symm.trans hfound)
    cases Option.some.inj (q2.symm.trans (State.methodFound?_of_named Y.fill (by decide)))
    cases Option.some.inj (q3.symm.trans Y.fill)
    rw [Launch.admits_selectMethod X.admits]; exact q4
  obtain ⟨cellS0, hcS0, hiss⟩ := Y.statics
  obtain ⟨u0, hu0⟩ := Cond.staticRefV Y.unassigned L.unassignedStatic L.statics hcS0 hiss (a (.isRef (.static Bundle.tN "UNASSIGNED_STACK" Bundle.steD)) (by simp [Bundle.messageArmAtoms]))
  obtain ⟨sen, hsen⟩ := Cond.staticRefV Y.sentinel L.sentinelStatic L.statics hcS0 hiss (a (.isRef (.static Bundle.tN "SUPPRESSED_SENTINEL" Bundle.listD)) (by simp [Bundle.messageArmAtoms]))
  obtain ⟨ci198, i198, fB, hk198, hg198, ha198, hsB, -, hnB, htB, hffB⟩ := Cond.ownField (t := .object "java/lang/Object") Y.found L.cls (by decide +kernel) (a (.fieldLink Bundle.tN 198 Bundle.tN "backtrace" "Ljava/lang/Object;") (by simp [Bundle.messageArmAtoms])) (a (.lays Bundle.tN Bundle.tN "backtrace" "Ljava/lang/Object;") (by simp [Bundle.messageArmAtoms])) e.platform hpl
  obtain ⟨cellS, hcS', heS, -, hkeep⟩ := X.same.2.2.2.2.2 T.aS cellS0 hcS0
  have hcellS : W.heap[T.aS]? = some cellS := hcS'
  have hout' : ∀ i, (⟨T.aS, i⟩ : Loc) ∉ locs := fun i hmem => by
    have := hlocs _ hmem cellS0 hcS0
    rw [hiss] at this; cases this
  have hknownS : cellS.vm ≠ .unknown := by
    rw [heS]; intro hu
    rw [show cellS0.vm = .unknown from hu] at hiss
    cases hiss
  have hvU : cellS.slots[T.fUnassigned.slot]? = some u0.v := by rw [hkeep _ (hout' _)]; exact hu0
  have hvSen : cellS.slots[T.fSentinel.slot]? = some sen.v := by rw [hkeep _ (hout' _)]; exact hsen
  obtain ⟨iM, hffM⟩ := Y.msg
  obtain ⟨tyC, dC, hdC, hdnC⟩ := Cond.laysAt hfound hk Y.cause (a (.lays cls Bundle.tN "cause" "Ljava/lang/Throwable;") (by simp [Bundle.messageArmAtoms]))
  obtain ⟨tyS, dS, hdS, hdnS⟩ := Cond.laysAt hfound hk Y.stack (a (.lays cls Bundle.tN "stackTrace" Bundle.steD) (by simp [Bundle.messageArmAtoms]))
  obtain ⟨tyP, dP, hdP, hdnP⟩ := Cond.laysAt hfound hk Y.supp (a (.lays cls Bundle.tN "suppressedExceptions" Bundle.listD) (by simp [Bundle.messageArmAtoms]))
  obtain ⟨tyM, dM, hdM, hdnM⟩ := Cond.laysAt hfound hk hffM (a (.lays cls Bundle.tN "detailMessage" "Ljava/lang/String;") (by simp [Bundle.messageArmAtoms]))
  obtain ⟨tyB, dB, hdB, hdnB⟩ := Cond.laysAt hfound hk hffB (a (.lays cls Bundle.tN "backtrace" "Ljava/lang/Object;") (by simp [Bundle.messageArmAtoms]))
  have bC := Cond.laysApart hdB hdC hdnB hdnC (by rw [hnB, Y.causeName]; decide)
  have bS := Cond.laysApart hdB hdS hdnB hdnS (by rw [hnB, Y.stackName]; decide)
  have bP := Cond.laysApart hdB hdP hdnB hdnP (by rw [hnB, Y.suppName]; decide)
  have hbk : ((preparedCellV T.toThrowableT (freshCell P1.m.cls kX) (W.heap.size + 2) u0 sen).withEntry W.cur).slots[fB.slot]? = some .null := by
    have := fresh_default (c := P1.m.cls) tyB
    rw [htB] at this
    simpa [preparedCellV, Cell.setSlot, Cell.withEntry, Array.getElem?_setIfInBounds, bC, bS, bP, bC.symm, bS.symm, bP.symm, defaultValue] using this
  have tkC := Takes.of_laid (v := .ref (W.heap.size + 2)) hk hord tyC (by rw [Y.causeType]; rfl)
  have tkS := Takes.of_laid (v := u0.v) hk hord tyS (by rw [Y.stackType]; exact fits_refV_array _ u0)
  have tkP := Takes.of_laid (v := sen.v) hk hord tyP (by rw [Y.suppType]; exact fits_refV_object _ sen)
  have tkM := Takes.of_laid (v := .ref (W.heap.size + 1)) hk hord tyM (by rw [Y.msgType]; rfl)
  have hskip : SkipFacts T e.platform s (fun u => u) u0 ((preparedCellV T.toThrowableT (freshCell P1.m.cls kX) (W.heap.size + 2) u0 sen).withEntry W.cur) := ⟨{ ci198 := ci198, i198 := i198, fBack := fB }, ⟨hk198, hg198, ha198, hsB⟩, hbk, fun _ _ => rfl⟩
  have h0 : At W g.method c below := by rw [hg]; exact X.here
  obtain ⟨hbeyond, hfreeW⟩ := X.vmMayThrow hsize (.throwNew cls (some text) none) (fun f hf => by cases hf) rfl hRlocals
  have hfr' : W.frames.length + Ps.length + 4 < (e.platform.stackLimits W.me).1 := by have := X.framesAbove hRframes; omega
  have hwd' : (stackUse (.java g :: W.frames.tail)).2 + 13 * Ps.length + 55 ≤ (e.platform.stackLimits W.me).2 := by have := X.stackAbove hsize (K := 13 * Ps.length + 55) (by omega); omega
  have hslots : W.slotsUsed + (stringBytes (stringToUtf16 text)).size + Zs.kS.instanceTypes.size + kX.instanceTypes.size ≤ e.platform.maxSlots := by
    have := X.slotsAbove hRslots
    rw [hn4, hn6]
    omega
  obtain ⟨vm', hW', st⟩ := Steps.vmThrowsMessageColdByV p (s₀ := s) (S := W) (g := g) h0 hexec T L Z LZ M LM X.warmed (t := W.cur) rfl Zs LZs P1 L1 Ps hL hlink1 hlink hsoe hoom hfound hk hinit hord hctor
    (Launch.admits_hotImplicitExceptions X.admits) hbeyond hfreeW htext hlimit hheap (X.cellsAbove hRcells) hslots (hfitv _) (hfitc _)
    (Nn := fun u => u) heapOnly_id (fun _ _ => rfl) (fun _ => rfl) (fun u x y => setCell_twice _ _ _ _) (fun _ => Nat.le_refl _) (cN := ((preparedCellV T.toThrowableT (freshCell P1.m.cls kX) (W.heap.size + 2) u0 sen).withEntry W.cur))
    hsel0 hcellS hknownS hvU tkS (fun _ hu => hu) (fun _ hu => hu) rfl rfl rfl (by simp [preparedCellV, Cell.setSlot, Cell.withEntry]) hskip (fun _ _ hA hW _ hroom _ hrest => L.nativeOff p htr hA hW hroom hrest) hselF hvSen tkC tkP tkM Y.objLocals rfl hfr' hwd'
  rw [plainBareV_eq T.toThrowableT (W.heap.size + 2) u0 sen (.ref (W.heap.size + 1)) W.cur rfl rfl] at st
  obtain ⟨-, -, w3, w4, -, -, -⟩ := withThrown_facts e.platform W Zs text P1.m.cls kX
  have X3 := ((X.pushed (bytesOf Zs.cB (stringToUtf16 text))).pushed (stringAt Zs.cS Zs.kS Zs.fv Zs.fc (stringToUtf16 text) W.heap.size)).pushed (freshCell P1.m.cls kX)
  rw [← withString_eq] at X3
  have X4 := X3.noted hW'
  have ha : (W.heap.size + 2) < ((withThrown W Zs text P1.m.cls kX).setVm vm').heap.size := by show _ < (withThrown W Zs text P1.m.cls kX).heap.size; rw [w3]; omega
  have hcell : ((withThrown W Zs text P1.m.cls kX).setVm vm').heap[(W.heap.size + 2)]? = some (freshCell P1.m.cls kX) := w4
  have X5 := ((((X4.stored hcell T.fCause.slot (.ref (W.heap.size + 2))).storedAgain ha T.fStack.slot u0.v).storedAgain ha T.fSupp.slot sen.v).storedAgain ha T.fStack.slot u0.v).storedAgain ha T.fMsg.slot (.ref (W.heap.size + 1))
  obtain ⟨g₁, hfrM⟩ := X5.frames_eq
  have hU : ((((withThrown W Zs text P1.m.cls kX).setVm vm').setCell (W.heap.size + 2) (plainBareV T.toThrowableT (freshCell P1.m.cls kX) (W.heap.size + 2) u0 sen (.ref (W.heap.size + 1)))).setTop g).pushFrame (.throwing (W.heap.size + 2)) = (((withThrown W Zs text P1.m.cls kX).setVm vm').setCell (W.heap.size + 2) (plainBareV T.toThrowableT (freshCell P1.m.cls kX) (W.heap.size + 2) u0 sen (.ref (W.heap.size + 1)))).setFrames (.throwing (W.heap.size + 2) :: .java g :: below) := by
    rw [State.pushFrame, State.frames_setTop _ hfrM, State.setTop_of_frames _ hfrM, State.setFrames_setFrames]
  have b1 : (bytesOf Zs.cB (stringToUtf16 text)).slots.size = (stringBytes (stringToUtf16 text)).size := by
    rw [(Cell.writeAll_facts _ _).2.2]; simp [bytes0]
  have b2 : (stringAt Zs.cS Zs.kS Zs.fv Zs.fc (stringToUtf16 text) W.heap.size).slots.size = 4 := by simp [string0, Cell.setSlot, hn4]
  have b3 : (freshCell P1.m.cls kX).slots.size = 6 := by simp [hn6]
  rw [b1, b2, b3] at X5
  have e9 : slots + (stringBytes (stringToUtf16 text)).size + 4 + 6 = slots + ((stringBytes (stringToUtf16 text)).size + 4 + 6) := by omega
  rw [e9] at X5
  simp only [List.append_assoc, List.cons_append, List.nil_append] at X5
  refine ⟨((withThrown W Zs text P1.m.cls kX).setVm vm').setCell (W.heap.size + 2) (plainBareV T.toThrowableT (freshCell P1.m.cls kX) (W.heap.size + 2) u0 sen (.ref (W.heap.size + 1))), W.heap.size + 2, _, fun target ht => st _ (by rw [X.tail, ← hU]; exact ht),
    X5.forget (fun y hy => ?_), heapAt_setCell_self _ ha, hfound, rfl⟩
  simp only [List.mem_cons, List.not_mem_nil, or_false] at hy
  have hge : s.heap.size ≤ W.heap.size := X.same.2.1
  rcases hy with rfl | rfl | rfl | rfl | rfl <;> exact Nat.le_trans hge (Nat.le_add_right _ 2)
set_option maxHeartbeats 1000000 in
/-- the machine throws NullPointerException, no traces kept: from its note over the frame g to 'throwing' over the same frame (follows the proof of Stand.vmThrowsNpe, Shelf42/KT2.lean; throwsNpeColdBareVAt, Shelf42/NT91.lean, called) -/
theorem vx_npeAt {p : Program} {l : Launch} {e : Env} {R : Room} {s : State} {m₀ : MethodId} {args : Array Value} {below : List Frame} {meth : Method} {c : Code} {W : State} {locs : List Loc} {cells slots : Nat}
    (X : Stand p l e R s m₀ args below meth c W locs cells slots) (hexec : p.tables.exec = Jvm.exec) (htr : e.platform.stackTraces = false) {n : Nat}
    (h : ∀ a ∈ Bundle.npeArmAtoms n, a.before args s = true)
    (hlocs : ∀ x ∈ locs, ∀ cell, s.heap[x.base]? = some cell → cell.vm.isStatics = false)
    {g : JFrame} (hg : g.method = m₀) (hsize : g.locals.size = c.maxLocals)
    (hRframes : 7 < R.frames) (hRlocals : 2 * g.monitorRoom + (g.stack.map fun v => v.category).sum + 10240 ≤ R.locals)
    (hRcells : cells + 1 ≤ R.cells) (hRslots : slots + n ≤ R.slots) (hlocks : meth.locks = false) :
    ∃ (S : State) (q : Addr) (ce : Cell), (∀ target, Steps p.tables e below ((S.setTop g).pushFrame (.throwing q)) target → Steps p.tables e below ((W.setTop g).pushFrame (.throwNew "java/lang/NullPointerException" none none)) target) ∧
      Stand p l e R s m₀ args below meth c S locs (cells + 1) (slots + n) ∧ S.heap[q]? = some ce ∧ s.vm.findClass "java/lang/NullPointerException" = some ce.cls ∧ ce.vm = .none := by
  have howns : e.platform.frameOwnsMonitors = true := by rw [X.admits.platform]
  have hfin : e.platform.finalization = false := by rw [X.admits.platform]
  have hpl : e.platform.magicAccessors = ({} : Platform).magicAccessors := by rw [X.admits.platform]
  have hpl2 : e.platform.arrayCloneIsPublic = true := by rw [X.admits.platform]
  have a' : ∀ x, x ∈ Bundle.npeArmAtoms n → x.holds args s none s [] = true := fun x hx => h x hx
  obtain ⟨T, Z, L, LZ, Y⟩ := ThrowableC.of_atoms (args := args) howns hfin hpl (fun x hx => h x (by simp [Bundle.npeArmAtoms, hx]))
  obtain ⟨N, LN, hcN, hnNF, hordN, hffS⟩ := NpeC.of_atoms (args := args) hpl hpl2 L Y (fun x hx => h x (by simp [Bundle.npeArmAtoms, hx]))
  obtain ⟨P1, L1, hP1m, hP1s⟩ := PassC.of_atoms (args := args) (s := s) hpl (X := Bundle.nN) (Y := Bundle.rN) (by decide) (by decide) LibCode.NullPointerException.Init0.at_0 LibCode.NullPointerException.Init0.at_1 LibCode.NullPointerException.Init0.at_4 (fun x hx => h x (by simp [Bundle.npeArmAtoms, hx]))
  obtain ⟨PR, LR, hPRm, hPRs⟩ := PassC.of_atoms (args := args) (s := s) hpl (X := Bundle.rN) (Y := Bundle.eN) (by decide) (by decide) LibCode.RuntimeException.Init0.at_0 LibCode.RuntimeException.Init0.at_1 LibCode.RuntimeException.Init0.at_4 (fun x hx => h x (by simp [Bundle.npeArmAtoms, hx]))
  obtain ⟨PE, LEx, hPEm, hPEs⟩ := PassC.of_atoms (args := args) (s := s) hpl (X := Bundle.eN) (Y := Bundle.tN) (by decide) (by decide) LibCode.Exception.Init0.at_0 LibCode.Exception.Init0.at_1 LibCode.Exception.Init0.at_4 (fun x hx => h x (by simp [Bundle.npeArmAtoms, hx]))
  have hfound : s.vm.findClass Bundle.nN = some P1.m.cls := findClass_of_methodNamed hP1m
  have ecls : N.cN = P1.m.cls := Option.some.inj (hcN.symm.trans hfound)
  have hk : s.vm.classes[P1.m.cls]? = some N.kN := by rw [← ecls]; exact LN.cls
  have hinit := Cond.initialized_spec hfound hk (a' (.initialized Bundle.nN) (by simp [Bundle.npeArmAtoms]))
  have hctor : N.kN.findMethod "<init>" "()V" = some P1.m.idx := findMethod_of_methodNamed hP1m hk
  obtain ⟨c1, k1, hc1, hk1, -, -, -, hn⟩ := Cond.instantiable_spec (a' (.instantiable Bundle.nN n) (by simp [Bundle.npeArmAtoms]))
  cases Option.some.inj (hc1.symm.trans hfound)
  cases Option.some.inj (hk1.symm.trans hk)
  have hfsz : (freshCell P1.m.cls N.kN).slots.size = n := by simp [hn]
  have hlink1 : P1.sup = PR.m := Option.some.inj (hP1s.symm.trans hPRm)
  have hlinkR : PR.sup = PE.m := Option.some.inj (hPRs.symm.trans hPEm)
  have hlinkE : PE.sup = Z.m T.toThrowableT := Option.some.inj (hPEs.symm.trans Y.init0)
  have hLs : ∀ P, P ∈ [PR, PE] → P.Links0 e.platform s := fun P hP => by
    simp only [List.mem_cons, List.not_mem_nil, or_false] at hP
    rcases hP with rfl | rfl
    · exact LR
    · exact LEx
  have hsel0 : selectMethod e.platform s.vm P1.m.cls T.fill0 = .method T.fill0 := by
    obtain ⟨c2, r2, m2, q1, q2, q3, q4, -⟩ := Cond.selects_spec (a' (.selects Bundle.nN Bundle.tFill0 Bundle.tFill0) (by simp [Bundle.npeArmAtoms]))
    cases Option.some.inj (q1.symm.trans hfound)
    cases Option.some.inj (q2.symm.trans (State.methodFound?_of_named Y.fill0 (by decide)))
    cases Option.some.inj (q3.symm.trans Y.fill0)
    rw [Launch.admits_selectMethod X.admits]; exact q4
  have hselF : selectMethod e.platform s.vm P1.m.cls T.fill = .method N.fill := by
    obtain ⟨c2, r2, m2, q1, q2, q3, q4, -⟩ := Cond.selects_spec (a' (.selects Bundle.nN Bundle.tFill Bundle.nFill) (by simp [Bundle.npeArmAtoms]))
    cases Option.some.inj (q1.symm.trans hfound)
    cases Option.some.inj (q2.symm.trans (State.methodFound?_of_named Y.fill (by decide)))
    cases Option.some.inj (q3.symm.trans hnNF)
    rw [Launch.admits_selectMethod X.admits]; exact q4
  obtain ⟨cellS0, hcS0, hiss⟩ := Y.statics
  obtain ⟨u0, hu0⟩ := Cond.staticRefV Y.unassigned L.unassignedStatic L.statics hcS0 hiss (a' (.isRef (.static Bundle.tN "UNASSIGNED_STACK" Bundle.steD)) (by simp [Bundle.npeArmAtoms]))
  obtain ⟨sen, hsen⟩ := Cond.staticRefV Y.sentinel L.sentinelStatic L.statics hcS0 hiss (a' (.isRef (.static Bundle.tN "SUPPRESSED_SENTINEL" Bundle.listD)) (by simp [Bundle.npeArmAtoms]))
  obtain ⟨ci198, i198, fB, hk198, hg198, ha198, hsB, -, hnB, htB, hffB⟩ := Cond.ownField (t := .object "java/lang/Object") Y.found L.cls (by decide +kernel) (a' (.fieldLink Bundle.tN 198 Bundle.tN "backtrace" Bundle.objD) (by simp [Bundle.npeArmAtoms])) (a' (.lays Bundle.tN Bundle.tN "backtrace" Bundle.objD) (by simp [Bundle.npeArmAtoms])) e.platform hpl
  obtain ⟨cellS, hcS', heS, -, hkeep⟩ := X.same.2.2.2.2.2 T.aS cellS0 hcS0
  have hcellS : W.heap[T.aS]? = some cellS := hcS'
  have hout' : ∀ i, (⟨T.aS, i⟩ : Loc) ∉ locs := fun i hmem => by
    have := hlocs _ hmem cellS0 hcS0
    rw [hiss] at this; cases this
  have hknownS : cellS.vm ≠ .unknown := by
    rw [heS]; intro hu
    rw [show cellS0.vm = .unknown from hu] at hiss
    cases hiss
  have hvU : cellS.slots[T.fUnassigned.slot]? = some u0.v := by rw [hkeep _ (hout' _)]; exact hu0
  have hvSen : cellS.slots[T.fSentinel.slot]? = some sen.v := by rw [hkeep _ (hout' _)]; exact hsen
  obtain ⟨tyC, dC, hdC, hdnC⟩ := Cond.laysAt hfound hk Y.cause (a' (.lays Bundle.nN Bundle.tN "cause" "Ljava/lang/Throwable;") (by simp [Bundle.npeArmAtoms]))
  obtain ⟨tyS, dS, hdS, hdnS⟩ := Cond.laysAt hfound hk Y.stack (a' (.lays Bundle.nN Bundle.tN "stackTrace" Bundle.steD) (by simp [Bundle.npeArmAtoms]))
  obtain ⟨tyP, dP, hdP, hdnP⟩ := Cond.laysAt hfound hk Y.supp (a' (.lays Bundle.nN Bundle.tN "suppressedExceptions" Bundle.listD) (by simp [Bundle.npeArmAtoms]))
  obtain ⟨tyX, dX, hdX, hdnX⟩ := Cond.laysAt hfound hk hffS (a' (.lays Bundle.nN Bundle.nN "extendedMessageState" "I") (by simp [Bundle.npeArmAtoms, Bundle.npeAtoms]))
  obtain ⟨hnX, htX⟩ := State.fieldFound?_type hffS (t := .int) (by decide +kernel)
  have xC := Cond.laysApart hdC hdX hdnC hdnX (by rw [hnX, Y.causeName]; decide)
  have xS := Cond.laysApart hdS hdX hdnS hdnX (by rw [hnX, Y.stackName]; decide)
  have xP := Cond.laysApart hdP hdX hdnP hdnX (by rw [hnX, Y.suppName]; decide)
  have hv0 : (freshCell P1.m.cls N.kN).slots[N.fState.slot]? = some (.int 0) := by
    have := fresh_default (c := P1.m.cls) tyX
    rw [htX] at this; exact this
  obtain ⟨tyB, dB, hdB, hdnB⟩ := Cond.laysAt hfound hk hffB (a' (.lays Bundle.nN Bundle.tN "backtrace" Bundle.objD) (by simp [Bundle.npeArmAtoms]))
  have bC := Cond.laysApart hdB hdC hdnB hdnC (by rw [hnB, Y.causeName]; decide)
  have bS := Cond.laysApart hdB hdS hdnB hdnS (by rw [hnB, Y.stackName]; decide)
  have bP := Cond.laysApart hdB hdP hdnB hdnP (by rw [hnB, Y.suppName]; decide)
  have bX := Cond.laysApart hdB hdX hdnB hdnX (by rw [hnB, hnX]; decide)
  have hbk : ((npeCell N.toNpeT (preparedCellV T.toThrowableT (freshCell P1.m.cls N.kN) W.heap.size u0 sen) W.cur).withEntry W.cur).slots[fB.slot]? = some .null := by
    have := fresh_default (c := P1.m.cls) tyB
    rw [htB] at this
    simpa [npeCell, preparedCellV, Cell.setSlot, Cell.withEntry, Array.getElem?_setIfInBounds, bC, bS, bP, bX, bC.symm, bS.symm, bP.symm, bX.symm, defaultValue] using this
  have tkC := Takes.of_laid (v := .ref W.heap.size) hk hordN tyC (by rw [Y.causeType]; rfl)
  have tkS := Takes.of_laid (v := u0.v) hk hordN tyS (by rw [Y.stackType]; exact fits_refV_array _ u0)
  have tkP := Takes.of_laid (v := sen.v) hk hordN tyP (by rw [Y.suppType]; exact fits_refV_object _ sen)
  have tkX := Takes.of_laid (v := .int 1) hk hordN tyX (by rw [htX]; rfl)
  have hskip : SkipFacts T e.platform s (fun u => u) u0 ((npeCell N.toNpeT (preparedCellV T.toThrowableT (freshCell P1.m.cls N.kN) W.heap.size u0 sen) W.cur).withEntry W.cur) := ⟨{ ci198 := ci198, i198 := i198, fBack := fB }, ⟨hk198, hg198, ha198, hsB⟩, hbk, fun _ _ => rfl⟩
  obtain ⟨vm', X3, st, -⟩ := X.throwsNpeColdBareVAt hexec hg hsize T L Z LZ N LN P1 L1 [PR, PE] hLs hlink1 ⟨hlinkR, hlinkE, trivial⟩ hfound hk hinit hordN hctor hsel0 hselF hcellS hknownS hvU hvSen
    hv0 xC xS xP tkC tkS tkP tkX Y.objLocals hskip (fun _ _ hA hW _ hroom _ hrest => L.nativeOff p htr hA hW hroom hrest) (by simpa using hRframes) hRlocals (by simp) hRcells (by rw [hn]; exact hRslots)
  have hlt : W.heap.size < ((W.pushCell (freshCell P1.m.cls N.kN)).setVm vm').heap.size := by
    show W.heap.size < (W.pushCell (freshCell P1.m.cls N.kN)).heap.size
    rw [State.heap_size_pushCell]; omega
  rw [hfsz] at X3
  obtain ⟨g₁, hfrM⟩ := X3.frames_eq
  have hU : ((((W.pushCell (freshCell P1.m.cls N.kN)).setVm vm').setCell W.heap.size (npeBareV T.toThrowableT N.toNpeT (freshCell P1.m.cls N.kN) W.heap.size u0 sen)).setTop g).pushFrame (.throwing W.heap.size) = (((W.pushCell (freshCell P1.m.cls N.kN)).setVm vm').setCell W.heap.size (npeBareV T.toThrowableT N.toNpeT (freshCell P1.m.cls N.kN) W.heap.size u0 sen)).setFrames (.throwing W.heap.size :: .java g :: below) := by
    rw [State.pushFrame, State.frames_setTop _ hfrM, State.setTop_of_frames _ hfrM, State.setFrames_setFrames]
  refine ⟨_, W.heap.size, _, fun target ht => st.trans (by rw [← hU]; exact ht), X3.forget (fun y hy => ?_), heapAt_setCell_self _ hlt, hfound, rfl⟩
  simp only [List.mem_cons, List.not_mem_nil, or_false] at hy
  have hge : s.heap.size ≤ W.heap.size := X.same.2.1
  rcases hy with rfl | rfl | rfl | rfl | rfl <;> exact hge
/-- the words of a machine's NullPointerException, but the four that speak of the heap -/
def vx_atN (n : Nat) : List Cond := (Bundle.npeArmAtoms n).filter vx_no
/-- the words of a machine's throw with a message, but the four that speak of the heap -/
def vx_atM (X : String) (names : List String) : List Cond := (Bundle.messageArmAtoms X names).filter vx_no
section
variable {p : Program} {l : Launch} {e : Env} {R : Room} {s : State} {m : MethodId} {args : Array Value} {below : List Frame} {meth : Method} {c : Code} {H : Heap} {locs : List Loc} {cells slots : Nat}
/-- a frame seen from a rebased start, seen from the first start again -/
theorem vx_back9 {T S : State} {R' : Room} {k n : Nat} (X : Stand p l e R s m args below meth c T locs cells slots) (Y : Stand p l e R' ((T.setVm s.vm).setFrames (.invoking m args :: below)) m args below meth c T [] 0 0) (Z : Stand p l e R' ((T.setVm s.vm).setFrames (.invoking m args :: below)) m args below meth c S [] k n) :
    Stand p l e R s m args below meth c S locs (cells + k) (slots + n) := by
  have hW0 : s.WarmedH ((T.setVm s.vm).setFrames (.invoking m args :: below)).vm := State.WarmedH.refl s
  refine { admits := X.admits, cas := X.cas, clock := X.clock, frames := X.frames, room := X.room, hears := X.hears, method := X.method, code := X.code, here := Z.here, tail := Z.tail, warmed := State.WarmedH.trans hW0 Z.warmed, limits := Z.limits.trans (Y.limits.symm.trans X.limits), bytes := Z.bytes.trans (Y.bytes.symm.trans X.bytes), same := ?_ }
  obtain ⟨e1, e2⟩ := Z.same
  rw [State.setFrames_setFrames] at e1
  have h2 : (T.setVm s.vm).sameButNew (S.setVm s.vm) [] k n := ⟨e1, e2⟩
  have h3 := X.same.trans h2
  rw [List.append_nil] at h3
  exact h3
/-- from the machine's note that E is thrown here with this text -/
def vx_Note (p : Program) (l : Launch) (e : Env) (R : Room) (s : State) (m : MethodId) (args : Array Value) (below : List Frame) (meth : Method) (c : Code) (H : Heap) (locs : List Loc) (cells slots : Nat) (Q : State → Prop) (g : JFrame) (E text : String) : Prop :=
  ∀ T : State, T.heap = H → Stand p l e R s m args below meth c T locs cells slots → ∃ t, Steps p.tables e below ((T.setTop g).pushFrame (.throwNew E (some text) none)) t ∧ Q t
theorem vx_vm {pc : Nat} {ls : Array Slot} {rest : List Value} {Q : State → Prop} (hexec : p.tables.exec = Jvm.exec) (hl : l.stackTraces = false) {cls text : String} {names : List String} {nb : Nat} {A : Nat → Prop}
    (hcls : Bundle.fit cls = true) (hnames : ∀ n ∈ names, Bundle.fit n = true) (hsoe : (cls == "java/lang/StackOverflowError") = false) (hoom : (cls == "java/lang/OutOfMemoryError") = false)
    (hat : ∀ w ∈ vx_atM cls names, w.before args s = true) (hgood : ∀ w ∈ vx_atM cls names, vx_ot w = true)
    (hU : vx_Zq Bundle.tN "UNASSIGNED_STACK" Bundle.steD A s s.heap) (hN : vx_Zq Bundle.tN "SUPPRESSED_SENTINEL" Bundle.listD A s s.heap) (hS : va_S A s.heap H locs) (hsize : ls.size = c.maxLocals)
    (htext : (text == notModelled) = false) (hnb : (stringBytes (stringToUtf16 text)).size ≤ nb) (hnb1 : nb ≤ 1000)
    (hRframes : names.length + 4 < R.frames) (hRlocals : (rest.map fun v => v.category).sum + 10240 ≤ R.locals) (hshort : 13 * names.length + 55 ≤ 10240) (hRcells : cells + 3 ≤ R.cells) (hRslots : slots + (nb + 10) ≤ R.slots) (hlocks : meth.locks = false)
    (k : ∀ (H1 : Heap) (q9 : Addr) (ce : Cell), H.size ≤ H1.size → (∀ q : Nat, q < H.size → H1[q]? = H[q]?) → va_S A s.heap H1 locs → H1[q9]? = some ce → ce.vm = .none → s.vm.findClass cls = some ce.cls → vx_W p l e R s m args below meth c H1 locs (cells + 3) (slots + (nb + 10)) Q (F0 m pc ls rest) q9) :
    vx_Note p l e R s m args below meth c H locs cells slots Q (F0 m pc ls rest) cls text := by
  intro T hT X
  have htr : e.platform.stackTraces = false := (show e.platform.stackTraces = l.stackTraces by rw [X.admits.platform]).trans hl
  have Y := vx_rebase X (R' := { frames := R.frames, locals := R.locals, cells := 3, slots := nb + 10 }) (Nat.le_refl _) (Nat.le_refl _) hRcells hRslots
  have hhp : ((T.setVm s.vm).setFrames (.invoking m args :: below)).heap = H := hT
  have hW0 : s.WarmedH ((T.setVm s.vm).setFrames (.invoking m args :: below)).vm := State.WarmedH.refl s
  have hat' : ∀ w ∈ vx_atM cls names, w.before args ((T.setVm s.vm).setFrames (.invoking m args :: below)) = true := fun w hw => vx_ot_at hW0 rfl (hgood w hw) (hat w hw)
  have hU' : vx_Zq Bundle.tN "UNASSIGNED_STACK" Bundle.steD A ((T.setVm s.vm).setFrames (.invoking m args :: below)) ((T.setVm s.vm).setFrames (.invoking m args :: below)).heap := by rw [hhp]; exact vx_Zq.moved hW0.alike (hU.kept hS.2.1)
  have hN' : vx_Zq Bundle.tN "SUPPRESSED_SENTINEL" Bundle.listD A ((T.setVm s.vm).setFrames (.invoking m args :: below)) ((T.setVm s.vm).setFrames (.invoking m args :: below)).heap := by rw [hhp]; exact vx_Zq.moved hW0.alike (hN.kept hS.2.1)
  obtain ⟨S, q, ce, st, Z, hce, hcl', hv⟩ := vx_vmAt Y hexec htr (cls := cls) (names := names) (text := text) hcls hnames hsoe hoom (vx_own hat' (vx_isRefq hU'.1) (vx_isRefq hN'.1) hU'.2.word hN'.2.word) (fun x hx => nomatch hx) htext
    (by rw [Launch.admits_arrayLengthLimit X.admits]; omega) (by rw [Launch.admits_maxHeapBytes X.admits]; simp only [componentBytes]; omega)
    (g := F0 m pc ls rest) rfl hsize hRframes (by show 2 * 0 + (rest.map fun v => v.category).sum + 10240 ≤ R.locals; omega) hshort (by show 0 + 3 ≤ 3; omega) (by show 0 + (_ + 4 + 6) ≤ nb + 10; omega) hlocks
  obtain ⟨f1, f2⟩ := vx_frame Z.same
  have f1' : H.size ≤ S.heap.size := by rw [← hT]; exact f1
  have f2' : ∀ q : Nat, q < H.size → S.heap[q]? = H[q]? := fun q hq => by
    rw [← hT]
    exact f2 q (by rw [← hT] at hq; exact hq) (fun z hz => nomatch hz)
  have X5 := vx_back9 X Y Z
  have X6 : Stand p l e R s m args below meth c S locs (cells + 3) (slots + (nb + 10)) := { X5 with same := X5.same.mono (by omega) (by omega) }
  obtain ⟨t, a1, b1⟩ := k S.heap q ce f1' f2' ⟨Nat.le_trans hS.1 f1', fun q h1 h2 => (f2' q (Nat.lt_of_lt_of_le h1 hS.1)).trans (hS.2.1 q h1 h2), hS.2.2⟩ hce hv hcl' S rfl X6
  exact ⟨t, st t a1, b1⟩
/-- from the machine's note that NullPointerException is thrown here -/
def vx_NoteN (p : Program) (l : Launch) (e : Env) (R : Room) (s : State) (m : MethodId) (args : Array Value) (below : List Frame) (meth : Method) (c : Code) (H : Heap) (locs : List Loc) (cells slots : Nat) (Q : State → Prop) (g : JFrame) : Prop :=
  ∀ T : State, T.heap = H → Stand p l e R s m args below meth c T locs cells slots → ∃ t, Steps p.tables e below ((T.setTop g).pushFrame (.throwNew "java/lang/NullPointerException" none none)) t ∧ Q t
theorem vx_npe {pc : Nat} {ls : Array Slot} {rest : List Value} {Q : State → Prop} (hexec : p.tables.exec = Jvm.exec) (hl : l.stackTraces = false) {nb : Nat} {A : Nat → Prop}
    (hat : ∀ w ∈ vx_atN nb, w.before args s = true) (hgood : ∀ w ∈ vx_atN nb, vx_ot w = true)
    (hU : vx_Zq Bundle.tN "UNASSIGNED_STACK" Bundle.steD A s s.heap) (hN : vx_Zq Bundle.tN "SUPPRESSED_SENTINEL" Bundle.listD A s s.heap) (hS : va_S A s.heap H locs) (hsize : ls.size = c.maxLocals)
    (hRframes : 7 < R.frames) (hRlocals : (rest.map fun v => v.category).sum + 10240 ≤ R.locals) (hRcells : cells + 1 ≤ R.cells) (hRslots : slots + nb ≤ R.slots) (hlocks : meth.locks = false)
    (k : ∀ (H1 : Heap) (q9 : Addr) (ce : Cell), H.size ≤ H1.size → (∀ q : Nat, q < H.size → H1[q]? = H[q]?) → va_S A s.heap H1 locs → H1[q9]? = some ce → ce.vm = .none → s.vm.findClass "java/lang/NullPointerException" = some ce.cls → vx_W p l e R s m args below meth c H1 locs (cells + 1) (slots + nb) Q (F0 m pc ls rest) q9) :
    vx_NoteN p l e R s m args below meth c H locs cells slots Q (F0 m pc ls rest) := by
  intro T hT X
  have htr : e.platform.stackTraces = false := (show e.platform.stackTraces = l.stackTraces by rw [X.admits.platform]).trans hl
  have Y := vx_rebase X (R' := { frames := R.frames, locals := R.locals, cells := 1, slots := nb }) (Nat.le_refl _) (Nat.le_refl _) hRcells hRslots
  have hhp : ((T.setVm s.vm).setFrames (.invoking m args :: below)).heap = H := hT
  have hW0 : s.WarmedH ((T.setVm s.vm).setFrames (.invoking m args :: below)).vm := State.WarmedH.refl s
  have hat' : ∀ w ∈ vx_atN nb, w.before args ((T.setVm s.vm).setFrames (.invoking m args :: below)) = true := fun w hw => vx_ot_at hW0 rfl (hgood w hw) (hat w hw)
  have hU' : vx_Zq Bundle.tN "UNASSIGNED_STACK" Bundle.steD A ((T.setVm s.vm).setFrames (.invoking m args :: below)) ((T.setVm s.vm).setFrames (.invoking m args :: below)).heap := by rw [hhp]; exact vx_Zq.moved hW0.alike (hU.kept hS.2.1)
  have hN' : vx_Zq Bundle.tN "SUPPRESSED_SENTINEL" Bundle.listD A ((T.setVm s.vm).setFrames (.invoking m args :: below)) ((T.setVm s.vm).setFrames (.invoking m args :: below)).heap := by rw [hhp]; exact vx_Zq.moved hW0.alike (hN.kept hS.2.1)
  obtain ⟨S, q, ce, st, Z, hce, hcl', hv⟩ := vx_npeAt Y hexec htr (n := nb) (vx_own hat' (vx_isRefq hU'.1) (vx_isRefq hN'.1) hU'.2.word hN'.2.word) (fun x hx => nomatch hx)
    (g := F0 m pc ls rest) rfl hsize hRframes (by show 2 * 0 + (rest.map fun v => v.category).sum + 10240 ≤ R.locals; omega) (by show 0 + 1 ≤ 1; omega) (by show 0 + nb ≤ nb; omega) hlocks
  obtain ⟨f1, f2⟩ := vx_frame Z.same
  have f1' : H.size ≤ S.heap.size := by rw [← hT]; exact f1
  have f2' : ∀ q : Nat, q < H.size → S.heap[q]? = H[q]? := fun q hq => by
    rw [← hT]
    exact f2 q (by rw [← hT] at hq; exact hq) (fun z hz => nomatch hz)
  have X5 := vx_back9 X Y Z
  have X6 : Stand p l e R s m args below meth c S locs (cells + 1) (slots + nb) := { X5 with same := X5.same.mono (by omega) (by omega) }
  obtain ⟨t, a1, b1⟩ := k S.heap q ce f1' f2' ⟨Nat.le_trans hS.1 f1', fun q h1 h2 => (f2' q (Nat.lt_of_lt_of_le h1 hS.1)).trans (hS.2.1 q h1 h2), hS.2.2⟩ hce hv hcl' S rfl X6
  exact ⟨t, st t a1, b1⟩
variable {Q : State → Prop} {cc : ByteArray} {pc : Nat} {ls : Array Slot} {rest : List Value}
theorem vx_idivZ (hexec : p.tables.exec = Jvm.exec) (hb : c.code = cc) {a b : Int32} (h0 : b = 0) (d : decode cc pc = .ok (.idiv, 1)) (k : vx_Note p l e R s m args below meth c H locs cells slots Q (F0 m pc ls rest) "java/lang/ArithmeticException" "/ by zero") :
    W p l e R s m args below meth c H locs cells slots Q (F0 m pc ls (.int b :: .int a :: rest)) := by
  intro T hT X
  obtain ⟨t, st, q⟩ := k T hT X
  exact ⟨t, X.idivZero hexec (g := F0 m pc ls (.int b :: .int a :: rest)) rfl (a := a) (rest := rest) (by rw [h0]) (by rw [hb]; exact d) t st, q⟩
theorem vx_iremZ (hexec : p.tables.exec = Jvm.exec) (hb : c.code = cc) {a b : Int32} (h0 : b = 0) (d : decode cc pc = .ok (.irem, 1)) (k : vx_Note p l e R s m args below meth c H locs cells slots Q (F0 m pc ls rest) "java/lang/ArithmeticException" "/ by zero") :
    W p l e R s m args below meth c H locs cells slots Q (F0 m pc ls (.int b :: .int a :: rest)) := by
  intro T hT X
  obtain ⟨t, st, q⟩ := k T hT X
  exact ⟨t, X.iremZero hexec (g := F0 m pc ls (.int b :: .int a :: rest)) rfl (a := a) (rest := rest) (by rw [h0]) (by rw [hb]; exact d) t st, q⟩
theorem vx_ldivZ (hexec : p.tables.exec = Jvm.exec) (hb : c.code = cc) {a b : Int64} (h0 : b = 0) (d : decode cc pc = .ok (.ldiv, 1)) (k : vx_Note p l e R s m args below meth c H locs cells slots Q (F0 m pc ls rest) "java/lang/ArithmeticException" "/ by zero") :
    W p l e R s m args below meth c H locs cells slots Q (F0 m pc ls (.long b :: .long a :: rest)) := by
  intro T hT X
  obtain ⟨t, st, q⟩ := k T hT X
  exact ⟨t, X.ldivZero hexec (g := F0 m pc ls (.long b :: .long a :: rest)) rfl (a := a) (rest := rest) (by rw [h0]) (by rw [hb]; exact d) t st, q⟩
theorem vx_lremZ (hexec : p.tables.exec = Jvm.exec) (hb : c.code = cc) {a b : Int64} (h0 : b = 0) (d : decode cc pc = .ok (.lrem, 1)) (k : vx_Note p l e R s m args below meth c H locs cells slots Q (F0 m pc ls rest) "java/lang/ArithmeticException" "/ by zero") :
    W p l e R s m args below meth c H locs cells slots Q (F0 m pc ls (.long b :: .long a :: rest)) := by
  intro T hT X
  obtain ⟨t, st, q⟩ := k T hT X
  exact ⟨t, X.lremZero hexec (g := F0 m pc ls (.long b :: .long a :: rest)) rfl (a := a) (rest := rest) (by rw [h0]) (by rw [hb]; exact d) t st, q⟩
theorem vx_ialdZ {D : va_G} {cl : List vw_C} {ws : va_W} {tys : List (ClassId × FieldType)} {a : Nat} (hexec : p.tables.exec = Jvm.exec) (hb : c.code = cc) (hK : va_K D cl tys s) (hP : va_P D cl ws H) (q0 t0 : Nat) {cA : ClassId} {n : Nat} {f : Nat → Int32} (ha : ws[q0]? = some (a, .inl (cA, n, .inl f))) (ht : tys[t0]? = some (cA, .int)) {i : Int32} (hout : ¬ vp_in i n) (hdg : decode cc pc = .ok (.iaload, 1))
    (k : ∀ tx : String, tx = (toString "Index " ++ toString i ++ toString " out of bounds for length " ++ toString n : String) → vx_Note p l e R s m args below meth c H locs cells slots Q (F0 m pc ls rest) "java/lang/ArrayIndexOutOfBoundsException" tx) : W p l e R s m args below meth c H locs cells slots Q (F0 m pc ls (.int i :: .ref a :: rest)) := by
  intro T hT X
  obtain ⟨t, st, q⟩ := k _ rfl T hT X
  refine ⟨t, ?_, q⟩
  have h1 := X.ialoadOut hexec (by rw [hT]; exact hP q0 _ ha) ((hK.2 t0 _ ht).1 n (fun j => .int (f j))) (j := i) (by show (i < 0 ∨ (arrV _ _ _).slots.size ≤ _); rw [arrV_size]; exact Classical.byContradiction hout) (g := F0 m pc ls (.int i :: .ref a :: rest)) rfl (rest := rest) rfl (by rw [hb]; exact hdg) t
  simp only [arrV_size] at h1
  exact h1 st
theorem vx_iastZ {D : va_G} {cl : List vw_C} {ws : va_W} {tys : List (ClassId × FieldType)} {a : Nat} (hexec : p.tables.exec = Jvm.exec) (hb : c.code = cc) (hK : va_K D cl tys s) (hP : va_P D cl ws H) (q0 t0 : Nat) {cA : ClassId} {n : Nat} {f : Nat → Int32} (ha : ws[q0]? = some (a, .inl (cA, n, .inl f))) (ht : tys[t0]? = some (cA, .int)) {i : Int32} {x : Int32} (hout : ¬ vp_in i n) (hdg : decode cc pc = .ok (.iastore, 1))
    (k : ∀ tx : String, tx = (toString "Index " ++ toString i ++ toString " out of bounds for length " ++ toString n : String) → vx_Note p l e R s m args below meth c H locs cells slots Q (F0 m pc ls rest) "java/lang/ArrayIndexOutOfBoundsException" tx) : W p l e R s m args below meth c H locs cells slots Q (F0 m pc ls (.int x :: .int i :: .ref a :: rest)) := by
  intro T hT X
  obtain ⟨t, st, q⟩ := k _ rfl T hT X
  refine ⟨t, ?_, q⟩
  have h1 := X.iastoreOut hexec (by rw [hT]; exact hP q0 _ ha) ((hK.2 t0 _ ht).1 n (fun j => .int (f j))) (j := i) (by show (i < 0 ∨ (arrV _ _ _).slots.size ≤ _); rw [arrV_size]; exact Classical.byContradiction hout) (g := F0 m pc ls (.int x :: .int i :: .ref a :: rest)) rfl (rest := rest) rfl (by rw [hb]; exact hdg) t
  simp only [arrV_size] at h1
  exact h1 st
theorem vx_baldZ {D : va_G} {cl : List vw_C} {ws : va_W} {tys : List (ClassId × FieldType)} {a : Nat} (hexec : p.tables.exec = Jvm.exec) (hb : c.code = cc) (hK : va_K D cl tys s) (hP : va_P D cl ws H) (q0 t0 : Nat) {cA : ClassId} {n : Nat} {f : Nat → Int32} (ha : ws[q0]? = some (a, .inl (cA, n, .inl f))) (ht : tys[t0]? = some (cA, .byte)) {i : Int32} (hout : ¬ vp_in i n) (hdg : decode cc pc = .ok (.baload, 1))
    (k : ∀ tx : String, tx = (toString "Index " ++ toString i ++ toString " out of bounds for length " ++ toString n : String) → vx_Note p l e R s m args below meth c H locs cells slots Q (F0 m pc ls rest) "java/lang/ArrayIndexOutOfBoundsException" tx) : W p l e R s m args below meth c H locs cells slots Q (F0 m pc ls (.int i :: .ref a :: rest)) := by
  intro T hT X
  obtain ⟨t, st, q⟩ := k _ rfl T hT X
  refine ⟨t, ?_, q⟩
  have h1 := X.baloadOut hexec (by rw [hT]; exact hP q0 _ ha) ((hK.2 t0 _ ht).1 n (fun j => .int (f j))) (j := i) (by show (i < 0 ∨ (arrV _ _ _).slots.size ≤ _); rw [arrV_size]; exact Classical.byContradiction hout) (g := F0 m pc ls (.int i :: .ref a :: rest)) rfl (rest := rest) rfl (by rw [hb]; exact hdg) t
  simp only [arrV_size] at h1
  exact h1 st
theorem vx_bastZ {D : va_G} {cl : List vw_C} {ws : va_W} {tys : List (ClassId × FieldType)} {a : Nat} (hexec : p.tables.exec = Jvm.exec) (hb : c.code = cc) (hK : va_K D cl tys s) (hP : va_P D cl ws H) (q0 t0 : Nat) {cA : ClassId} {n : Nat} {f : Nat → Int32} (ha : ws[q0]? = some (a, .inl (cA, n, .inl f))) (ht : tys[t0]? = some (cA, .byte)) {i : Int32} {x : Int32} (hout : ¬ vp_in i n) (hdg : decode cc pc = .ok (.bastore, 1))
    (k : ∀ tx : String, tx = (toString "Index " ++ toString i ++ toString " out of bounds for length " ++ toString n : String) → vx_Note p l e R s m args below meth c H locs cells slots Q (F0 m pc ls rest) "java/lang/ArrayIndexOutOfBoundsException" tx) : W p l e R s m args below meth c H locs cells slots Q (F0 m pc ls (.int x :: .int i :: .ref a :: rest)) := by
  intro T hT X
  obtain ⟨t, st, q⟩ := k _ rfl T hT X
  refine ⟨t, ?_, q⟩
  have h1 := X.bastoreOut hexec (by rw [hT]; exact hP q0 _ ha) ((hK.2 t0 _ ht).1 n (fun j => .int (f j))) (j := i) (by show (i < 0 ∨ (arrV _ _ _).slots.size ≤ _); rw [arrV_size]; exact Classical.byContradiction hout) (g := F0 m pc ls (.int x :: .int i :: .ref a :: rest)) rfl (rest := rest) rfl (by rw [hb]; exact hdg) t
  simp only [arrV_size] at h1
  exact h1 st
theorem vx_zaldZ {D : va_G} {cl : List vw_C} {ws : va_W} {tys : List (ClassId × FieldType)} {a : Nat} (hexec : p.tables.exec = Jvm.exec) (hb : c.code = cc) (hK : va_K D cl tys s) (hP : va_P D cl ws H) (q0 t0 : Nat) {cA : ClassId} {n : Nat} {f : Nat → Int32} (ha : ws[q0]? = some (a, .inl (cA, n, .inl f))) (ht : tys[t0]? = some (cA, .boolean)) {i : Int32} (hout : ¬ vp_in i n) (hdg : decode cc pc = .ok (.baload, 1))
    (k : ∀ tx : String, tx = (toString "Index " ++ toString i ++ toString " out of bounds for length " ++ toString n : String) → vx_Note p l e R s m args below meth c H locs cells slots Q (F0 m pc ls rest) "java/lang/ArrayIndexOutOfBoundsException" tx) : W p l e R s m args below meth c H locs cells slots Q (F0 m pc ls (.int i :: .ref a :: rest)) := by
  intro T hT X
  obtain ⟨t, st, q⟩ := k _ rfl T hT X
  refine ⟨t, ?_, q⟩
  have h1 := X.baloadOut hexec (by rw [hT]; exact hP q0 _ ha) ((hK.2 t0 _ ht).1 n (fun j => .int (f j))) (j := i) (by show (i < 0 ∨ (arrV _ _ _).slots.size ≤ _); rw [arrV_size]; exact Classical.byContradiction hout) (g := F0 m pc ls (.int i :: .ref a :: rest)) rfl (rest := rest) rfl (by rw [hb]; exact hdg) t
  simp only [arrV_size] at h1
  exact h1 st
theorem vx_zastZ {D : va_G} {cl : List vw_C} {ws : va_W} {tys : List (ClassId × FieldType)} {a : Nat} (hexec : p.tables.exec = Jvm.exec) (hb : c.code = cc) (hK : va_K D cl tys s) (hP : va_P D cl ws H) (q0 t0 : Nat) {cA : ClassId} {n : Nat} {f : Nat → Int32} (ha : ws[q0]? = some (a, .inl (cA, n, .inl f))) (ht : tys[t0]? = some (cA, .boolean)) {i : Int32} {x : Int32} (hout : ¬ vp_in i n) (hdg : decode cc pc = .ok (.bastore, 1))
    (k : ∀ tx : String, tx = (toString "Index " ++ toString i ++ toString " out of bounds for length " ++ toString n : String) → vx_Note p l e R s m args below meth c H locs cells slots Q (F0 m pc ls rest) "java/lang/ArrayIndexOutOfBoundsException" tx) : W p l e R s m args below meth c H locs cells slots Q (F0 m pc ls (.int x :: .int i :: .ref a :: rest)) := by
  intro T hT X
  obtain ⟨t, st, q⟩ := k _ rfl T hT X
  refine ⟨t, ?_, q⟩
  have h1 := X.bastoreOut hexec (by rw [hT]; exact hP q0 _ ha) ((hK.2 t0 _ ht).1 n (fun j => .int (f j))) (j := i) (by show (i < 0 ∨ (arrV _ _ _).slots.size ≤ _); rw [arrV_size]; exact Classical.byContradiction hout) (g := F0 m pc ls (.int x :: .int i :: .ref a :: rest)) rfl (rest := rest) rfl (by rw [hb]; exact hdg) t
  simp only [arrV_size] at h1
  exact h1 st
theorem vx_caldZ {D : va_G} {cl : List vw_C} {ws : va_W} {tys : List (ClassId × FieldType)} {a : Nat} (hexec : p.tables.exec = Jvm.exec) (hb : c.code = cc) (hK : va_K D cl tys s) (hP : va_P D cl ws H) (q0 t0 : Nat) {cA : ClassId} {n : Nat} {f : Nat → Int32} (ha : ws[q0]? = some (a, .inl (cA, n, .inl f))) (ht : tys[t0]? = some (cA, .char)) {i : Int32} (hout : ¬ vp_in i n) (hdg : decode cc pc = .ok (.caload, 1))
    (k : ∀ tx : String, tx = (toString "Index " ++ toString i ++ toString " out of bounds for length " ++ toString n : String) → vx_Note p l e R s m args below meth c H locs cells slots Q (F0 m pc ls rest) "java/lang/ArrayIndexOutOfBoundsException" tx) : W p l e R s m args below meth c H locs cells slots Q (F0 m pc ls (.int i :: .ref a :: rest)) := by
  intro T hT X
  obtain ⟨t, st, q⟩ := k _ rfl T hT X
  refine ⟨t, ?_, q⟩
  have h1 := X.caloadOut hexec (by rw [hT]; exact hP q0 _ ha) ((hK.2 t0 _ ht).1 n (fun j => .int (f j))) (j := i) (by show (i < 0 ∨ (arrV _ _ _).slots.size ≤ _); rw [arrV_size]; exact Classical.byContradiction hout) (g := F0 m pc ls (.int i :: .ref a :: rest)) rfl (rest := rest) rfl (by rw [hb]; exact hdg) t
  simp only [arrV_size] at h1
  exact h1 st
theorem vx_castZ {D : va_G} {cl : List vw_C} {ws : va_W} {tys : List (ClassId × FieldType)} {a : Nat} (hexec : p.tables.exec = Jvm.exec) (hb : c.code = cc) (hK : va_K D cl tys s) (hP : va_P D cl ws H) (q0 t0 : Nat) {cA : ClassId} {n : Nat} {f : Nat → Int32} (ha : ws[q0]? = some (a, .inl (cA, n, .inl f))) (ht : tys[t0]? = some (cA, .char)) {i : Int32} {x : Int32} (hout : ¬ vp_in i n) (hdg : decode cc pc = .ok (.castore, 1))
    (k : ∀ tx : String, tx = (toString "Index " ++ toString i ++ toString " out of bounds for length " ++ toString n : String) → vx_Note p l e R s m args below meth c H locs cells slots Q (F0 m pc ls rest) "java/lang/ArrayIndexOutOfBoundsException" tx) : W p l e R s m args below meth c H locs cells slots Q (F0 m pc ls (.int x :: .int i :: .ref a :: rest)) := by
  intro T hT X
  obtain ⟨t, st, q⟩ := k _ rfl T hT X
  refine ⟨t, ?_, q⟩
  have h1 := X.castoreOut hexec (by rw [hT]; exact hP q0 _ ha) ((hK.2 t0 _ ht).1 n (fun j => .int (f j))) (j := i) (by show (i < 0 ∨ (arrV _ _ _).slots.size ≤ _); rw [arrV_size]; exact Classical.byContradiction hout) (g := F0 m pc ls (.int x :: .int i :: .ref a :: rest)) rfl (rest := rest) rfl (by rw [hb]; exact hdg) t
  simp only [arrV_size] at h1
  exact h1 st
theorem vx_saldZ {D : va_G} {cl : List vw_C} {ws : va_W} {tys : List (ClassId × FieldType)} {a : Nat} (hexec : p.tables.exec = Jvm.exec) (hb : c.code = cc) (hK : va_K D cl tys s) (hP : va_P D cl ws H) (q0 t0 : Nat) {cA : ClassId} {n : Nat} {f : Nat → Int32} (ha : ws[q0]? = some (a, .inl (cA, n, .inl f))) (ht : tys[t0]? = some (cA, .short)) {i : Int32} (hout : ¬ vp_in i n) (hdg : decode cc pc = .ok (.saload, 1))
    (k : ∀ tx : String, tx = (toString "Index " ++ toString i ++ toString " out of bounds for length " ++ toString n : String) → vx_Note p l e R s m args below meth c H locs cells slots Q (F0 m pc ls rest) "java/lang/ArrayIndexOutOfBoundsException" tx) : W p l e R s m args below meth c H locs cells slots Q (F0 m pc ls (.int i :: .ref a :: rest)) := by
  intro T hT X
  obtain ⟨t, st, q⟩ := k _ rfl T hT X
  refine ⟨t, ?_, q⟩
  have h1 := X.saloadOut hexec (by rw [hT]; exact hP q0 _ ha) ((hK.2 t0 _ ht).1 n (fun j => .int (f j))) (j := i) (by show (i < 0 ∨ (arrV _ _ _).slots.size ≤ _); rw [arrV_size]; exact Classical.byContradiction hout) (g := F0 m pc ls (.int i :: .ref a :: rest)) rfl (rest := rest) rfl (by rw [hb]; exact hdg) t
  simp only [arrV_size] at h1
  exact h1 st
theorem vx_sastZ {D : va_G} {cl : List vw_C} {ws : va_W} {tys : List (ClassId × FieldType)} {a : Nat} (hexec : p.tables.exec = Jvm.exec) (hb : c.code = cc) (hK : va_K D cl tys s) (hP : va_P D cl ws H) (q0 t0 : Nat) {cA : ClassId} {n : Nat} {f : Nat → Int32} (ha : ws[q0]? = some (a, .inl (cA, n, .inl f))) (ht : tys[t0]? = some (cA, .short)) {i : Int32} {x : Int32} (hout : ¬ vp_in i n) (hdg : decode cc pc = .ok (.sastore, 1))
    (k : ∀ tx : String, tx = (toString "Index " ++ toString i ++ toString " out of bounds for length " ++ toString n : String) → vx_Note p l e R s m args below meth c H locs cells slots Q (F0 m pc ls rest) "java/lang/ArrayIndexOutOfBoundsException" tx) : W p l e R s m args below meth c H locs cells slots Q (F0 m pc ls (.int x :: .int i :: .ref a :: rest)) := by
  intro T hT X
  obtain ⟨t, st, q⟩ := k _ rfl T hT X
  refine ⟨t, ?_, q⟩
  have h1 := X.sastoreOut hexec (by rw [hT]; exact hP q0 _ ha) ((hK.2 t0 _ ht).1 n (fun j => .int (f j))) (j := i) (by show (i < 0 ∨ (arrV _ _ _).slots.size ≤ _); rw [arrV_size]; exact Classical.byContradiction hout) (g := F0 m pc ls (.int x :: .int i :: .ref a :: rest)) rfl (rest := rest) rfl (by rw [hb]; exact hdg) t
  simp only [arrV_size] at h1
  exact h1 st
theorem vx_laldZ {D : va_G} {cl : List vw_C} {ws : va_W} {tys : List (ClassId × FieldType)} {a : Nat} (hexec : p.tables.exec = Jvm.exec) (hb : c.code = cc) (hK : va_K D cl tys s) (hP : va_P D cl ws H) (q0 t0 : Nat) {cA : ClassId} {n : Nat} {f : Nat → Int64} (ha : ws[q0]? = some (a, .inl (cA, n, .inr (.inl f)))) (ht : tys[t0]? = some (cA, .long)) {i : Int32} (hout : ¬ vp_in i n) (hdg : decode cc pc = .ok (.laload, 1))
    (k : ∀ tx : String, tx = (toString "Index " ++ toString i ++ toString " out of bounds for length " ++ toString n : String) → vx_Note p l e R s m args below meth c H locs cells slots Q (F0 m pc ls rest) "java/lang/ArrayIndexOutOfBoundsException" tx) : W p l e R s m args below meth c H locs cells slots Q (F0 m pc ls (.int i :: .ref a :: rest)) := by
  intro T hT X
  obtain ⟨t, st, q⟩ := k _ rfl T hT X
  refine ⟨t, ?_, q⟩
  have h1 := X.laloadOut hexec (by rw [hT]; exact hP q0 _ ha) ((hK.2 t0 _ ht).1 n (fun j => .long (f j))) (j := i) (by show (i < 0 ∨ (arrV _ _ _).slots.size ≤ _); rw [arrV_size]; exact Classical.byContradiction hout) (g := F0 m pc ls (.int i :: .ref a :: rest)) rfl (rest := rest) rfl (by rw [hb]; exact hdg) t
  simp only [arrV_size] at h1
  exact h1 st
theorem vx_lastZ {D : va_G} {cl : List vw_C} {ws : va_W} {tys : List (ClassId × FieldType)} {a : Nat} (hexec : p.tables.exec = Jvm.exec) (hb : c.code = cc) (hK : va_K D cl tys s) (hP : va_P D cl ws H) (q0 t0 : Nat) {cA : ClassId} {n : Nat} {f : Nat → Int64} (ha : ws[q0]? = some (a, .inl (cA, n, .inr (.inl f)))) (ht : tys[t0]? = some (cA, .long)) {i : Int32} {x : Int64} (hout : ¬ vp_in i n) (hdg : decode cc pc = .ok (.lastore, 1))
    (k : ∀ tx : String, tx = (toString "Index " ++ toString i ++ toString " out of bounds for length " ++ toString n : String) → vx_Note p l e R s m args below meth c H locs cells slots Q (F0 m pc ls rest) "java/lang/ArrayIndexOutOfBoundsException" tx) : W p l e R s m args below meth c H locs cells slots Q (F0 m pc ls (.long x :: .int i :: .ref a :: rest)) := by
  intro T hT X
  obtain ⟨t, st, q⟩ := k _ rfl T hT X
  refine ⟨t, ?_, q⟩
  have h1 := X.lastoreOut hexec (by rw [hT]; exact hP q0 _ ha) ((hK.2 t0 _ ht).1 n (fun j => .long (f j))) (j := i) (by show (i < 0 ∨ (arrV _ _ _).slots.size ≤ _); rw [arrV_size]; exact Classical.byContradiction hout) (g := F0 m pc ls (.long x :: .int i :: .ref a :: rest)) rfl (rest := rest) rfl (by rw [hb]; exact hdg) t
  simp only [arrV_size] at h1
  exact h1 st
theorem vx_faldZ {D : va_G} {cl : List vw_C} {ws : va_W} {tys : List (ClassId × FieldType)} {a : Nat} (hexec : p.tables.exec = Jvm.exec) (hb : c.code = cc) (hK : va_K D cl tys s) (hP : va_P D cl ws H) (q0 t0 : Nat) {cA : ClassId} {n : Nat} {f : Nat → UInt32} (ha : ws[q0]? = some (a, .inl (cA, n, .inr (.inr (.inl f))))) (ht : tys[t0]? = some (cA, .float)) {i : Int32} (hout : ¬ vp_in i n) (hdg : decode cc pc = .ok (.faload, 1))
    (k : ∀ tx : String, tx = (toString "Index " ++ toString i ++ toString " out of bounds for length " ++ toString n : String) → vx_Note p l e R s m args below meth c H locs cells slots Q (F0 m pc ls rest) "java/lang/ArrayIndexOutOfBoundsException" tx) : W p l e R s m args below meth c H locs cells slots Q (F0 m pc ls (.int i :: .ref a :: rest)) := by
  intro T hT X
  obtain ⟨t, st, q⟩ := k _ rfl T hT X
  refine ⟨t, ?_, q⟩
  have h1 := X.faloadOut hexec (by rw [hT]; exact hP q0 _ ha) ((hK.2 t0 _ ht).1 n (fun j => .float (f j))) (j := i) (by show (i < 0 ∨ (arrV _ _ _).slots.size ≤ _); rw [arrV_size]; exact Classical.byContradiction hout) (g := F0 m pc ls (.int i :: .ref a :: rest)) rfl (rest := rest) rfl (by rw [hb]; exact hdg) t
  simp only [arrV_size] at h1
  exact h1 st
theorem vx_fastZ {D : va_G} {cl : List vw_C} {ws : va_W} {tys : List (ClassId × FieldType)} {a : Nat} (hexec : p.tables.exec = Jvm.exec) (hb : c.code = cc) (hK : va_K D cl tys s) (hP : va_P D cl ws H) (q0 t0 : Nat) {cA : ClassId} {n : Nat} {f : Nat → UInt32} (ha : ws[q0]? = some (a, .inl (cA, n, .inr (.inr (.inl f))))) (ht : tys[t0]? = some (cA, .float)) {i : Int32} {x : UInt32} (hout : ¬ vp_in i n) (hdg : decode cc pc = .ok (.fastore, 1))
    (k : ∀ tx : String, tx = (toString "Index " ++ toString i ++ toString " out of bounds for length " ++ toString n : String) → vx_Note p l e R s m args below meth c H locs cells slots Q (F0 m pc ls rest) "java/lang/ArrayIndexOutOfBoundsException" tx) : W p l e R s m args below meth c H locs cells slots Q (F0 m pc ls (.float x :: .int i :: .ref a :: rest)) := by
  intro T hT X
  obtain ⟨t, st, q⟩ := k _ rfl T hT X
  refine ⟨t, ?_, q⟩
  have h1 := X.fastoreOut hexec (by rw [hT]; exact hP q0 _ ha) ((hK.2 t0 _ ht).1 n (fun j => .float (f j))) (j := i) (by show (i < 0 ∨ (arrV _ _ _).slots.size ≤ _); rw [arrV_size]; exact Classical.byContradiction hout) (g := F0 m pc ls (.float x :: .int i :: .ref a :: rest)) rfl (rest := rest) rfl (by rw [hb]; exact hdg) t
  simp only [arrV_size] at h1
  exact h1 st
theorem vx_daldZ {D : va_G} {cl : List vw_C} {ws : va_W} {tys : List (ClassId × FieldType)} {a : Nat} (hexec : p.tables.exec = Jvm.exec) (hb : c.code = cc) (hK : va_K D cl tys s) (hP : va_P D cl ws H) (q0 t0 : Nat) {cA : ClassId} {n : Nat} {f : Nat → UInt64} (ha : ws[q0]? = some (a, .inl (cA, n, .inr (.inr (.inr (.inl f)))))) (ht : tys[t0]? = some (cA, .double)) {i : Int32} (hout : ¬ vp_in i n) (hdg : decode cc pc = .ok (.daload, 1))
    (k : ∀ tx : String, tx = (toString "Index " ++ toString i ++ toString " out of bounds for length " ++ toString n : String) → vx_Note p l e R s m args below meth c H locs cells slots Q (F0 m pc ls rest) "java/lang/ArrayIndexOutOfBoundsException" tx) : W p l e R s m args below meth c H locs cells slots Q (F0 m pc ls (.int i :: .ref a :: rest)) := by
  intro T hT X
  obtain ⟨t, st, q⟩ := k _ rfl T hT X
  refine ⟨t, ?_, q⟩
  have h1 := X.daloadOut hexec (by rw [hT]; exact hP q0 _ ha) ((hK.2 t0 _ ht).1 n (fun j => .double (f j))) (j := i) (by show (i < 0 ∨ (arrV _ _ _).slots.size ≤ _); rw [arrV_size]; exact Classical.byContradiction hout) (g := F0 m pc ls (.int i :: .ref a :: rest)) rfl (rest := rest) rfl (by rw [hb]; exact hdg) t
  simp only [arrV_size] at h1
  exact h1 st
theorem vx_dastZ {D : va_G} {cl : List vw_C} {ws : va_W} {tys : List (ClassId × FieldType)} {a : Nat} (hexec : p.tables.exec = Jvm.exec) (hb : c.code = cc) (hK : va_K D cl tys s) (hP : va_P D cl ws H) (q0 t0 : Nat) {cA : ClassId} {n : Nat} {f : Nat → UInt64} (ha : ws[q0]? = some (a, .inl (cA, n, .inr (.inr (.inr (.inl f)))))) (ht : tys[t0]? = some (cA, .double)) {i : Int32} {x : UInt64} (hout : ¬ vp_in i n) (hdg : decode cc pc = .ok (.dastore, 1))
    (k : ∀ tx : String, tx = (toString "Index " ++ toString i ++ toString " out of bounds for length " ++ toString n : String) → vx_Note p l e R s m args below meth c H locs cells slots Q (F0 m pc ls rest) "java/lang/ArrayIndexOutOfBoundsException" tx) : W p l e R s m args below meth c H locs cells slots Q (F0 m pc ls (.double x :: .int i :: .ref a :: rest)) := by
  intro T hT X
  obtain ⟨t, st, q⟩ := k _ rfl T hT X
  refine ⟨t, ?_, q⟩
  have h1 := X.dastoreOut hexec (by rw [hT]; exact hP q0 _ ha) ((hK.2 t0 _ ht).1 n (fun j => .double (f j))) (j := i) (by show (i < 0 ∨ (arrV _ _ _).slots.size ≤ _); rw [arrV_size]; exact Classical.byContradiction hout) (g := F0 m pc ls (.double x :: .int i :: .ref a :: rest)) rfl (rest := rest) rfl (by rw [hb]; exact hdg) t
  simp only [arrV_size] at h1
  exact h1 st
theorem vx_arraylengthN (hexec : p.tables.exec = Jvm.exec) (hb : c.code = cc) (hdg : decode cc pc = .ok (.arraylength, 1)) (k : vx_NoteN p l e R s m args below meth c H locs cells slots Q (F0 m pc ls rest)) : W p l e R s m args below meth c H locs cells slots Q (F0 m pc ls (.null :: rest)) := by
  intro T hT X
  obtain ⟨t, st, q⟩ := k T hT X
  exact ⟨t, X.arraylengthNull hexec (g := F0 m pc ls (.null :: rest)) rfl (rest := rest) rfl (by rw [hb]; exact hdg) t st, q⟩
theorem vx_ialoadN (hexec : p.tables.exec = Jvm.exec) (hb : c.code = cc) {i : Int32} (hdg : decode cc pc = .ok (.iaload, 1)) (k : vx_NoteN p l e R s m args below meth c H locs cells slots Q (F0 m pc ls rest)) : W p l e R s m args below meth c H locs cells slots Q (F0 m pc ls (.int i :: .null :: rest)) := by
  intro T hT X
  obtain ⟨t, st, q⟩ := k T hT X
  exact ⟨t, X.ialoadNull hexec (g := F0 m pc ls (.int i :: .null :: rest)) rfl (rest := rest) rfl (by rw [hb]; exact hdg) t st, q⟩
theorem vx_laloadN (hexec : p.tables.exec = Jvm.exec) (hb : c.code = cc) {i : Int32} (hdg : decode cc pc = .ok (.laload, 1)) (k : vx_NoteN p l e R s m args below meth c H locs cells slots Q (F0 m pc ls rest)) : W p l e R s m args below meth c H locs cells slots Q (F0 m pc ls (.int i :: .null :: rest)) := by
  intro T hT X
  obtain ⟨t, st, q⟩ := k T hT X
  exact ⟨t, X.laloadNull hexec (g := F0 m pc ls (.int i :: .null :: rest)) rfl (rest := rest) rfl (by rw [hb]; exact hdg) t st, q⟩
theorem vx_faloadN (hexec : p.tables.exec = Jvm.exec) (hb : c.code = cc) {i : Int32} (hdg : decode cc pc = .ok (.faload, 1)) (k : vx_NoteN p l e R s m args below meth c H locs cells slots Q (F0 m pc ls rest)) : W p l e R s m args below meth c H locs cells slots Q (F0 m pc ls (.int i :: .null :: rest)) := by
  intro T hT X
  obtain ⟨t, st, q⟩ := k T hT X
  exact ⟨t, X.faloadNull hexec (g := F0 m pc ls (.int i :: .null :: rest)) rfl (rest := rest) rfl (by rw [hb]; exact hdg) t st, q⟩
theorem vx_daloadN (hexec : p.tables.exec = Jvm.exec) (hb : c.code = cc) {i : Int32} (hdg : decode cc pc = .ok (.daload, 1)) (k : vx_NoteN p l e R s m args below meth c H locs cells slots Q (F0 m pc ls rest)) : W p l e R s m args below meth c H locs cells slots Q (F0 m pc ls (.int i :: .null :: rest)) := by
  intro T hT X
  obtain ⟨t, st, q⟩ := k T hT X
  exact ⟨t, X.daloadNull hexec (g := F0 m pc ls (.int i :: .null :: rest)) rfl (rest := rest) rfl (by rw [hb]; exact hdg) t st, q⟩
theorem vx_aaloadN (hexec : p.tables.exec = Jvm.exec) (hb : c.code = cc) {i : Int32} (hdg : decode cc pc = .ok (.aaload, 1)) (k : vx_NoteN p l e R s m args below meth c H locs cells slots Q (F0 m pc ls rest)) : W p l e R s m args below meth c H locs cells slots Q (F0 m pc ls (.int i :: .null :: rest)) := by
  intro T hT X
  obtain ⟨t, st, q⟩ := k T hT X
  exact ⟨t, X.aaloadNull hexec (g := F0 m pc ls (.int i :: .null :: rest)) rfl (rest := rest) rfl (by rw [hb]; exact hdg) t st, q⟩
theorem vx_baloadN (hexec : p.tables.exec = Jvm.exec) (hb : c.code = cc) {i : Int32} (hdg : decode cc pc = .ok (.baload, 1)) (k : vx_NoteN p l e R s m args below meth c H locs cells slots Q (F0 m pc ls rest)) : W p l e R s m args below meth c H locs cells slots Q (F0 m pc ls (.int i :: .null :: rest)) := by
  intro T hT X
  obtain ⟨t, st, q⟩ := k T hT X
  exact ⟨t, X.baloadNull hexec (g := F0 m pc ls (.int i :: .null :: rest)) rfl (rest := rest) rfl (by rw [hb]; exact hdg) t st, q⟩
theorem vx_caloadN (hexec : p.tables.exec = Jvm.exec) (hb : c.code = cc) {i : Int32} (hdg : decode cc pc = .ok (.caload, 1)) (k : vx_NoteN p l e R s m args below meth c H locs cells slots Q (F0 m pc ls rest)) : W p l e R s m args below meth c H locs cells slots Q (F0 m pc ls (.int i :: .null :: rest)) := by
  intro T hT X
  obtain ⟨t, st, q⟩ := k T hT X
  exact ⟨t, X.caloadNull hexec (g := F0 m pc ls (.int i :: .null :: rest)) rfl (rest := rest) rfl (by rw [hb]; exact hdg) t st, q⟩
theorem vx_saloadN (hexec : p.tables.exec = Jvm.exec) (hb : c.code = cc) {i : Int32} (hdg : decode cc pc = .ok (.saload, 1)) (k : vx_NoteN p l e R s m args below meth c H locs cells slots Q (F0 m pc ls rest)) : W p l e R s m args below meth c H locs cells slots Q (F0 m pc ls (.int i :: .null :: rest)) := by
  intro T hT X
  obtain ⟨t, st, q⟩ := k T hT X
  exact ⟨t, X.saloadNull hexec (g := F0 m pc ls (.int i :: .null :: rest)) rfl (rest := rest) rfl (by rw [hb]; exact hdg) t st, q⟩
theorem vx_iastoreN (hexec : p.tables.exec = Jvm.exec) (hb : c.code = cc) {x : Int32} {i : Int32} (hdg : decode cc pc = .ok (.iastore, 1)) (k : vx_NoteN p l e R s m args below meth c H locs cells slots Q (F0 m pc ls rest)) : W p l e R s m args below meth c H locs cells slots Q (F0 m pc ls (.int x :: .int i :: .null :: rest)) := by
  intro T hT X
  obtain ⟨t, st, q⟩ := k T hT X
  exact ⟨t, X.iastoreNull hexec (g := F0 m pc ls (.int x :: .int i :: .null :: rest)) rfl (rest := rest) rfl (by rw [hb]; exact hdg) t st, q⟩
theorem vx_lastoreN (hexec : p.tables.exec = Jvm.exec) (hb : c.code = cc) {x : Int64} {i : Int32} (hdg : decode cc pc = .ok (.lastore, 1)) (k : vx_NoteN p l e R s m args below meth c H locs cells slots Q (F0 m pc ls rest)) : W p l e R s m args below meth c H locs cells slots Q (F0 m pc ls (.long x :: .int i :: .null :: rest)) := by
  intro T hT X
  obtain ⟨t, st, q⟩ := k T hT X
  exact ⟨t, X.lastoreNull hexec (g := F0 m pc ls (.long x :: .int i :: .null :: rest)) rfl (rest := rest) rfl (by rw [hb]; exact hdg) t st, q⟩
theorem vx_fastoreN (hexec : p.tables.exec = Jvm.exec) (hb : c.code = cc) {x : UInt32} {i : Int32} (hdg : decode cc pc = .ok (.fastore, 1)) (k : vx_NoteN p l e R s m args below meth c H locs cells slots Q (F0 m pc ls rest)) : W p l e R s m args below meth c H locs cells slots Q (F0 m pc ls (.float x :: .int i :: .null :: rest)) := by
  intro T hT X
  obtain ⟨t, st, q⟩ := k T hT X
  exact ⟨t, X.fastoreNull hexec (g := F0 m pc ls (.float x :: .int i :: .null :: rest)) rfl (rest := rest) rfl (by rw [hb]; exact hdg) t st, q⟩
theorem vx_dastoreN (hexec : p.tables.exec = Jvm.exec) (hb : c.code = cc) {x : UInt64} {i : Int32} (hdg : decode cc pc = .ok (.dastore, 1)) (k : vx_NoteN p l e R s m args below meth c H locs cells slots Q (F0 m pc ls rest)) : W p l e R s m args below meth c H locs cells slots Q (F0 m pc ls (.double x :: .int i :: .null :: rest)) := by
  intro T hT X
  obtain ⟨t, st, q⟩ := k T hT X
  exact ⟨t, X.dastoreNull hexec (g := F0 m pc ls (.double x :: .int i :: .null :: rest)) rfl (rest := rest) rfl (by rw [hb]; exact hdg) t st, q⟩
theorem vx_bastoreN (hexec : p.tables.exec = Jvm.exec) (hb : c.code = cc) {x : Int32} {i : Int32} (hdg : decode cc pc = .ok (.bastore, 1)) (k : vx_NoteN p l e R s m args below meth c H locs cells slots Q (F0 m pc ls rest)) : W p l e R s m args below meth c H locs cells slots Q (F0 m pc ls (.int x :: .int i :: .null :: rest)) := by
  intro T hT X
  obtain ⟨t, st, q⟩ := k T hT X
  exact ⟨t, X.bastoreNull hexec (g := F0 m pc ls (.int x :: .int i :: .null :: rest)) rfl (rest := rest) rfl (by rw [hb]; exact hdg) t st, q⟩
theorem vx_castoreN (hexec : p.tables.exec = Jvm.exec) (hb : c.code = cc) {x : Int32} {i : Int32} (hdg : decode cc pc = .ok (.castore, 1)) (k : vx_NoteN p l e R s m args below meth c H locs cells slots Q (F0 m pc ls rest)) : W p l e R s m args below meth c H locs cells slots Q (F0 m pc ls (.int x :: .int i :: .null :: rest)) := by
  intro T hT X
  obtain ⟨t, st, q⟩ := k T hT X
  exact ⟨t, X.castoreNull hexec (g := F0 m pc ls (.int x :: .int i :: .null :: rest)) rfl (rest := rest) rfl (by rw [hb]; exact hdg) t st, q⟩
theorem vx_sastoreN (hexec : p.tables.exec = Jvm.exec) (hb : c.code = cc) {x : Int32} {i : Int32} (hdg : decode cc pc = .ok (.sastore, 1)) (k : vx_NoteN p l e R s m args below meth c H locs cells slots Q (F0 m pc ls rest)) : W p l e R s m args below meth c H locs cells slots Q (F0 m pc ls (.int x :: .int i :: .null :: rest)) := by
  intro T hT X
  obtain ⟨t, st, q⟩ := k T hT X
  exact ⟨t, X.sastoreNull hexec (g := F0 m pc ls (.int x :: .int i :: .null :: rest)) rfl (rest := rest) rfl (by rw [hb]; exact hdg) t st, q⟩
theorem vx_invokeN {own C : String} {index maxL : Nat} {y : MethodName} {bytes : ByteArray} {ret : Option FieldType} (hexec : p.tables.exec = Jvm.exec) (hb : c.code = cc) (hown : s.vm.findClass own = some m.cls) (hlink : (Cond.methodLink own index y).before args s = true) (hinst : (Cond.instanceMethod y).before args s = true) (hcode : (Cond.code y bytes maxL ret).before args s = true) (hsel : (Cond.selects C y y).before args s = true)
    (hx : y.cls ≠ "java/lang/invoke/MethodHandle" ∧ y.cls ≠ "java/lang/invoke/VarHandle") {As : List Value} (hlen : (parseMethodDescriptor y.desc).map (fun d => d.parameters.length) = some As.length) (hdg : decode cc pc = .ok (.invokevirtual index, 3))
    (k : vx_NoteN p l e R s m args below meth c H locs cells slots Q (F0 m pc ls rest)) {st0 : List Value} (hst : st0 = As.reverse ++ .null :: rest) : W p l e R s m args below meth c H locs cells slots Q (F0 m pc ls st0) := by
  intro T hT X
  obtain ⟨r0, r, hn, hrm, hstR, hsigR⟩ := va_Decl.of hinst hcode
  obtain ⟨c2, r2, m2, q1, q2, q3, q4, kP, hkP, hkPi⟩ := Cond.selects_spec hsel
  cases hn.symm.trans q3
  have hl9 : As.length = r.sig.parameters.length := by
    rw [hsigR] at hlen
    exact (Option.some.inj hlen).symm
  obtain ⟨vm', X1, st1⟩ := X.invokevirtualNull hexec hown hlink hn hrm hstR hkP hkPi hx (g := F0 m pc ls st0) rfl (argsL := As) (rest := rest) hl9 hst (by rw [hb]; exact hdg)
  obtain ⟨t, st, q⟩ := k (T.setVm vm') hT X1
  exact ⟨t, st1 t st, q⟩
theorem vx_newarrayZ {atype : ArrayType} (hexec : p.tables.exec = Jvm.exec) (hb : c.code = cc) {n : Int32} (h0 : n < 0) (hdg : decode cc pc = .ok (.newarray atype, 2)) (k : ∀ tx : String, tx = toString n → vx_Note p l e R s m args below meth c H locs cells slots Q (F0 m pc ls rest) "java/lang/NegativeArraySizeException" tx) : W p l e R s m args below meth c H locs cells slots Q (F0 m pc ls (.int n :: rest)) := by
  intro T hT X
  obtain ⟨t, st, q⟩ := k _ rfl T hT X
  exact ⟨t, X.newarrayNegative hexec (g := F0 m pc ls (.int n :: rest)) rfl h0 (rest := rest) rfl (by rw [hb]; exact hdg) t st, q⟩
end
end VXM
/-! ===== END ===== -/
end
section
/-! ===== BEGIN printed: names, fields, word lists, decode rows ===== -/
def RX0 : String := "StampMaker$Digest"
def TX0 : u_T := fun k => match k with
  | 0 => ("StampMaker$Digest", "w", "[I", true)
  | 1 => ("StampMaker$Digest", "state", "[I", true)
  | _ => ("StampMaker$Digest", "reckoned", "Z", false)
def tyX0 : Nat → FieldType := fun k => match k with
  | 0 => .array .int
  | 1 => .array .int
  | _ => .boolean
abbrev wsX00 : List Cond := u_ws RX0 TX0 3
theorem nmX0 : ∀ a, a < 3 → ∀ b, b < 3 → a ≠ b → (TX0 a).2.1 ≠ (TX0 b).2.1 := by decide +kernel
theorem tyX0_ok : ∀ k, k < 3 → parseFieldDescriptor (TX0 k).2.2.1 = some (tyX0 k) := by decide +kernel
abbrev cX0_init : ByteArray := prog_2_method_1_code
def yX0_init : MethodName := ⟨RX0, "<init>", "()V"⟩
abbrev cX0_isReckoned : ByteArray := prog_2_method_2_code
def yX0_isReckoned : MethodName := ⟨RX0, "isReckoned", "()Z"⟩
abbrev cX0_octetAt : ByteArray := prog_2_method_3_code
def yX0_octetAt : MethodName := ⟨RX0, "octetAt", "(I)B"⟩
abbrev cX0_firstBits : ByteArray := prog_2_method_4_code
def yX0_firstBits : MethodName := ⟨RX0, "firstBits", "()I"⟩
abbrev cX0_reckon : ByteArray := prog_2_method_5_code
def yX0_reckon : MethodName := ⟨RX0, "reckon", "(LStampMaker$Key;J)V"⟩
abbrev cX0_numberOf : ByteArray := prog_2_method_6_code
def yX0_numberOf : MethodName := ⟨RX0, "numberOf", "(LStampMaker$Key;JI)I"⟩
abbrev cX0_blockByte : ByteArray := prog_2_method_7_code
def yX0_blockByte : MethodName := ⟨RX0, "blockByte", "(LStampMaker$Key;JI)I"⟩
abbrev cX0_stretch : ByteArray := prog_2_method_8_code
def yX0_stretch : MethodName := ⟨RX0, "stretch", "()V"⟩
abbrev cX0_mix : ByteArray := prog_2_method_9_code
def yX0_mix : MethodName := ⟨RX0, "mix", "()V"⟩
abbrev cX0_ror : ByteArray := prog_2_method_10_code
def yX0_ror : MethodName := ⟨RX0, "ror", "(II)I"⟩
def RX1 : String := "StampMaker$Fields"
def TX1 : u_T := fun k => match k with
  | _ => ("", "", "", false)
def tyX1 : Nat → FieldType := fun k => match k with
  | _ => .int
abbrev wsX10 : List Cond := u_ws RX1 TX1 0
theorem nmX1 : ∀ a, a < 0 → ∀ b, b < 0 → a ≠ b → (TX1 a).2.1 ≠ (TX1 b).2.1 := by decide +kernel
theorem tyX1_ok : ∀ k, k < 0 → parseFieldDescriptor (TX1 k).2.2.1 = some (tyX1 k) := by decide +kernel
abbrev cX1_joined : ByteArray := prog_3_method_2_code
def yX1_joined : MethodName := ⟨RX1, "joined", "(IIIII)J"⟩
abbrev cX1_keyOf : ByteArray := prog_3_method_3_code
def yX1_keyOf : MethodName := ⟨RX1, "keyOf", "(J)I"⟩
abbrev cX1_kindOf : ByteArray := prog_3_method_4_code
def yX1_kindOf : MethodName := ⟨RX1, "kindOf", "(J)I"⟩
abbrev cX1_valueOf : ByteArray := prog_3_method_5_code
def yX1_valueOf : MethodName := ⟨RX1, "valueOf", "(J)I"⟩
abbrev cX1_dayOf : ByteArray := prog_3_method_6_code
def yX1_dayOf : MethodName := ⟨RX1, "dayOf", "(J)I"⟩
abbrev cX1_serialOf : ByteArray := prog_3_method_7_code
def yX1_serialOf : MethodName := ⟨RX1, "serialOf", "(J)I"⟩
def RX2 : String := "StampMaker$Key"
def TX2 : u_T := fun k => match k with
  | 0 => ("StampMaker$Key", "from", "I", true)
  | 1 => ("StampMaker$Key", "until", "I", true)
  | 2 => ("StampMaker$Key", "bytes", "[B", true)
  | 3 => ("StampMaker$Key", "count", "I", false)
  | _ => ("StampMaker$Key", "closed", "Z", false)
def tyX2 : Nat → FieldType := fun k => match k with
  | 0 => .int
  | 1 => .int
  | 2 => .array .byte
  | 3 => .int
  | _ => .boolean
abbrev wsX20 : List Cond := u_ws RX2 TX2 5
theorem nmX2 : ∀ a, a < 5 → ∀ b, b < 5 → a ≠ b → (TX2 a).2.1 ≠ (TX2 b).2.1 := by decide +kernel
theorem tyX2_ok : ∀ k, k < 5 → parseFieldDescriptor (TX2 k).2.2.1 = some (tyX2 k) := by decide +kernel
abbrev cX2_init : ByteArray := prog_4_method_1_code
def yX2_init : MethodName := ⟨RX2, "<init>", "(II)V"⟩
abbrev cX2_holdsOn : ByteArray := prog_4_method_2_code
def yX2_holdsOn : MethodName := ⟨RX2, "holdsOn", "(J)Z"⟩
abbrev cX2_take : ByteArray := prog_4_method_3_code
def yX2_take : MethodName := ⟨RX2, "take", "(B)V"⟩
abbrev cX2_close : ByteArray := prog_4_method_4_code
def yX2_close : MethodName := ⟨RX2, "close", "()V"⟩
abbrev cX2_size : ByteArray := prog_4_method_5_code
def yX2_size : MethodName := ⟨RX2, "size", "()I"⟩
abbrev cX2_octetAt : ByteArray := prog_4_method_6_code
def yX2_octetAt : MethodName := ⟨RX2, "octetAt", "(I)I"⟩
def RX3 : String := "StampMaker$Ledger"
def TX3 : u_T := fun k => match k with
  | 0 => ("StampMaker$Ledger", "fates", "[B", true)
  | 1 => ("StampMaker$Ledger", "days", "[I", true)
  | _ => ("StampMaker$Ledger", "checks", "[I", true)
def tyX3 : Nat → FieldType := fun k => match k with
  | 0 => .array .byte
  | 1 => .array .int
  | _ => .array .int
abbrev wsX30 : List Cond := u_ws RX3 TX3 3
theorem nmX3 : ∀ a, a < 3 → ∀ b, b < 3 → a ≠ b → (TX3 a).2.1 ≠ (TX3 b).2.1 := by decide +kernel
theorem tyX3_ok : ∀ k, k < 3 → parseFieldDescriptor (TX3 k).2.2.1 = some (tyX3 k) := by decide +kernel
abbrev cX3_init : ByteArray := prog_5_method_1_code
def yX3_init : MethodName := ⟨RX3, "<init>", "()V"⟩
abbrev cX3_isSerial : ByteArray := prog_5_method_2_code
def yX3_isSerial : MethodName := ⟨RX3, "isSerial", "(J)Z"⟩
abbrev cX3_fateOf : ByteArray := prog_5_method_3_code
def yX3_fateOf : MethodName := ⟨RX3, "fateOf", "(J)I"⟩
abbrev cX3_dayOf : ByteArray := prog_5_method_4_code
def yX3_dayOf : MethodName := ⟨RX3, "dayOf", "(I)I"⟩
abbrev cX3_checkOf : ByteArray := prog_5_method_5_code
def yX3_checkOf : MethodName := ⟨RX3, "checkOf", "(I)I"⟩
abbrev cX3_spend : ByteArray := prog_5_method_6_code
def yX3_spend : MethodName := ⟨RX3, "spend", "(III)V"⟩
abbrev cX3_giveBack : ByteArray := prog_5_method_7_code
def yX3_giveBack : MethodName := ⟨RX3, "giveBack", "(I)V"⟩
def RX4 : String := "StampMaker"
def TX4 : u_T := fun k => match k with
  | 0 => ("StampMaker", "keys", "[LStampMaker$Key;", true)
  | 1 => ("StampMaker", "keyCount", "I", false)
  | 2 => ("StampMaker", "made", "I", false)
  | 3 => ("StampMaker", "latestLetters", "[I", true)
  | 4 => ("StampMaker", "typed", "[I", true)
  | 5 => ("StampMaker", "typedCount", "I", false)
  | 6 => ("StampMaker", "checkCount", "I", false)
  | 7 => ("StampMaker", "latestSpent", "I", false)
  | 8 => ("StampMaker", "ledger", "LStampMaker$Ledger;", true)
  | _ => ("StampMaker", "latestDigest", "LStampMaker$Digest;", true)
def tyX4 : Nat → FieldType := fun k => match k with
  | 0 => .array (.object "StampMaker$Key")
  | 1 => .int
  | 2 => .int
  | 3 => .array .int
  | 4 => .array .int
  | 5 => .int
  | 6 => .int
  | 7 => .int
  | 8 => .object "StampMaker$Ledger"
  | _ => .object "StampMaker$Digest"
abbrev wsX40 : List Cond := u_ws RX4 TX4 10
theorem nmX4 : ∀ a, a < 10 → ∀ b, b < 10 → a ≠ b → (TX4 a).2.1 ≠ (TX4 b).2.1 := by decide +kernel
theorem tyX4_ok : ∀ k, k < 10 → parseFieldDescriptor (TX4 k).2.2.1 = some (tyX4 k) := by decide +kernel
abbrev cX4_init : ByteArray := prog_1_method_1_code
def yX4_init : MethodName := ⟨RX4, "<init>", "()V"⟩
abbrev cX4_key : ByteArray := prog_1_method_2_code
def yX4_key : MethodName := ⟨RX4, "key", "(JJ)I"⟩
abbrev cX4_octet : ByteArray := prog_1_method_3_code
def yX4_octet : MethodName := ⟨RX4, "octet", "(IB)V"⟩
abbrev cX4_make : ByteArray := prog_1_method_4_code
def yX4_make : MethodName := ⟨RX4, "make", "(IIIJ)I"⟩
abbrev cX4_letter : ByteArray := prog_1_method_5_code
def yX4_letter : MethodName := ⟨RX4, "letter", "(I)I"⟩
abbrev cX4_type : ByteArray := prog_1_method_6_code
def yX4_type : MethodName := ⟨RX4, "type", "(I)V"⟩
abbrev cX4_check : ByteArray := prog_1_method_7_code
def yX4_check : MethodName := ⟨RX4, "check", "(J)I"⟩
abbrev cX4_first : ByteArray := prog_1_method_8_code
def yX4_first : MethodName := ⟨RX4, "first", "(I)I"⟩
abbrev cX4_refund : ByteArray := prog_1_method_9_code
def yX4_refund : MethodName := ⟨RX4, "refund", "(J)I"⟩
abbrev cX4_digest : ByteArray := prog_1_method_10_code
def yX4_digest : MethodName := ⟨RX4, "digest", "(I)B"⟩
abbrev cX4_spent : ByteArray := prog_1_method_11_code
def yX4_spent : MethodName := ⟨RX4, "spent", "(J)I"⟩
abbrev cX4_serial : ByteArray := prog_1_method_12_code
def yX4_serial : MethodName := ⟨RX4, "serial", "()J"⟩
abbrev cX4_keyNumbered : ByteArray := prog_1_method_13_code
def yX4_keyNumbered : MethodName := ⟨RX4, "keyNumbered", "(I)LStampMaker$Key;"⟩
abbrev cX4_isDay : ByteArray := prog_1_method_14_code
def yX4_isDay : MethodName := ⟨RX4, "isDay", "(J)Z"⟩
abbrev cX4_isValue : ByteArray := prog_1_method_15_code
def yX4_isValue : MethodName := ⟨RX4, "isValue", "(I)Z"⟩
abbrev cX4_isKind : ByteArray := prog_1_method_16_code
def yX4_isKind : MethodName := ⟨RX4, "isKind", "(I)Z"⟩
abbrev cX4_writeLetters : ByteArray := prog_1_method_17_code
def yX4_writeLetters : MethodName := ⟨RX4, "writeLetters", "(JI)V"⟩
abbrev cX4_letterFor : ByteArray := prog_1_method_18_code
def yX4_letterFor : MethodName := ⟨RX4, "letterFor", "(I)I"⟩
abbrev cX4_typedBits : ByteArray := prog_1_method_19_code
def yX4_typedBits : MethodName := ⟨RX4, "typedBits", "(II)J"⟩
abbrev cX4_worthOf : ByteArray := prog_1_method_20_code
def yX4_worthOf : MethodName := ⟨RX4, "worthOf", "(I)I"⟩
abbrev cX4_reasonAgainst : ByteArray := prog_1_method_21_code
def yX4_reasonAgainst : MethodName := ⟨RX4, "reasonAgainst", "(JJI)I"⟩
abbrev cX4_accepted : ByteArray := prog_1_method_22_code
def yX4_accepted : MethodName := ⟨RX4, "accepted", "(II)I"⟩
def RX5 : String := "StampMakerModel"
def TX5 : u_T := fun k => match k with
  | 0 => ("StampMakerModel", "thrown", "I", false)
  | 1 => ("StampMakerModel", "keys", "I", false)
  | 2 => ("StampMakerModel", "from", "[I", true)
  | 3 => ("StampMakerModel", "until", "[I", true)
  | 4 => ("StampMakerModel", "sizes", "[I", true)
  | 5 => ("StampMakerModel", "used", "[Z", true)
  | 6 => ("StampMakerModel", "secret", "[B", true)
  | 7 => ("StampMakerModel", "serial", "I", false)
  | 8 => ("StampMakerModel", "has", "Z", false)
  | 9 => ("StampMakerModel", "letters", "[I", true)
  | 10 => ("StampMakerModel", "typed", "I", false)
  | 11 => ("StampMakerModel", "signs", "[I", true)
  | 12 => ("StampMakerModel", "checks", "I", false)
  | 13 => ("StampMakerModel", "became", "[B", true)
  | 14 => ("StampMakerModel", "spentDay", "[I", true)
  | 15 => ("StampMakerModel", "spentBy", "[I", true)
  | 16 => ("StampMakerModel", "told", "I", false)
  | 17 => ("StampMakerModel", "reckoned", "Z", false)
  | 18 => ("StampMakerModel", "digest", "[B", true)
  | 19 => ("StampMakerModel", "w", "[I", true)
  | 20 => ("StampMakerModel", "state", "[I", true)
  | 21 => ("StampMakerModel", "roots", "[I", true)
  | _ => ("StampMakerModel", "begins", "[I", true)
def tyX5 : Nat → FieldType := fun k => match k with
  | 0 => .int
  | 1 => .int
  | 2 => .array .int
  | 3 => .array .int
  | 4 => .array .int
  | 5 => .array .boolean
  | 6 => .array .byte
  | 7 => .int
  | 8 => .boolean
  | 9 => .array .int
  | 10 => .int
  | 11 => .array .int
  | 12 => .int
  | 13 => .array .byte
  | 14 => .array .int
  | 15 => .array .int
  | 16 => .int
  | 17 => .boolean
  | 18 => .array .byte
  | 19 => .array .int
  | 20 => .array .int
  | 21 => .array .int
  | _ => .array .int
abbrev wsX50 : List Cond := u_ws RX5 TX5 23
theorem nmX5 : ∀ a, a < 23 → ∀ b, b < 23 → a ≠ b → (TX5 a).2.1 ≠ (TX5 b).2.1 := by decide +kernel
theorem tyX5_ok : ∀ k, k < 23 → parseFieldDescriptor (TX5 k).2.2.1 = some (tyX5 k) := by decide +kernel
abbrev cX5_init : ByteArray := prog_7_method_1_code
def yX5_init : MethodName := ⟨RX5, "<init>", "()V"⟩
abbrev cX5_thrown : ByteArray := prog_7_method_2_code
def yX5_thrown : MethodName := ⟨RX5, "thrown", "()I"⟩
abbrev cX5_within : ByteArray := prog_7_method_3_code
def yX5_within : MethodName := ⟨RX5, "within", "(JJJ)Z"⟩
abbrev cX5_isKey : ByteArray := prog_7_method_4_code
def yX5_isKey : MethodName := ⟨RX5, "isKey", "(I)Z"⟩
abbrev cX5_key : ByteArray := prog_7_method_5_code
def yX5_key : MethodName := ⟨RX5, "key", "(JJ)I"⟩
abbrev cX5_octet : ByteArray := prog_7_method_6_code
def yX5_octet : MethodName := ⟨RX5, "octet", "(IB)V"⟩
abbrev cX5_turn : ByteArray := prog_7_method_7_code
def yX5_turn : MethodName := ⟨RX5, "turn", "(II)I"⟩
abbrev cX5_bitAt : ByteArray := prog_7_method_8_code
def yX5_bitAt : MethodName := ⟨RX5, "bitAt", "(IJI)I"⟩
abbrev cX5_reckon : ByteArray := prog_7_method_9_code
def yX5_reckon : MethodName := ⟨RX5, "reckon", "(IJ)V"⟩
abbrev cX5_five : ByteArray := prog_7_method_10_code
def yX5_five : MethodName := ⟨RX5, "five", "(I)I"⟩
abbrev cX5_sign : ByteArray := prog_7_method_11_code
def yX5_sign : MethodName := ⟨RX5, "sign", "(I)I"⟩
abbrev cX5_valueOf : ByteArray := prog_7_method_12_code
def yX5_valueOf : MethodName := ⟨RX5, "valueOf", "(I)I"⟩
abbrev cX5_make : ByteArray := prog_7_method_13_code
def yX5_make : MethodName := ⟨RX5, "make", "(IIIJ)I"⟩
abbrev cX5_letter : ByteArray := prog_7_method_14_code
def yX5_letter : MethodName := ⟨RX5, "letter", "(I)I"⟩
abbrev cX5_type : ByteArray := prog_7_method_15_code
def yX5_type : MethodName := ⟨RX5, "type", "(I)V"⟩
abbrev cX5_check : ByteArray := prog_7_method_16_code
def yX5_check : MethodName := ⟨RX5, "check", "(J)I"⟩
abbrev cX5_reasonOf : ByteArray := prog_7_method_17_code
def yX5_reasonOf : MethodName := ⟨RX5, "reasonOf", "(I)I"⟩
abbrev cX5_first : ByteArray := prog_7_method_18_code
def yX5_first : MethodName := ⟨RX5, "first", "(I)I"⟩
abbrev cX5_refund : ByteArray := prog_7_method_19_code
def yX5_refund : MethodName := ⟨RX5, "refund", "(J)I"⟩
abbrev cX5_digest : ByteArray := prog_7_method_20_code
def yX5_digest : MethodName := ⟨RX5, "digest", "(I)B"⟩
abbrev cX5_spent : ByteArray := prog_7_method_21_code
def yX5_spent : MethodName := ⟨RX5, "spent", "(J)I"⟩
abbrev cX5_serial : ByteArray := prog_7_method_22_code
def yX5_serial : MethodName := ⟨RX5, "serial", "()J"⟩
def RJx00060 : String := "java/lang/ArrayIndexOutOfBoundsException"
def TJx00060 : u_T := fun k => match k with
  | 0 => ("java/lang/Throwable", "backtrace", "Ljava/lang/Object;", false)
  | 1 => ("java/lang/Throwable", "detailMessage", "Ljava/lang/String;", false)
  | 2 => ("java/lang/Throwable", "cause", "Ljava/lang/Throwable;", false)
  | 3 => ("java/lang/Throwable", "stackTrace", "[Ljava/lang/StackTraceElement;", false)
  | 4 => ("java/lang/Throwable", "depth", "I", false)
  | _ => ("java/lang/Throwable", "suppressedExceptions", "Ljava/util/List;", false)
def tyJx00060 : Nat → FieldType := fun k => match k with
  | 0 => .object "java/lang/Object"
  | 1 => .object "java/lang/String"
  | 2 => .object "java/lang/Throwable"
  | 3 => .array (.object "java/lang/StackTraceElement")
  | 4 => .int
  | _ => .object "java/util/List"
abbrev wsJx000600 : List Cond := u_ws RJx00060 TJx00060 6
theorem nmJx00060 : ∀ a, a < 6 → ∀ b, b < 6 → a ≠ b → (TJx00060 a).2.1 ≠ (TJx00060 b).2.1 := by decide +kernel
theorem tyJx00060_ok : ∀ k, k < 6 → parseFieldDescriptor (TJx00060 k).2.2.1 = some (tyJx00060 k) := by decide +kernel
abbrev cJx00060_init_da8c8 : ByteArray := prog_8_method_1_code
def yJx00060_init_da8c8 : MethodName := ⟨RJx00060, "<init>", "()V"⟩
abbrev cJx00060_init_a7421 : ByteArray := prog_8_method_2_code
def yJx00060_init_a7421 : MethodName := ⟨RJx00060, "<init>", "(Ljava/lang/String;)V"⟩
def RJ0 : String := "java/lang/String"
def TJ0 : u_T := fun k => match k with
  | 0 => ("java/lang/String", "value", "[B", true)
  | _ => ("java/lang/String", "coder", "B", true)
def tyJ0 : Nat → FieldType := fun k => match k with
  | 0 => .array .byte
  | _ => .byte
abbrev wsJ00 : List Cond := u_ws RJ0 TJ0 2
theorem nmJ0 : ∀ a, a < 2 → ∀ b, b < 2 → a ≠ b → (TJ0 a).2.1 ≠ (TJ0 b).2.1 := by decide +kernel
theorem tyJ0_ok : ∀ k, k < 2 → parseFieldDescriptor (TJ0 k).2.2.1 = some (tyJ0 k) := by decide +kernel
abbrev cJ0_length_8abf5 : ByteArray := prog_12_method_54_code
def yJ0_length_8abf5 : MethodName := ⟨RJ0, "length", "()I"⟩
abbrev cJ0_charAt_5068e : ByteArray := prog_12_method_56_code
def yJ0_charAt_5068e : MethodName := ⟨RJ0, "charAt", "(I)C"⟩
abbrev cJ0_coder_7d493 : ByteArray := prog_12_method_152_code
def yJ0_coder_7d493 : MethodName := ⟨RJ0, "coder", "()B"⟩
abbrev cJ0_isLatin1_aae02 : ByteArray := prog_12_method_154_code
def yJ0_isLatin1_aae02 : MethodName := ⟨RJ0, "isLatin1", "()Z"⟩
abbrev cJ0_checkIndex_df160 : ByteArray := prog_12_method_155_code
def yJ0_checkIndex_df160 : MethodName := ⟨RJ0, "checkIndex", "(II)V"⟩
def RJ1 : String := "java/lang/StringLatin1"
def TJ1 : u_T := fun k => match k with
  | _ => ("", "", "", false)
def tyJ1 : Nat → FieldType := fun k => match k with
  | _ => .int
abbrev wsJ10 : List Cond := u_ws RJ1 TJ1 0
theorem nmJ1 : ∀ a, a < 0 → ∀ b, b < 0 → a ≠ b → (TJ1 a).2.1 ≠ (TJ1 b).2.1 := by decide +kernel
theorem tyJ1_ok : ∀ k, k < 0 → parseFieldDescriptor (TJ1 k).2.2.1 = some (tyJ1 k) := by decide +kernel
abbrev cJ1_charAt_3b067 : ByteArray := prog_13_method_2_code
def yJ1_charAt_3b067 : MethodName := ⟨RJ1, "charAt", "([BI)C"⟩
def RJ2 : String := "java/lang/StringUTF16"
def TJ2 : u_T := fun k => match k with
  | _ => ("", "", "", false)
def tyJ2 : Nat → FieldType := fun k => match k with
  | _ => .int
abbrev wsJ20 : List Cond := u_ws RJ2 TJ2 0
theorem nmJ2 : ∀ a, a < 0 → ∀ b, b < 0 → a ≠ b → (TJ2 a).2.1 ≠ (TJ2 b).2.1 := by decide +kernel
theorem tyJ2_ok : ∀ k, k < 0 → parseFieldDescriptor (TJ2 k).2.2.1 = some (tyJ2 k) := by decide +kernel
abbrev cJ2_getChar_3b067 : ByteArray := prog_14_method_5_code
def yJ2_getChar_3b067 : MethodName := ⟨RJ2, "getChar", "([BI)C"⟩
abbrev cJ2_length_9d52b : ByteArray := prog_14_method_6_code
def yJ2_length_9d52b : MethodName := ⟨RJ2, "length", "([B)I"⟩
abbrev cJ2_charAt_3b067 : ByteArray := prog_14_method_83_code
def yJ2_charAt_3b067 : MethodName := ⟨RJ2, "charAt", "([BI)C"⟩
abbrev cJ2_checkIndex_2214a : ByteArray := prog_14_method_91_code
def yJ2_checkIndex_2214a : MethodName := ⟨RJ2, "checkIndex", "(I[B)V"⟩
def RJ3 : String := "jdk/internal/util/Preconditions"
def TJ3 : u_T := fun k => match k with
  | _ => ("", "", "", false)
def tyJ3 : Nat → FieldType := fun k => match k with
  | _ => .int
abbrev wsJ30 : List Cond := u_ws RJ3 TJ3 0
theorem nmJ3 : ∀ a, a < 0 → ∀ b, b < 0 → a ≠ b → (TJ3 a).2.1 ≠ (TJ3 b).2.1 := by decide +kernel
theorem tyJ3_ok : ∀ k, k < 0 → parseFieldDescriptor (TJ3 k).2.2.1 = some (tyJ3 k) := by decide +kernel
abbrev cJ3_checkIndex_8e157 : ByteArray := prog_16_method_11_code
def yJ3_checkIndex_8e157 : MethodName := ⟨RJ3, "checkIndex", "(IILjava/util/function/BiFunction;)I"⟩
def RL : String := "StampMakerLaw"
abbrev cL_digest : ByteArray := method_3_code
def yL_digest : MethodName := ⟨RL, "digest", "(LStampMaker;I[J)I"⟩
abbrev cL_law : ByteArray := code
def yL_law : MethodName := ⟨RL, "law", "([I)Z"⟩
def wsX0_init : List Cond := .code yX0_init cX0_init 1 none :: ([.methodLink RX0 1 objectInit, .instanceMethod objectInit, .code objectInit ⟨#[0xb1]⟩ 1 none, .arrayClass .int, .fieldLink RX0 9 "StampMaker$Digest" "w" "[I", .fieldLink RX0 13 "StampMaker$Digest" "state" "[I"] ++ wsX00)
def wsX0_isReckoned : List Cond := .code yX0_isReckoned cX0_isReckoned 1 (some .boolean) :: ([.fieldLink RX0 16 "StampMaker$Digest" "reckoned" "Z"] ++ wsX00)
def wsX0_octetAt : List Cond := .code yX0_octetAt cX0_octetAt 2 (some .byte) :: ([.fieldLink RX0 13 "StampMaker$Digest" "state" "[I"] ++ wsX00 ++ (vx_atM "java/lang/ArrayIndexOutOfBoundsException" ["java/lang/IndexOutOfBoundsException", "java/lang/RuntimeException", "java/lang/Exception"]).filter goodWord)
def wsX0_firstBits : List Cond := .code yX0_firstBits cX0_firstBits 1 (some .int) :: ([.fieldLink RX0 13 "StampMaker$Digest" "state" "[I"] ++ wsX00 ++ (vx_atM "java/lang/ArrayIndexOutOfBoundsException" ["java/lang/IndexOutOfBoundsException", "java/lang/RuntimeException", "java/lang/Exception"]).filter goodWord)
def wsX2_size : List Cond := .code yX2_size cX2_size 1 (some .int) :: ([.fieldLink RX2 24 "StampMaker$Key" "count" "I"] ++ wsX20)
def wsX2_octetAt : List Cond := .code yX2_octetAt cX2_octetAt 2 (some .int) :: ([.fieldLink RX2 9 "StampMaker$Key" "bytes" "[B"] ++ wsX20 ++ (vx_atM "java/lang/ArrayIndexOutOfBoundsException" ["java/lang/IndexOutOfBoundsException", "java/lang/RuntimeException", "java/lang/Exception"]).filter goodWord)
def wsX0_blockByte : List Cond := .code yX0_blockByte cX0_blockByte 5 (some .int) :: ([.methodLink RX0 24 yX2_size, .instanceMethod yX2_size, .selects RX2 yX2_size yX2_size, .initialized RX2, .code yX2_size cX2_size 1 (some .int), .fieldLink RX2 24 "StampMaker$Key" "count" "I", .methodLink RX0 42 yX2_octetAt, .instanceMethod yX2_octetAt, .selects RX2 yX2_octetAt yX2_octetAt, .code yX2_octetAt cX2_octetAt 2 (some .int), .fieldLink RX2 9 "StampMaker$Key" "bytes" "[B"] ++ wsX20 ++ (vx_atM "java/lang/ArrayIndexOutOfBoundsException" ["java/lang/IndexOutOfBoundsException", "java/lang/RuntimeException", "java/lang/Exception"]).filter goodWord)
def wsX0_numberOf : List Cond := .code yX0_numberOf cX0_numberOf 6 (some .int) :: ([.methodLink RX0 39 yX0_blockByte, .static yX0_blockByte, .initialized RX0, .code yX0_blockByte cX0_blockByte 5 (some .int), .methodLink RX0 24 yX2_size, .instanceMethod yX2_size, .selects RX2 yX2_size yX2_size, .initialized RX2, .code yX2_size cX2_size 1 (some .int), .fieldLink RX2 24 "StampMaker$Key" "count" "I", .methodLink RX0 42 yX2_octetAt, .instanceMethod yX2_octetAt, .selects RX2 yX2_octetAt yX2_octetAt, .code yX2_octetAt cX2_octetAt 2 (some .int), .fieldLink RX2 9 "StampMaker$Key" "bytes" "[B"] ++ wsX20 ++ (vx_atM "java/lang/ArrayIndexOutOfBoundsException" ["java/lang/IndexOutOfBoundsException", "java/lang/RuntimeException", "java/lang/Exception"]).filter goodWord)
def wsX0_ror : List Cond := .code yX0_ror cX0_ror 2 (some .int) :: ([])
def wsX0_stretch : List Cond := .code yX0_stretch cX0_stretch 6 none :: ([.fieldLink RX0 9 "StampMaker$Digest" "w" "[I", .methodLink RX0 46 yX0_ror, .static yX0_ror, .initialized RX0, .code yX0_ror cX0_ror 2 (some .int)] ++ wsX00 ++ (vx_atM "java/lang/ArrayIndexOutOfBoundsException" ["java/lang/IndexOutOfBoundsException", "java/lang/RuntimeException", "java/lang/Exception"]).filter goodWord)
def wsX0_mix : List Cond := .code yX0_mix cX0_mix 12 none :: ([.fieldLink RX0 13 "StampMaker$Digest" "state" "[I", .fieldLink RX0 50 "StampMaker$Digest" "ROUND_NUMBERS" "[I", .fieldLink RX0 9 "StampMaker$Digest" "w" "[I", .methodLink RX0 46 yX0_ror, .static yX0_ror, .initialized RX0, .code yX0_ror cX0_ror 2 (some .int)] ++ wsX00 ++ (vx_atM "java/lang/ArrayIndexOutOfBoundsException" ["java/lang/IndexOutOfBoundsException", "java/lang/RuntimeException", "java/lang/Exception"]).filter goodWord)
def wsX0_reckon_r1 : List Cond := [Cond.fieldLink RX0 9 "StampMaker$Digest" "w" "[I", Cond.fieldLink RX0 13 "StampMaker$Digest" "state" "[I", Cond.fieldLink RX0 33 "StampMaker$Digest" "START" "[I", Cond.fieldLink RX0 16 "StampMaker$Digest" "reckoned" "Z", Cond.methodLink RX0 20 yX0_numberOf, Cond.static yX0_numberOf, Cond.initialized RX0, Cond.code yX0_numberOf cX0_numberOf 6 (some .int), Cond.methodLink RX0 39 yX0_blockByte, Cond.static yX0_blockByte, Cond.code yX0_blockByte cX0_blockByte 5 (some .int), Cond.methodLink RX0 24 yX2_size, Cond.instanceMethod yX2_size, Cond.selects RX2 yX2_size yX2_size, Cond.initialized RX2, Cond.code yX2_size cX2_size 1 (some .int), Cond.fieldLink RX2 24 "StampMaker$Key" "count" "I", Cond.methodLink RX0 42 yX2_octetAt, Cond.instanceMethod yX2_octetAt, Cond.selects RX2 yX2_octetAt yX2_octetAt, Cond.code yX2_octetAt cX2_octetAt 2 (some .int), Cond.fieldLink RX2 9 "StampMaker$Key" "bytes" "[B", Cond.methodLink RX0 30 yX0_stretch, Cond.instanceMethod yX0_stretch]
def wsX0_reckon_r2 : List Cond := [Cond.selects RX0 yX0_stretch yX0_stretch, Cond.code yX0_stretch cX0_stretch 6 none, Cond.methodLink RX0 46 yX0_ror, Cond.static yX0_ror, Cond.code yX0_ror cX0_ror 2 (some .int), Cond.methodLink RX0 36 yX0_mix, Cond.instanceMethod yX0_mix, Cond.selects RX0 yX0_mix yX0_mix, Cond.code yX0_mix cX0_mix 12 none, Cond.fieldLink RX0 50 "StampMaker$Digest" "ROUND_NUMBERS" "[I"]
def wsX0_reckon : List Cond := .code yX0_reckon cX0_reckon 5 none :: ((wsX0_reckon_r1 ++ wsX0_reckon_r2) ++ wsX00 ++ wsX20 ++ (vx_atM "java/lang/ArrayIndexOutOfBoundsException" ["java/lang/IndexOutOfBoundsException", "java/lang/RuntimeException", "java/lang/Exception"]).filter goodWord)
def wsX1_joined : List Cond := .code yX1_joined cX1_joined 5 (some .long) :: ([])
def wsX1_keyOf : List Cond := .code yX1_keyOf cX1_keyOf 2 (some .int) :: ([])
def wsX1_kindOf : List Cond := .code yX1_kindOf cX1_kindOf 2 (some .int) :: ([])
def wsX1_valueOf : List Cond := .code yX1_valueOf cX1_valueOf 2 (some .int) :: ([.constant RX1 7 (131071)])
def wsX1_dayOf : List Cond := .code yX1_dayOf cX1_dayOf 2 (some .int) :: ([.constant RX1 8 (65535)])
def wsX1_serialOf : List Cond := .code yX1_serialOf cX1_serialOf 2 (some .int) :: ([])
def wsX2_init : List Cond := .code yX2_init cX2_init 3 none :: ([.methodLink RX2 1 objectInit, .instanceMethod objectInit, .code objectInit ⟨#[0xb1]⟩ 1 none, .arrayClass .byte, .fieldLink RX2 9 "StampMaker$Key" "bytes" "[B", .fieldLink RX2 13 "StampMaker$Key" "from" "I", .fieldLink RX2 17 "StampMaker$Key" "until" "I"] ++ wsX20)
def wsX2_holdsOn : List Cond := .code yX2_holdsOn cX2_holdsOn 3 (some .boolean) :: ([.fieldLink RX2 13 "StampMaker$Key" "from" "I", .fieldLink RX2 17 "StampMaker$Key" "until" "I"] ++ wsX20)
def wsX2_take : List Cond := .code yX2_take cX2_take 2 none :: ([.fieldLink RX2 20 "StampMaker$Key" "closed" "Z", .fieldLink RX2 24 "StampMaker$Key" "count" "I", .fieldLink RX2 9 "StampMaker$Key" "bytes" "[B"] ++ wsX20 ++ (vx_atM "java/lang/ArrayIndexOutOfBoundsException" ["java/lang/IndexOutOfBoundsException", "java/lang/RuntimeException", "java/lang/Exception"]).filter goodWord)
def wsX2_close : List Cond := .code yX2_close cX2_close 1 none :: ([.fieldLink RX2 20 "StampMaker$Key" "closed" "Z"] ++ wsX20)
def wsX3_init : List Cond := .code yX3_init cX3_init 1 none :: ([.methodLink RX3 3 objectInit, .instanceMethod objectInit, .code objectInit ⟨#[0xb1]⟩ 1 none, .arrayClass .byte, .fieldLink RX3 9 "StampMaker$Ledger" "fates" "[B", .arrayClass .int, .fieldLink RX3 15 "StampMaker$Ledger" "days" "[I", .fieldLink RX3 19 "StampMaker$Ledger" "checks" "[I"] ++ wsX30)
def wsX3_isSerial : List Cond := .code yX3_isSerial cX3_isSerial 2 (some .boolean) :: ([.constantLong RX3 22 (16384)])
def wsX3_fateOf : List Cond := .code yX3_fateOf cX3_fateOf 3 (some .int) :: ([.fieldLink RX3 9 "StampMaker$Ledger" "fates" "[B", .methodLink RX3 24 yX3_isSerial, .static yX3_isSerial, .initialized RX3, .code yX3_isSerial cX3_isSerial 2 (some .boolean), .constantLong RX3 22 (16384)] ++ wsX30 ++ (vx_atM "java/lang/ArrayIndexOutOfBoundsException" ["java/lang/IndexOutOfBoundsException", "java/lang/RuntimeException", "java/lang/Exception"]).filter goodWord)
def wsX3_dayOf : List Cond := .code yX3_dayOf cX3_dayOf 2 (some .int) :: ([.fieldLink RX3 15 "StampMaker$Ledger" "days" "[I", .methodLink RX3 24 yX3_isSerial, .static yX3_isSerial, .initialized RX3, .code yX3_isSerial cX3_isSerial 2 (some .boolean), .constantLong RX3 22 (16384)] ++ wsX30 ++ (vx_atM "java/lang/ArrayIndexOutOfBoundsException" ["java/lang/IndexOutOfBoundsException", "java/lang/RuntimeException", "java/lang/Exception"]).filter goodWord)
def wsX3_checkOf : List Cond := .code yX3_checkOf cX3_checkOf 2 (some .int) :: ([.fieldLink RX3 19 "StampMaker$Ledger" "checks" "[I", .methodLink RX3 24 yX3_isSerial, .static yX3_isSerial, .initialized RX3, .code yX3_isSerial cX3_isSerial 2 (some .boolean), .constantLong RX3 22 (16384)] ++ wsX30 ++ (vx_atM "java/lang/ArrayIndexOutOfBoundsException" ["java/lang/IndexOutOfBoundsException", "java/lang/RuntimeException", "java/lang/Exception"]).filter goodWord)
def wsX3_spend : List Cond := .code yX3_spend cX3_spend 4 none :: ([.fieldLink RX3 9 "StampMaker$Ledger" "fates" "[B", .fieldLink RX3 15 "StampMaker$Ledger" "days" "[I", .fieldLink RX3 19 "StampMaker$Ledger" "checks" "[I", .methodLink RX3 24 yX3_isSerial, .static yX3_isSerial, .initialized RX3, .code yX3_isSerial cX3_isSerial 2 (some .boolean), .constantLong RX3 22 (16384)] ++ wsX30 ++ (vx_atM "java/lang/ArrayIndexOutOfBoundsException" ["java/lang/IndexOutOfBoundsException", "java/lang/RuntimeException", "java/lang/Exception"]).filter goodWord)
def wsX3_giveBack : List Cond := .code yX3_giveBack cX3_giveBack 2 none :: ([.fieldLink RX3 9 "StampMaker$Ledger" "fates" "[B", .methodLink RX3 24 yX3_isSerial, .static yX3_isSerial, .initialized RX3, .code yX3_isSerial cX3_isSerial 2 (some .boolean), .constantLong RX3 22 (16384)] ++ wsX30 ++ (vx_atM "java/lang/ArrayIndexOutOfBoundsException" ["java/lang/IndexOutOfBoundsException", "java/lang/RuntimeException", "java/lang/Exception"]).filter goodWord)
def wsX4_init_r1 : List Cond := [Cond.methodLink RX4 1 objectInit, Cond.instanceMethod objectInit, Cond.code objectInit ⟨#[0xb1]⟩ 1 none, Cond.classLink RX4 9 RX2, Cond.fieldLink RX4 11 "StampMaker" "keys" "[LStampMaker$Key;", Cond.arrayClass .int, Cond.fieldLink RX4 15 "StampMaker" "latestLetters" "[I", Cond.fieldLink RX4 19 "StampMaker" "typed" "[I", Cond.fieldLink RX4 22 "StampMaker" "latestSpent" "I", Cond.classLink RX4 26 RX3, Cond.instantiable RX3 3, Cond.initialized RX3, Cond.fieldLink RX4 29 "StampMaker" "ledger" "LStampMaker$Ledger;", Cond.classLink RX4 33 RX0, Cond.instantiable RX0 3, Cond.initialized RX0, Cond.fieldLink RX4 36 "StampMaker" "latestDigest" "LStampMaker$Digest;", Cond.instanceMethod yX3_init, Cond.code yX3_init cX3_init 1 none, Cond.methodLink RX3 3 objectInit, Cond.arrayClass .byte, Cond.fieldLink RX3 9 "StampMaker$Ledger" "fates" "[B", Cond.fieldLink RX3 15 "StampMaker$Ledger" "days" "[I", Cond.fieldLink RX3 19 "StampMaker$Ledger" "checks" "[I"]
def wsX4_init_r2 : List Cond := [Cond.instanceMethod yX0_init, Cond.code yX0_init cX0_init 1 none, Cond.methodLink RX0 1 objectInit, Cond.fieldLink RX0 9 "StampMaker$Digest" "w" "[I", Cond.fieldLink RX0 13 "StampMaker$Digest" "state" "[I"]
def wsX4_init : List Cond := .code yX4_init cX4_init 1 none :: ((wsX4_init_r1 ++ wsX4_init_r2) ++ wsX40 ++ wsX30 ++ wsX00)
def wsX4_isDay : List Cond := .code yX4_isDay cX4_isDay 2 (some .boolean) :: ([.constantLong RX4 139 (65535)])
def wsX4_key : List Cond := .code yX4_key cX4_key 5 (some .int) :: ([.fieldLink RX4 44 "StampMaker" "keyCount" "I", .fieldLink RX4 11 "StampMaker" "keys" "[LStampMaker$Key;", .classLink RX4 9 RX2, .instantiable RX2 5, .initialized RX2, .methodLink RX4 40 yX4_isDay, .static yX4_isDay, .initialized RX4, .code yX4_isDay cX4_isDay 2 (some .boolean), .constantLong RX4 139 (65535), .methodLink RX4 47 yX2_init, .instanceMethod yX2_init, .code yX2_init cX2_init 3 none, .methodLink RX2 1 objectInit, .instanceMethod objectInit, .code objectInit ⟨#[0xb1]⟩ 1 none, .arrayClass .byte, .fieldLink RX2 9 "StampMaker$Key" "bytes" "[B", .fieldLink RX2 13 "StampMaker$Key" "from" "I", .fieldLink RX2 17 "StampMaker$Key" "until" "I"] ++ wsX40 ++ wsX20)
def wsX4_keyNumbered : List Cond := .code yX4_keyNumbered cX4_keyNumbered 2 (some (.object "StampMaker$Key")) :: ([.fieldLink RX4 44 "StampMaker" "keyCount" "I", .fieldLink RX4 11 "StampMaker" "keys" "[LStampMaker$Key;"] ++ wsX40)
def wsX4_octet : List Cond := .code yX4_octet cX4_octet 4 none :: ([.methodLink RX4 50 yX4_keyNumbered, .instanceMethod yX4_keyNumbered, .selects RX4 yX4_keyNumbered yX4_keyNumbered, .initialized RX4, .code yX4_keyNumbered cX4_keyNumbered 2 (some (.object "StampMaker$Key")), .fieldLink RX4 44 "StampMaker" "keyCount" "I", .fieldLink RX4 11 "StampMaker" "keys" "[LStampMaker$Key;", .methodLink RX4 54 yX2_take, .instanceMethod yX2_take, .selects RX2 yX2_take yX2_take, .initialized RX2, .code yX2_take cX2_take 2 none, .fieldLink RX2 20 "StampMaker$Key" "closed" "Z", .fieldLink RX2 24 "StampMaker$Key" "count" "I", .fieldLink RX2 9 "StampMaker$Key" "bytes" "[B"] ++ wsX40 ++ wsX20 ++ (vx_atM "java/lang/ArrayIndexOutOfBoundsException" ["java/lang/IndexOutOfBoundsException", "java/lang/RuntimeException", "java/lang/Exception"]).filter goodWord)
def wsX4_isValue : List Cond := .code yX4_isValue cX4_isValue 1 (some .boolean) :: ([.constant RX4 141 (99999)])
def wsX4_isKind : List Cond := .code yX4_isKind cX4_isKind 1 (some .boolean) :: ([])
def wsJ0_isLatin1_aae02 : List Cond := .code yJ0_isLatin1_aae02 cJ0_isLatin1_aae02 1 (some .boolean) :: ([.fieldLink RJ0 38 "java/lang/String" "COMPACT_STRINGS" "Z", .fieldLink RJ0 15 "java/lang/String" "coder" "B"] ++ wsJ00)
def wsJ3_checkIndex_8e157 : List Cond := .code yJ3_checkIndex_8e157 cJ3_checkIndex_8e157 3 (some .int) :: ([])
def wsJ0_checkIndex_df160 : List Cond := .code yJ0_checkIndex_df160 cJ0_checkIndex_df160 2 none :: ([.fieldLink RJ0 1053 "jdk/internal/util/Preconditions" "SIOOBE_FORMATTER" "Ljava/util/function/BiFunction;", .methodLink RJ0 1059 yJ3_checkIndex_8e157, .static yJ3_checkIndex_8e157, .initialized RJ3, .code yJ3_checkIndex_8e157 cJ3_checkIndex_8e157 3 (some .int)])
def wsJ1_charAt_3b067 : List Cond := .code yJ1_charAt_3b067 cJ1_charAt_3b067 2 (some .char) :: ([.methodLink RJ1 9 yJ0_checkIndex_df160, .static yJ0_checkIndex_df160, .initialized RJ0, .code yJ0_checkIndex_df160 cJ0_checkIndex_df160 2 none, .fieldLink RJ0 1053 "jdk/internal/util/Preconditions" "SIOOBE_FORMATTER" "Ljava/util/function/BiFunction;", .methodLink RJ0 1059 yJ3_checkIndex_8e157, .static yJ3_checkIndex_8e157, .initialized RJ3, .code yJ3_checkIndex_8e157 cJ3_checkIndex_8e157 3 (some .int)])
def wsJ2_length_9d52b : List Cond := .code yJ2_length_9d52b cJ2_length_9d52b 1 (some .int) :: ([])
def wsJ2_checkIndex_2214a : List Cond := .code yJ2_checkIndex_2214a cJ2_checkIndex_2214a 2 none :: ([.methodLink RJ2 48 yJ2_length_9d52b, .static yJ2_length_9d52b, .initialized RJ2, .code yJ2_length_9d52b cJ2_length_9d52b 1 (some .int), .methodLink RJ2 414 yJ0_checkIndex_df160, .static yJ0_checkIndex_df160, .initialized RJ0, .code yJ0_checkIndex_df160 cJ0_checkIndex_df160 2 none, .fieldLink RJ0 1053 "jdk/internal/util/Preconditions" "SIOOBE_FORMATTER" "Ljava/util/function/BiFunction;", .methodLink RJ0 1059 yJ3_checkIndex_8e157, .static yJ3_checkIndex_8e157, .initialized RJ3, .code yJ3_checkIndex_8e157 cJ3_checkIndex_8e157 3 (some .int)])
def wsJ2_getChar_3b067 : List Cond := .code yJ2_getChar_3b067 cJ2_getChar_3b067 2 (some .char) :: ([.fieldLink RJ2 44 "java/lang/StringUTF16" "$assertionsDisabled" "Z", .fieldLink RJ2 59 "java/lang/StringUTF16" "HI_BYTE_SHIFT" "I", .fieldLink RJ2 63 "java/lang/StringUTF16" "LO_BYTE_SHIFT" "I", .methodLink RJ2 48 yJ2_length_9d52b, .static yJ2_length_9d52b, .initialized RJ2, .code yJ2_length_9d52b cJ2_length_9d52b 1 (some .int)])
def wsJ2_charAt_3b067 : List Cond := .code yJ2_charAt_3b067 cJ2_charAt_3b067 2 (some .char) :: ([.methodLink RJ2 67 yJ2_checkIndex_2214a, .static yJ2_checkIndex_2214a, .initialized RJ2, .code yJ2_checkIndex_2214a cJ2_checkIndex_2214a 2 none, .methodLink RJ2 48 yJ2_length_9d52b, .static yJ2_length_9d52b, .code yJ2_length_9d52b cJ2_length_9d52b 1 (some .int), .methodLink RJ2 414 yJ0_checkIndex_df160, .static yJ0_checkIndex_df160, .initialized RJ0, .code yJ0_checkIndex_df160 cJ0_checkIndex_df160 2 none, .fieldLink RJ0 1053 "jdk/internal/util/Preconditions" "SIOOBE_FORMATTER" "Ljava/util/function/BiFunction;", .methodLink RJ0 1059 yJ3_checkIndex_8e157, .static yJ3_checkIndex_8e157, .initialized RJ3, .code yJ3_checkIndex_8e157 cJ3_checkIndex_8e157 3 (some .int), .methodLink RJ2 71 yJ2_getChar_3b067, .static yJ2_getChar_3b067, .code yJ2_getChar_3b067 cJ2_getChar_3b067 2 (some .char), .fieldLink RJ2 44 "java/lang/StringUTF16" "$assertionsDisabled" "Z", .fieldLink RJ2 59 "java/lang/StringUTF16" "HI_BYTE_SHIFT" "I", .fieldLink RJ2 63 "java/lang/StringUTF16" "LO_BYTE_SHIFT" "I"])
def wsJ0_charAt_5068e_r1 : List Cond := [Cond.fieldLink RJ0 9 "java/lang/String" "value" "[B", Cond.methodLink RJ0 492 yJ0_isLatin1_aae02, Cond.instanceMethod yJ0_isLatin1_aae02, Cond.selects RJ0 yJ0_isLatin1_aae02 yJ0_isLatin1_aae02, Cond.initialized RJ0, Cond.code yJ0_isLatin1_aae02 cJ0_isLatin1_aae02 1 (some .boolean), Cond.fieldLink RJ0 38 "java/lang/String" "COMPACT_STRINGS" "Z", Cond.fieldLink RJ0 15 "java/lang/String" "coder" "B", Cond.methodLink RJ0 495 yJ1_charAt_3b067, Cond.static yJ1_charAt_3b067, Cond.initialized RJ1, Cond.code yJ1_charAt_3b067 cJ1_charAt_3b067 2 (some .char), Cond.methodLink RJ1 9 yJ0_checkIndex_df160, Cond.static yJ0_checkIndex_df160, Cond.code yJ0_checkIndex_df160 cJ0_checkIndex_df160 2 none, Cond.fieldLink RJ0 1053 "jdk/internal/util/Preconditions" "SIOOBE_FORMATTER" "Ljava/util/function/BiFunction;", Cond.methodLink RJ0 1059 yJ3_checkIndex_8e157, Cond.static yJ3_checkIndex_8e157, Cond.initialized RJ3, Cond.code yJ3_checkIndex_8e157 cJ3_checkIndex_8e157 3 (some .int), Cond.methodLink RJ0 498 yJ2_charAt_3b067, Cond.static yJ2_charAt_3b067, Cond.initialized RJ2, Cond.code yJ2_charAt_3b067 cJ2_charAt_3b067 2 (some .char)]
def wsJ0_charAt_5068e_r2 : List Cond := [Cond.methodLink RJ2 67 yJ2_checkIndex_2214a, Cond.static yJ2_checkIndex_2214a, Cond.code yJ2_checkIndex_2214a cJ2_checkIndex_2214a 2 none, Cond.methodLink RJ2 48 yJ2_length_9d52b, Cond.static yJ2_length_9d52b, Cond.code yJ2_length_9d52b cJ2_length_9d52b 1 (some .int), Cond.methodLink RJ2 414 yJ0_checkIndex_df160, Cond.methodLink RJ2 71 yJ2_getChar_3b067, Cond.static yJ2_getChar_3b067, Cond.code yJ2_getChar_3b067 cJ2_getChar_3b067 2 (some .char), Cond.fieldLink RJ2 44 "java/lang/StringUTF16" "$assertionsDisabled" "Z", Cond.fieldLink RJ2 59 "java/lang/StringUTF16" "HI_BYTE_SHIFT" "I", Cond.fieldLink RJ2 63 "java/lang/StringUTF16" "LO_BYTE_SHIFT" "I"]
def wsJ0_charAt_5068e : List Cond := .code yJ0_charAt_5068e cJ0_charAt_5068e 2 (some .char) :: ((wsJ0_charAt_5068e_r1 ++ wsJ0_charAt_5068e_r2) ++ wsJ00)
def wsX4_letterFor_r1 : List Cond := [Cond.methodLink RX4 147 yJ0_charAt_5068e, Cond.instanceMethod yJ0_charAt_5068e, Cond.selects RJ0 yJ0_charAt_5068e yJ0_charAt_5068e, Cond.initialized RJ0, Cond.code yJ0_charAt_5068e cJ0_charAt_5068e 2 (some .char), Cond.fieldLink RJ0 9 "java/lang/String" "value" "[B", Cond.methodLink RJ0 492 yJ0_isLatin1_aae02, Cond.instanceMethod yJ0_isLatin1_aae02, Cond.selects RJ0 yJ0_isLatin1_aae02 yJ0_isLatin1_aae02, Cond.code yJ0_isLatin1_aae02 cJ0_isLatin1_aae02 1 (some .boolean), Cond.fieldLink RJ0 38 "java/lang/String" "COMPACT_STRINGS" "Z", Cond.fieldLink RJ0 15 "java/lang/String" "coder" "B", Cond.methodLink RJ0 495 yJ1_charAt_3b067, Cond.static yJ1_charAt_3b067, Cond.initialized RJ1, Cond.code yJ1_charAt_3b067 cJ1_charAt_3b067 2 (some .char), Cond.methodLink RJ1 9 yJ0_checkIndex_df160, Cond.static yJ0_checkIndex_df160, Cond.code yJ0_checkIndex_df160 cJ0_checkIndex_df160 2 none, Cond.fieldLink RJ0 1053 "jdk/internal/util/Preconditions" "SIOOBE_FORMATTER" "Ljava/util/function/BiFunction;", Cond.methodLink RJ0 1059 yJ3_checkIndex_8e157, Cond.static yJ3_checkIndex_8e157, Cond.initialized RJ3, Cond.code yJ3_checkIndex_8e157 cJ3_checkIndex_8e157 3 (some .int)]
def wsX4_letterFor_r2 : List Cond := [Cond.methodLink RJ0 498 yJ2_charAt_3b067, Cond.static yJ2_charAt_3b067, Cond.initialized RJ2, Cond.code yJ2_charAt_3b067 cJ2_charAt_3b067 2 (some .char), Cond.methodLink RJ2 67 yJ2_checkIndex_2214a, Cond.static yJ2_checkIndex_2214a, Cond.code yJ2_checkIndex_2214a cJ2_checkIndex_2214a 2 none, Cond.methodLink RJ2 48 yJ2_length_9d52b, Cond.static yJ2_length_9d52b, Cond.code yJ2_length_9d52b cJ2_length_9d52b 1 (some .int), Cond.methodLink RJ2 414 yJ0_checkIndex_df160, Cond.methodLink RJ2 71 yJ2_getChar_3b067, Cond.static yJ2_getChar_3b067, Cond.code yJ2_getChar_3b067 cJ2_getChar_3b067 2 (some .char), Cond.fieldLink RJ2 44 "java/lang/StringUTF16" "$assertionsDisabled" "Z", Cond.fieldLink RJ2 59 "java/lang/StringUTF16" "HI_BYTE_SHIFT" "I", Cond.fieldLink RJ2 63 "java/lang/StringUTF16" "LO_BYTE_SHIFT" "I"]
def wsX4_letterFor : List Cond := .code yX4_letterFor cX4_letterFor 1 (some .int) :: ((wsX4_letterFor_r1 ++ wsX4_letterFor_r2) ++ wsJ00)
def wsX4_writeLetters_r1 : List Cond := [Cond.fieldLink RX4 15 "StampMaker" "latestLetters" "[I", Cond.methodLink RX4 142 yX4_letterFor, Cond.static yX4_letterFor, Cond.initialized RX4, Cond.code yX4_letterFor cX4_letterFor 1 (some .int), Cond.methodLink RX4 147 yJ0_charAt_5068e, Cond.instanceMethod yJ0_charAt_5068e, Cond.selects RJ0 yJ0_charAt_5068e yJ0_charAt_5068e, Cond.initialized RJ0, Cond.code yJ0_charAt_5068e cJ0_charAt_5068e 2 (some .char), Cond.fieldLink RJ0 9 "java/lang/String" "value" "[B", Cond.methodLink RJ0 492 yJ0_isLatin1_aae02, Cond.instanceMethod yJ0_isLatin1_aae02, Cond.selects RJ0 yJ0_isLatin1_aae02 yJ0_isLatin1_aae02, Cond.code yJ0_isLatin1_aae02 cJ0_isLatin1_aae02 1 (some .boolean), Cond.fieldLink RJ0 38 "java/lang/String" "COMPACT_STRINGS" "Z", Cond.fieldLink RJ0 15 "java/lang/String" "coder" "B", Cond.methodLink RJ0 495 yJ1_charAt_3b067, Cond.static yJ1_charAt_3b067, Cond.initialized RJ1, Cond.code yJ1_charAt_3b067 cJ1_charAt_3b067 2 (some .char), Cond.methodLink RJ1 9 yJ0_checkIndex_df160, Cond.static yJ0_checkIndex_df160, Cond.code yJ0_checkIndex_df160 cJ0_checkIndex_df160 2 none]
def wsX4_writeLetters_r2 : List Cond := [Cond.fieldLink RJ0 1053 "jdk/internal/util/Preconditions" "SIOOBE_FORMATTER" "Ljava/util/function/BiFunction;", Cond.methodLink RJ0 1059 yJ3_checkIndex_8e157, Cond.static yJ3_checkIndex_8e157, Cond.initialized RJ3, Cond.code yJ3_checkIndex_8e157 cJ3_checkIndex_8e157 3 (some .int), Cond.methodLink RJ0 498 yJ2_charAt_3b067, Cond.static yJ2_charAt_3b067, Cond.initialized RJ2, Cond.code yJ2_charAt_3b067 cJ2_charAt_3b067 2 (some .char), Cond.methodLink RJ2 67 yJ2_checkIndex_2214a, Cond.static yJ2_checkIndex_2214a, Cond.code yJ2_checkIndex_2214a cJ2_checkIndex_2214a 2 none, Cond.methodLink RJ2 48 yJ2_length_9d52b, Cond.static yJ2_length_9d52b, Cond.code yJ2_length_9d52b cJ2_length_9d52b 1 (some .int), Cond.methodLink RJ2 414 yJ0_checkIndex_df160, Cond.methodLink RJ2 71 yJ2_getChar_3b067, Cond.static yJ2_getChar_3b067, Cond.code yJ2_getChar_3b067 cJ2_getChar_3b067 2 (some .char), Cond.fieldLink RJ2 44 "java/lang/StringUTF16" "$assertionsDisabled" "Z", Cond.fieldLink RJ2 59 "java/lang/StringUTF16" "HI_BYTE_SHIFT" "I", Cond.fieldLink RJ2 63 "java/lang/StringUTF16" "LO_BYTE_SHIFT" "I"]
def wsX4_writeLetters : List Cond := .code yX4_writeLetters cX4_writeLetters 5 none :: ((wsX4_writeLetters_r1 ++ wsX4_writeLetters_r2) ++ wsX40 ++ wsJ00 ++ (vx_atM "java/lang/ArrayIndexOutOfBoundsException" ["java/lang/IndexOutOfBoundsException", "java/lang/RuntimeException", "java/lang/Exception"]).filter goodWord)
def wsX4_make_r1 : List Cond := [Cond.fieldLink RX4 68 "StampMaker" "made" "I", Cond.fieldLink RX4 36 "StampMaker" "latestDigest" "LStampMaker$Digest;", Cond.methodLink RX4 50 yX4_keyNumbered, Cond.instanceMethod yX4_keyNumbered, Cond.selects RX4 yX4_keyNumbered yX4_keyNumbered, Cond.initialized RX4, Cond.code yX4_keyNumbered cX4_keyNumbered 2 (some (.object "StampMaker$Key")), Cond.fieldLink RX4 44 "StampMaker" "keyCount" "I", Cond.fieldLink RX4 11 "StampMaker" "keys" "[LStampMaker$Key;", Cond.methodLink RX4 58 yX4_isValue, Cond.static yX4_isValue, Cond.code yX4_isValue cX4_isValue 1 (some .boolean), Cond.constant RX4 141 (99999), Cond.methodLink RX4 62 yX4_isKind, Cond.static yX4_isKind, Cond.code yX4_isKind cX4_isKind 1 (some .boolean), Cond.methodLink RX4 40 yX4_isDay, Cond.static yX4_isDay, Cond.code yX4_isDay cX4_isDay 2 (some .boolean), Cond.constantLong RX4 139 (65535), Cond.methodLink RX4 65 yX2_holdsOn, Cond.instanceMethod yX2_holdsOn, Cond.selects RX2 yX2_holdsOn yX2_holdsOn, Cond.initialized RX2]
def wsX4_make_r2 : List Cond := [Cond.code yX2_holdsOn cX2_holdsOn 3 (some .boolean), Cond.fieldLink RX2 13 "StampMaker$Key" "from" "I", Cond.fieldLink RX2 17 "StampMaker$Key" "until" "I", Cond.methodLink RX4 71 yX1_joined, Cond.static yX1_joined, Cond.initialized RX1, Cond.code yX1_joined cX1_joined 5 (some .long), Cond.methodLink RX4 77 yX2_close, Cond.instanceMethod yX2_close, Cond.selects RX2 yX2_close yX2_close, Cond.code yX2_close cX2_close 1 none, Cond.fieldLink RX2 20 "StampMaker$Key" "closed" "Z", Cond.methodLink RX4 80 yX0_reckon, Cond.instanceMethod yX0_reckon, Cond.selects RX0 yX0_reckon yX0_reckon, Cond.initialized RX0, Cond.code yX0_reckon cX0_reckon 5 none, Cond.fieldLink RX0 9 "StampMaker$Digest" "w" "[I", Cond.fieldLink RX0 13 "StampMaker$Digest" "state" "[I", Cond.fieldLink RX0 33 "StampMaker$Digest" "START" "[I", Cond.fieldLink RX0 16 "StampMaker$Digest" "reckoned" "Z", Cond.methodLink RX0 20 yX0_numberOf, Cond.static yX0_numberOf, Cond.code yX0_numberOf cX0_numberOf 6 (some .int)]
def wsX4_make_r3 : List Cond := [Cond.methodLink RX0 39 yX0_blockByte, Cond.static yX0_blockByte, Cond.code yX0_blockByte cX0_blockByte 5 (some .int), Cond.methodLink RX0 24 yX2_size, Cond.instanceMethod yX2_size, Cond.selects RX2 yX2_size yX2_size, Cond.code yX2_size cX2_size 1 (some .int), Cond.fieldLink RX2 24 "StampMaker$Key" "count" "I", Cond.methodLink RX0 42 yX2_octetAt, Cond.instanceMethod yX2_octetAt, Cond.selects RX2 yX2_octetAt yX2_octetAt, Cond.code yX2_octetAt cX2_octetAt 2 (some .int), Cond.fieldLink RX2 9 "StampMaker$Key" "bytes" "[B", Cond.methodLink RX0 30 yX0_stretch, Cond.instanceMethod yX0_stretch, Cond.selects RX0 yX0_stretch yX0_stretch, Cond.code yX0_stretch cX0_stretch 6 none, Cond.methodLink RX0 46 yX0_ror, Cond.static yX0_ror, Cond.code yX0_ror cX0_ror 2 (some .int), Cond.methodLink RX0 36 yX0_mix, Cond.instanceMethod yX0_mix, Cond.selects RX0 yX0_mix yX0_mix, Cond.code yX0_mix cX0_mix 12 none]
def wsX4_make_r4 : List Cond := [Cond.fieldLink RX0 50 "StampMaker$Digest" "ROUND_NUMBERS" "[I", Cond.methodLink RX4 84 yX0_firstBits, Cond.instanceMethod yX0_firstBits, Cond.selects RX0 yX0_firstBits yX0_firstBits, Cond.code yX0_firstBits cX0_firstBits 1 (some .int), Cond.methodLink RX4 88 yX4_writeLetters, Cond.instanceMethod yX4_writeLetters, Cond.selects RX4 yX4_writeLetters yX4_writeLetters, Cond.code yX4_writeLetters cX4_writeLetters 5 none, Cond.fieldLink RX4 15 "StampMaker" "latestLetters" "[I", Cond.methodLink RX4 142 yX4_letterFor, Cond.static yX4_letterFor, Cond.code yX4_letterFor cX4_letterFor 1 (some .int), Cond.methodLink RX4 147 yJ0_charAt_5068e, Cond.instanceMethod yJ0_charAt_5068e, Cond.selects RJ0 yJ0_charAt_5068e yJ0_charAt_5068e, Cond.initialized RJ0, Cond.code yJ0_charAt_5068e cJ0_charAt_5068e 2 (some .char), Cond.fieldLink RJ0 9 "java/lang/String" "value" "[B", Cond.methodLink RJ0 492 yJ0_isLatin1_aae02, Cond.instanceMethod yJ0_isLatin1_aae02, Cond.selects RJ0 yJ0_isLatin1_aae02 yJ0_isLatin1_aae02, Cond.code yJ0_isLatin1_aae02 cJ0_isLatin1_aae02 1 (some .boolean), Cond.fieldLink RJ0 38 "java/lang/String" "COMPACT_STRINGS" "Z"]
def wsX4_make_r5 : List Cond := [Cond.fieldLink RJ0 15 "java/lang/String" "coder" "B", Cond.methodLink RJ0 495 yJ1_charAt_3b067, Cond.static yJ1_charAt_3b067, Cond.initialized RJ1, Cond.code yJ1_charAt_3b067 cJ1_charAt_3b067 2 (some .char), Cond.methodLink RJ1 9 yJ0_checkIndex_df160, Cond.static yJ0_checkIndex_df160, Cond.code yJ0_checkIndex_df160 cJ0_checkIndex_df160 2 none, Cond.fieldLink RJ0 1053 "jdk/internal/util/Preconditions" "SIOOBE_FORMATTER" "Ljava/util/function/BiFunction;", Cond.methodLink RJ0 1059 yJ3_checkIndex_8e157, Cond.static yJ3_checkIndex_8e157, Cond.initialized RJ3, Cond.code yJ3_checkIndex_8e157 cJ3_checkIndex_8e157 3 (some .int), Cond.methodLink RJ0 498 yJ2_charAt_3b067, Cond.static yJ2_charAt_3b067, Cond.initialized RJ2, Cond.code yJ2_charAt_3b067 cJ2_charAt_3b067 2 (some .char), Cond.methodLink RJ2 67 yJ2_checkIndex_2214a, Cond.static yJ2_checkIndex_2214a, Cond.code yJ2_checkIndex_2214a cJ2_checkIndex_2214a 2 none, Cond.methodLink RJ2 48 yJ2_length_9d52b, Cond.static yJ2_length_9d52b, Cond.code yJ2_length_9d52b cJ2_length_9d52b 1 (some .int), Cond.methodLink RJ2 414 yJ0_checkIndex_df160]
def wsX4_make_r6 : List Cond := [Cond.methodLink RJ2 71 yJ2_getChar_3b067, Cond.static yJ2_getChar_3b067, Cond.code yJ2_getChar_3b067 cJ2_getChar_3b067 2 (some .char), Cond.fieldLink RJ2 44 "java/lang/StringUTF16" "$assertionsDisabled" "Z", Cond.fieldLink RJ2 59 "java/lang/StringUTF16" "HI_BYTE_SHIFT" "I", Cond.fieldLink RJ2 63 "java/lang/StringUTF16" "LO_BYTE_SHIFT" "I"]
def wsX4_make : List Cond := .code yX4_make cX4_make 9 (some .int) :: ((wsX4_make_r1 ++ (wsX4_make_r2 ++ (wsX4_make_r3 ++ (wsX4_make_r4 ++ (wsX4_make_r5 ++ wsX4_make_r6))))) ++ wsX40 ++ wsX20 ++ wsX00 ++ wsJ00 ++ (vx_atM "java/lang/ArrayIndexOutOfBoundsException" ["java/lang/IndexOutOfBoundsException", "java/lang/RuntimeException", "java/lang/Exception"]).filter goodWord)
def wsX4_letter : List Cond := .code yX4_letter cX4_letter 2 (some .int) :: ([.fieldLink RX4 15 "StampMaker" "latestLetters" "[I"] ++ wsX40 ++ (vx_atM "java/lang/ArrayIndexOutOfBoundsException" ["java/lang/IndexOutOfBoundsException", "java/lang/RuntimeException", "java/lang/Exception"]).filter goodWord)
def wsX4_type : List Cond := .code yX4_type cX4_type 2 none :: ([.fieldLink RX4 92 "StampMaker" "typedCount" "I", .fieldLink RX4 19 "StampMaker" "typed" "[I"] ++ wsX40 ++ (vx_atM "java/lang/ArrayIndexOutOfBoundsException" ["java/lang/IndexOutOfBoundsException", "java/lang/RuntimeException", "java/lang/Exception"]).filter goodWord)
def wsJ0_coder_7d493 : List Cond := .code yJ0_coder_7d493 cJ0_coder_7d493 1 (some .byte) :: ([.fieldLink RJ0 38 "java/lang/String" "COMPACT_STRINGS" "Z", .fieldLink RJ0 15 "java/lang/String" "coder" "B"] ++ wsJ00)
def wsJ0_length_8abf5 : List Cond := .code yJ0_length_8abf5 cJ0_length_8abf5 1 (some .int) :: ([.fieldLink RJ0 9 "java/lang/String" "value" "[B", .methodLink RJ0 335 yJ0_coder_7d493, .instanceMethod yJ0_coder_7d493, .selects RJ0 yJ0_coder_7d493 yJ0_coder_7d493, .initialized RJ0, .code yJ0_coder_7d493 cJ0_coder_7d493 1 (some .byte), .fieldLink RJ0 38 "java/lang/String" "COMPACT_STRINGS" "Z", .fieldLink RJ0 15 "java/lang/String" "coder" "B"] ++ wsJ00)
def wsX4_worthOf_r1 : List Cond := [Cond.methodLink RX4 158 yJ0_length_8abf5, Cond.instanceMethod yJ0_length_8abf5, Cond.selects RJ0 yJ0_length_8abf5 yJ0_length_8abf5, Cond.initialized RJ0, Cond.code yJ0_length_8abf5 cJ0_length_8abf5 1 (some .int), Cond.fieldLink RJ0 9 "java/lang/String" "value" "[B", Cond.methodLink RJ0 335 yJ0_coder_7d493, Cond.instanceMethod yJ0_coder_7d493, Cond.selects RJ0 yJ0_coder_7d493 yJ0_coder_7d493, Cond.code yJ0_coder_7d493 cJ0_coder_7d493 1 (some .byte), Cond.fieldLink RJ0 38 "java/lang/String" "COMPACT_STRINGS" "Z", Cond.fieldLink RJ0 15 "java/lang/String" "coder" "B", Cond.methodLink RX4 147 yJ0_charAt_5068e, Cond.instanceMethod yJ0_charAt_5068e, Cond.selects RJ0 yJ0_charAt_5068e yJ0_charAt_5068e, Cond.code yJ0_charAt_5068e cJ0_charAt_5068e 2 (some .char), Cond.methodLink RJ0 492 yJ0_isLatin1_aae02, Cond.instanceMethod yJ0_isLatin1_aae02, Cond.selects RJ0 yJ0_isLatin1_aae02 yJ0_isLatin1_aae02, Cond.code yJ0_isLatin1_aae02 cJ0_isLatin1_aae02 1 (some .boolean), Cond.methodLink RJ0 495 yJ1_charAt_3b067, Cond.static yJ1_charAt_3b067, Cond.initialized RJ1, Cond.code yJ1_charAt_3b067 cJ1_charAt_3b067 2 (some .char)]
def wsX4_worthOf_r2 : List Cond := [Cond.methodLink RJ1 9 yJ0_checkIndex_df160, Cond.static yJ0_checkIndex_df160, Cond.code yJ0_checkIndex_df160 cJ0_checkIndex_df160 2 none, Cond.fieldLink RJ0 1053 "jdk/internal/util/Preconditions" "SIOOBE_FORMATTER" "Ljava/util/function/BiFunction;", Cond.methodLink RJ0 1059 yJ3_checkIndex_8e157, Cond.static yJ3_checkIndex_8e157, Cond.initialized RJ3, Cond.code yJ3_checkIndex_8e157 cJ3_checkIndex_8e157 3 (some .int), Cond.methodLink RJ0 498 yJ2_charAt_3b067, Cond.static yJ2_charAt_3b067, Cond.initialized RJ2, Cond.code yJ2_charAt_3b067 cJ2_charAt_3b067 2 (some .char), Cond.methodLink RJ2 67 yJ2_checkIndex_2214a, Cond.static yJ2_checkIndex_2214a, Cond.code yJ2_checkIndex_2214a cJ2_checkIndex_2214a 2 none, Cond.methodLink RJ2 48 yJ2_length_9d52b, Cond.static yJ2_length_9d52b, Cond.code yJ2_length_9d52b cJ2_length_9d52b 1 (some .int), Cond.methodLink RJ2 414 yJ0_checkIndex_df160, Cond.methodLink RJ2 71 yJ2_getChar_3b067, Cond.static yJ2_getChar_3b067, Cond.code yJ2_getChar_3b067 cJ2_getChar_3b067 2 (some .char), Cond.fieldLink RJ2 44 "java/lang/StringUTF16" "$assertionsDisabled" "Z", Cond.fieldLink RJ2 59 "java/lang/StringUTF16" "HI_BYTE_SHIFT" "I"]
def wsX4_worthOf_r3 : List Cond := [Cond.fieldLink RJ2 63 "java/lang/StringUTF16" "LO_BYTE_SHIFT" "I"]
def wsX4_worthOf : List Cond := .code yX4_worthOf cX4_worthOf 2 (some .int) :: ((wsX4_worthOf_r1 ++ (wsX4_worthOf_r2 ++ wsX4_worthOf_r3)) ++ wsJ00)
def wsX4_typedBits_r1 : List Cond := [Cond.fieldLink RX4 19 "StampMaker" "typed" "[I", Cond.constantLong RX4 156 (-1), Cond.methodLink RX4 153 yX4_worthOf, Cond.static yX4_worthOf, Cond.initialized RX4, Cond.code yX4_worthOf cX4_worthOf 2 (some .int), Cond.methodLink RX4 158 yJ0_length_8abf5, Cond.instanceMethod yJ0_length_8abf5, Cond.selects RJ0 yJ0_length_8abf5 yJ0_length_8abf5, Cond.initialized RJ0, Cond.code yJ0_length_8abf5 cJ0_length_8abf5 1 (some .int), Cond.fieldLink RJ0 9 "java/lang/String" "value" "[B", Cond.methodLink RJ0 335 yJ0_coder_7d493, Cond.instanceMethod yJ0_coder_7d493, Cond.selects RJ0 yJ0_coder_7d493 yJ0_coder_7d493, Cond.code yJ0_coder_7d493 cJ0_coder_7d493 1 (some .byte), Cond.fieldLink RJ0 38 "java/lang/String" "COMPACT_STRINGS" "Z", Cond.fieldLink RJ0 15 "java/lang/String" "coder" "B", Cond.methodLink RX4 147 yJ0_charAt_5068e, Cond.instanceMethod yJ0_charAt_5068e, Cond.selects RJ0 yJ0_charAt_5068e yJ0_charAt_5068e, Cond.code yJ0_charAt_5068e cJ0_charAt_5068e 2 (some .char), Cond.methodLink RJ0 492 yJ0_isLatin1_aae02, Cond.instanceMethod yJ0_isLatin1_aae02]
def wsX4_typedBits_r2 : List Cond := [Cond.selects RJ0 yJ0_isLatin1_aae02 yJ0_isLatin1_aae02, Cond.code yJ0_isLatin1_aae02 cJ0_isLatin1_aae02 1 (some .boolean), Cond.methodLink RJ0 495 yJ1_charAt_3b067, Cond.static yJ1_charAt_3b067, Cond.initialized RJ1, Cond.code yJ1_charAt_3b067 cJ1_charAt_3b067 2 (some .char), Cond.methodLink RJ1 9 yJ0_checkIndex_df160, Cond.static yJ0_checkIndex_df160, Cond.code yJ0_checkIndex_df160 cJ0_checkIndex_df160 2 none, Cond.fieldLink RJ0 1053 "jdk/internal/util/Preconditions" "SIOOBE_FORMATTER" "Ljava/util/function/BiFunction;", Cond.methodLink RJ0 1059 yJ3_checkIndex_8e157, Cond.static yJ3_checkIndex_8e157, Cond.initialized RJ3, Cond.code yJ3_checkIndex_8e157 cJ3_checkIndex_8e157 3 (some .int), Cond.methodLink RJ0 498 yJ2_charAt_3b067, Cond.static yJ2_charAt_3b067, Cond.initialized RJ2, Cond.code yJ2_charAt_3b067 cJ2_charAt_3b067 2 (some .char), Cond.methodLink RJ2 67 yJ2_checkIndex_2214a, Cond.static yJ2_checkIndex_2214a, Cond.code yJ2_checkIndex_2214a cJ2_checkIndex_2214a 2 none, Cond.methodLink RJ2 48 yJ2_length_9d52b, Cond.static yJ2_length_9d52b, Cond.code yJ2_length_9d52b cJ2_length_9d52b 1 (some .int)]
def wsX4_typedBits_r3 : List Cond := [Cond.methodLink RJ2 414 yJ0_checkIndex_df160, Cond.methodLink RJ2 71 yJ2_getChar_3b067, Cond.static yJ2_getChar_3b067, Cond.code yJ2_getChar_3b067 cJ2_getChar_3b067 2 (some .char), Cond.fieldLink RJ2 44 "java/lang/StringUTF16" "$assertionsDisabled" "Z", Cond.fieldLink RJ2 59 "java/lang/StringUTF16" "HI_BYTE_SHIFT" "I", Cond.fieldLink RJ2 63 "java/lang/StringUTF16" "LO_BYTE_SHIFT" "I"]
def wsX4_typedBits : List Cond := .code yX4_typedBits cX4_typedBits 7 (some .long) :: ((wsX4_typedBits_r1 ++ (wsX4_typedBits_r2 ++ wsX4_typedBits_r3)) ++ wsX40 ++ wsJ00 ++ (vx_atM "java/lang/ArrayIndexOutOfBoundsException" ["java/lang/IndexOutOfBoundsException", "java/lang/RuntimeException", "java/lang/Exception"]).filter goodWord)
def wsX4_reasonAgainst_r1 : List Cond := [Cond.fieldLink RX4 36 "StampMaker" "latestDigest" "LStampMaker$Digest;", Cond.methodLink RX4 161 yX1_keyOf, Cond.static yX1_keyOf, Cond.initialized RX1, Cond.code yX1_keyOf cX1_keyOf 2 (some .int), Cond.methodLink RX4 50 yX4_keyNumbered, Cond.instanceMethod yX4_keyNumbered, Cond.selects RX4 yX4_keyNumbered yX4_keyNumbered, Cond.initialized RX4, Cond.code yX4_keyNumbered cX4_keyNumbered 2 (some (.object "StampMaker$Key")), Cond.fieldLink RX4 44 "StampMaker" "keyCount" "I", Cond.fieldLink RX4 11 "StampMaker" "keys" "[LStampMaker$Key;", Cond.methodLink RX4 164 yX1_kindOf, Cond.static yX1_kindOf, Cond.code yX1_kindOf cX1_kindOf 2 (some .int), Cond.methodLink RX4 62 yX4_isKind, Cond.static yX4_isKind, Cond.code yX4_isKind cX4_isKind 1 (some .boolean), Cond.methodLink RX4 167 yX1_valueOf, Cond.static yX1_valueOf, Cond.code yX1_valueOf cX1_valueOf 2 (some .int), Cond.constant RX1 7 (131071), Cond.methodLink RX4 58 yX4_isValue, Cond.static yX4_isValue]
def wsX4_reasonAgainst_r2 : List Cond := [Cond.code yX4_isValue cX4_isValue 1 (some .boolean), Cond.constant RX4 141 (99999), Cond.methodLink RX4 80 yX0_reckon, Cond.instanceMethod yX0_reckon, Cond.selects RX0 yX0_reckon yX0_reckon, Cond.initialized RX0, Cond.code yX0_reckon cX0_reckon 5 none, Cond.fieldLink RX0 9 "StampMaker$Digest" "w" "[I", Cond.fieldLink RX0 13 "StampMaker$Digest" "state" "[I", Cond.fieldLink RX0 33 "StampMaker$Digest" "START" "[I", Cond.fieldLink RX0 16 "StampMaker$Digest" "reckoned" "Z", Cond.methodLink RX0 20 yX0_numberOf, Cond.static yX0_numberOf, Cond.code yX0_numberOf cX0_numberOf 6 (some .int), Cond.methodLink RX0 39 yX0_blockByte, Cond.static yX0_blockByte, Cond.code yX0_blockByte cX0_blockByte 5 (some .int), Cond.methodLink RX0 24 yX2_size, Cond.instanceMethod yX2_size, Cond.selects RX2 yX2_size yX2_size, Cond.initialized RX2, Cond.code yX2_size cX2_size 1 (some .int), Cond.fieldLink RX2 24 "StampMaker$Key" "count" "I", Cond.methodLink RX0 42 yX2_octetAt]
def wsX4_reasonAgainst_r3 : List Cond := [Cond.instanceMethod yX2_octetAt, Cond.selects RX2 yX2_octetAt yX2_octetAt, Cond.code yX2_octetAt cX2_octetAt 2 (some .int), Cond.fieldLink RX2 9 "StampMaker$Key" "bytes" "[B", Cond.methodLink RX0 30 yX0_stretch, Cond.instanceMethod yX0_stretch, Cond.selects RX0 yX0_stretch yX0_stretch, Cond.code yX0_stretch cX0_stretch 6 none, Cond.methodLink RX0 46 yX0_ror, Cond.static yX0_ror, Cond.code yX0_ror cX0_ror 2 (some .int), Cond.methodLink RX0 36 yX0_mix, Cond.instanceMethod yX0_mix, Cond.selects RX0 yX0_mix yX0_mix, Cond.code yX0_mix cX0_mix 12 none, Cond.fieldLink RX0 50 "StampMaker$Digest" "ROUND_NUMBERS" "[I", Cond.methodLink RX4 84 yX0_firstBits, Cond.instanceMethod yX0_firstBits, Cond.selects RX0 yX0_firstBits yX0_firstBits, Cond.code yX0_firstBits cX0_firstBits 1 (some .int), Cond.methodLink RX4 170 yX1_dayOf, Cond.static yX1_dayOf, Cond.code yX1_dayOf cX1_dayOf 2 (some .int), Cond.constant RX1 8 (65535)]
def wsX4_reasonAgainst_r4 : List Cond := [Cond.methodLink RX4 65 yX2_holdsOn, Cond.instanceMethod yX2_holdsOn, Cond.selects RX2 yX2_holdsOn yX2_holdsOn, Cond.code yX2_holdsOn cX2_holdsOn 3 (some .boolean), Cond.fieldLink RX2 13 "StampMaker$Key" "from" "I", Cond.fieldLink RX2 17 "StampMaker$Key" "until" "I"]
def wsX4_reasonAgainst : List Cond := .code yX4_reasonAgainst cX4_reasonAgainst 8 (some .int) :: ((wsX4_reasonAgainst_r1 ++ (wsX4_reasonAgainst_r2 ++ (wsX4_reasonAgainst_r3 ++ wsX4_reasonAgainst_r4))) ++ wsX40 ++ wsX00 ++ wsX20 ++ (vx_atM "java/lang/ArrayIndexOutOfBoundsException" ["java/lang/IndexOutOfBoundsException", "java/lang/RuntimeException", "java/lang/Exception"]).filter goodWord)
def wsX4_accepted : List Cond := .code yX4_accepted cX4_accepted 4 (some .int) :: ([.fieldLink RX4 29 "StampMaker" "ledger" "LStampMaker$Ledger;", .fieldLink RX4 22 "StampMaker" "latestSpent" "I", .fieldLink RX4 95 "StampMaker" "checkCount" "I", .methodLink RX4 121 yX3_fateOf, .instanceMethod yX3_fateOf, .selects RX3 yX3_fateOf yX3_fateOf, .initialized RX3, .code yX3_fateOf cX3_fateOf 3 (some .int), .fieldLink RX3 9 "StampMaker$Ledger" "fates" "[B", .methodLink RX3 24 yX3_isSerial, .static yX3_isSerial, .code yX3_isSerial cX3_isSerial 2 (some .boolean), .constantLong RX3 22 (16384), .methodLink RX4 172 yX3_spend, .instanceMethod yX3_spend, .selects RX3 yX3_spend yX3_spend, .code yX3_spend cX3_spend 4 none, .fieldLink RX3 15 "StampMaker$Ledger" "days" "[I", .fieldLink RX3 19 "StampMaker$Ledger" "checks" "[I"] ++ wsX40 ++ wsX30 ++ (vx_atM "java/lang/ArrayIndexOutOfBoundsException" ["java/lang/IndexOutOfBoundsException", "java/lang/RuntimeException", "java/lang/Exception"]).filter goodWord)
def wsX4_check_r1 : List Cond := [Cond.fieldLink RX4 95 "StampMaker" "checkCount" "I", Cond.fieldLink RX4 92 "StampMaker" "typedCount" "I", Cond.methodLink RX4 40 yX4_isDay, Cond.static yX4_isDay, Cond.initialized RX4, Cond.code yX4_isDay cX4_isDay 2 (some .boolean), Cond.constantLong RX4 139 (65535), Cond.methodLink RX4 98 yX4_typedBits, Cond.instanceMethod yX4_typedBits, Cond.selects RX4 yX4_typedBits yX4_typedBits, Cond.code yX4_typedBits cX4_typedBits 7 (some .long), Cond.fieldLink RX4 19 "StampMaker" "typed" "[I", Cond.constantLong RX4 156 (-1), Cond.methodLink RX4 153 yX4_worthOf, Cond.static yX4_worthOf, Cond.code yX4_worthOf cX4_worthOf 2 (some .int), Cond.methodLink RX4 158 yJ0_length_8abf5, Cond.instanceMethod yJ0_length_8abf5, Cond.selects RJ0 yJ0_length_8abf5 yJ0_length_8abf5, Cond.initialized RJ0, Cond.code yJ0_length_8abf5 cJ0_length_8abf5 1 (some .int), Cond.fieldLink RJ0 9 "java/lang/String" "value" "[B", Cond.methodLink RJ0 335 yJ0_coder_7d493, Cond.instanceMethod yJ0_coder_7d493]
def wsX4_check_r2 : List Cond := [Cond.selects RJ0 yJ0_coder_7d493 yJ0_coder_7d493, Cond.code yJ0_coder_7d493 cJ0_coder_7d493 1 (some .byte), Cond.fieldLink RJ0 38 "java/lang/String" "COMPACT_STRINGS" "Z", Cond.fieldLink RJ0 15 "java/lang/String" "coder" "B", Cond.methodLink RX4 147 yJ0_charAt_5068e, Cond.instanceMethod yJ0_charAt_5068e, Cond.selects RJ0 yJ0_charAt_5068e yJ0_charAt_5068e, Cond.code yJ0_charAt_5068e cJ0_charAt_5068e 2 (some .char), Cond.methodLink RJ0 492 yJ0_isLatin1_aae02, Cond.instanceMethod yJ0_isLatin1_aae02, Cond.selects RJ0 yJ0_isLatin1_aae02 yJ0_isLatin1_aae02, Cond.code yJ0_isLatin1_aae02 cJ0_isLatin1_aae02 1 (some .boolean), Cond.methodLink RJ0 495 yJ1_charAt_3b067, Cond.static yJ1_charAt_3b067, Cond.initialized RJ1, Cond.code yJ1_charAt_3b067 cJ1_charAt_3b067 2 (some .char), Cond.methodLink RJ1 9 yJ0_checkIndex_df160, Cond.static yJ0_checkIndex_df160, Cond.code yJ0_checkIndex_df160 cJ0_checkIndex_df160 2 none, Cond.fieldLink RJ0 1053 "jdk/internal/util/Preconditions" "SIOOBE_FORMATTER" "Ljava/util/function/BiFunction;", Cond.methodLink RJ0 1059 yJ3_checkIndex_8e157, Cond.static yJ3_checkIndex_8e157, Cond.initialized RJ3, Cond.code yJ3_checkIndex_8e157 cJ3_checkIndex_8e157 3 (some .int)]
def wsX4_check_r3 : List Cond := [Cond.methodLink RJ0 498 yJ2_charAt_3b067, Cond.static yJ2_charAt_3b067, Cond.initialized RJ2, Cond.code yJ2_charAt_3b067 cJ2_charAt_3b067 2 (some .char), Cond.methodLink RJ2 67 yJ2_checkIndex_2214a, Cond.static yJ2_checkIndex_2214a, Cond.code yJ2_checkIndex_2214a cJ2_checkIndex_2214a 2 none, Cond.methodLink RJ2 48 yJ2_length_9d52b, Cond.static yJ2_length_9d52b, Cond.code yJ2_length_9d52b cJ2_length_9d52b 1 (some .int), Cond.methodLink RJ2 414 yJ0_checkIndex_df160, Cond.methodLink RJ2 71 yJ2_getChar_3b067, Cond.static yJ2_getChar_3b067, Cond.code yJ2_getChar_3b067 cJ2_getChar_3b067 2 (some .char), Cond.fieldLink RJ2 44 "java/lang/StringUTF16" "$assertionsDisabled" "Z", Cond.fieldLink RJ2 59 "java/lang/StringUTF16" "HI_BYTE_SHIFT" "I", Cond.fieldLink RJ2 63 "java/lang/StringUTF16" "LO_BYTE_SHIFT" "I", Cond.methodLink RX4 102 yX4_reasonAgainst, Cond.instanceMethod yX4_reasonAgainst, Cond.selects RX4 yX4_reasonAgainst yX4_reasonAgainst, Cond.code yX4_reasonAgainst cX4_reasonAgainst 8 (some .int), Cond.fieldLink RX4 36 "StampMaker" "latestDigest" "LStampMaker$Digest;", Cond.methodLink RX4 161 yX1_keyOf, Cond.static yX1_keyOf]
def wsX4_check_r4 : List Cond := [Cond.initialized RX1, Cond.code yX1_keyOf cX1_keyOf 2 (some .int), Cond.methodLink RX4 50 yX4_keyNumbered, Cond.instanceMethod yX4_keyNumbered, Cond.selects RX4 yX4_keyNumbered yX4_keyNumbered, Cond.code yX4_keyNumbered cX4_keyNumbered 2 (some (.object "StampMaker$Key")), Cond.fieldLink RX4 44 "StampMaker" "keyCount" "I", Cond.fieldLink RX4 11 "StampMaker" "keys" "[LStampMaker$Key;", Cond.methodLink RX4 164 yX1_kindOf, Cond.static yX1_kindOf, Cond.code yX1_kindOf cX1_kindOf 2 (some .int), Cond.methodLink RX4 62 yX4_isKind, Cond.static yX4_isKind, Cond.code yX4_isKind cX4_isKind 1 (some .boolean), Cond.methodLink RX4 167 yX1_valueOf, Cond.static yX1_valueOf, Cond.code yX1_valueOf cX1_valueOf 2 (some .int), Cond.constant RX1 7 (131071), Cond.methodLink RX4 58 yX4_isValue, Cond.static yX4_isValue, Cond.code yX4_isValue cX4_isValue 1 (some .boolean), Cond.constant RX4 141 (99999), Cond.methodLink RX4 80 yX0_reckon, Cond.instanceMethod yX0_reckon]
def wsX4_check_r5 : List Cond := [Cond.selects RX0 yX0_reckon yX0_reckon, Cond.initialized RX0, Cond.code yX0_reckon cX0_reckon 5 none, Cond.fieldLink RX0 9 "StampMaker$Digest" "w" "[I", Cond.fieldLink RX0 13 "StampMaker$Digest" "state" "[I", Cond.fieldLink RX0 33 "StampMaker$Digest" "START" "[I", Cond.fieldLink RX0 16 "StampMaker$Digest" "reckoned" "Z", Cond.methodLink RX0 20 yX0_numberOf, Cond.static yX0_numberOf, Cond.code yX0_numberOf cX0_numberOf 6 (some .int), Cond.methodLink RX0 39 yX0_blockByte, Cond.static yX0_blockByte, Cond.code yX0_blockByte cX0_blockByte 5 (some .int), Cond.methodLink RX0 24 yX2_size, Cond.instanceMethod yX2_size, Cond.selects RX2 yX2_size yX2_size, Cond.initialized RX2, Cond.code yX2_size cX2_size 1 (some .int), Cond.fieldLink RX2 24 "StampMaker$Key" "count" "I", Cond.methodLink RX0 42 yX2_octetAt, Cond.instanceMethod yX2_octetAt, Cond.selects RX2 yX2_octetAt yX2_octetAt, Cond.code yX2_octetAt cX2_octetAt 2 (some .int), Cond.fieldLink RX2 9 "StampMaker$Key" "bytes" "[B"]
def wsX4_check_r6 : List Cond := [Cond.methodLink RX0 30 yX0_stretch, Cond.instanceMethod yX0_stretch, Cond.selects RX0 yX0_stretch yX0_stretch, Cond.code yX0_stretch cX0_stretch 6 none, Cond.methodLink RX0 46 yX0_ror, Cond.static yX0_ror, Cond.code yX0_ror cX0_ror 2 (some .int), Cond.methodLink RX0 36 yX0_mix, Cond.instanceMethod yX0_mix, Cond.selects RX0 yX0_mix yX0_mix, Cond.code yX0_mix cX0_mix 12 none, Cond.fieldLink RX0 50 "StampMaker$Digest" "ROUND_NUMBERS" "[I", Cond.methodLink RX4 84 yX0_firstBits, Cond.instanceMethod yX0_firstBits, Cond.selects RX0 yX0_firstBits yX0_firstBits, Cond.code yX0_firstBits cX0_firstBits 1 (some .int), Cond.methodLink RX4 170 yX1_dayOf, Cond.static yX1_dayOf, Cond.code yX1_dayOf cX1_dayOf 2 (some .int), Cond.constant RX1 8 (65535), Cond.methodLink RX4 65 yX2_holdsOn, Cond.instanceMethod yX2_holdsOn, Cond.selects RX2 yX2_holdsOn yX2_holdsOn, Cond.code yX2_holdsOn cX2_holdsOn 3 (some .boolean)]
def wsX4_check_r7 : List Cond := [Cond.fieldLink RX2 13 "StampMaker$Key" "from" "I", Cond.fieldLink RX2 17 "StampMaker$Key" "until" "I", Cond.methodLink RX4 106 yX1_serialOf, Cond.static yX1_serialOf, Cond.code yX1_serialOf cX1_serialOf 2 (some .int), Cond.methodLink RX4 110 yX4_accepted, Cond.instanceMethod yX4_accepted, Cond.selects RX4 yX4_accepted yX4_accepted, Cond.code yX4_accepted cX4_accepted 4 (some .int), Cond.fieldLink RX4 29 "StampMaker" "ledger" "LStampMaker$Ledger;", Cond.fieldLink RX4 22 "StampMaker" "latestSpent" "I", Cond.methodLink RX4 121 yX3_fateOf, Cond.instanceMethod yX3_fateOf, Cond.selects RX3 yX3_fateOf yX3_fateOf, Cond.initialized RX3, Cond.code yX3_fateOf cX3_fateOf 3 (some .int), Cond.fieldLink RX3 9 "StampMaker$Ledger" "fates" "[B", Cond.methodLink RX3 24 yX3_isSerial, Cond.static yX3_isSerial, Cond.code yX3_isSerial cX3_isSerial 2 (some .boolean), Cond.constantLong RX3 22 (16384), Cond.methodLink RX4 172 yX3_spend, Cond.instanceMethod yX3_spend, Cond.selects RX3 yX3_spend yX3_spend]
def wsX4_check_r8 : List Cond := [Cond.code yX3_spend cX3_spend 4 none, Cond.fieldLink RX3 15 "StampMaker$Ledger" "days" "[I", Cond.fieldLink RX3 19 "StampMaker$Ledger" "checks" "[I"]
def wsX4_check : List Cond := .code yX4_check cX4_check 9 (some .int) :: ((wsX4_check_r1 ++ (wsX4_check_r2 ++ (wsX4_check_r3 ++ (wsX4_check_r4 ++ (wsX4_check_r5 ++ (wsX4_check_r6 ++ (wsX4_check_r7 ++ wsX4_check_r8))))))) ++ wsX40 ++ wsJ00 ++ wsX00 ++ wsX20 ++ wsX30 ++ (vx_atM "java/lang/ArrayIndexOutOfBoundsException" ["java/lang/IndexOutOfBoundsException", "java/lang/RuntimeException", "java/lang/Exception"]).filter goodWord)
def wsX4_first : List Cond := .code yX4_first cX4_first 2 (some .int) :: ([.fieldLink RX4 22 "StampMaker" "latestSpent" "I", .fieldLink RX4 29 "StampMaker" "ledger" "LStampMaker$Ledger;", .methodLink RX4 114 yX3_dayOf, .instanceMethod yX3_dayOf, .selects RX3 yX3_dayOf yX3_dayOf, .initialized RX3, .code yX3_dayOf cX3_dayOf 2 (some .int), .fieldLink RX3 15 "StampMaker$Ledger" "days" "[I", .methodLink RX3 24 yX3_isSerial, .static yX3_isSerial, .code yX3_isSerial cX3_isSerial 2 (some .boolean), .constantLong RX3 22 (16384), .methodLink RX4 118 yX3_checkOf, .instanceMethod yX3_checkOf, .selects RX3 yX3_checkOf yX3_checkOf, .code yX3_checkOf cX3_checkOf 2 (some .int), .fieldLink RX3 19 "StampMaker$Ledger" "checks" "[I"] ++ wsX40 ++ wsX30 ++ (vx_atM "java/lang/ArrayIndexOutOfBoundsException" ["java/lang/IndexOutOfBoundsException", "java/lang/RuntimeException", "java/lang/Exception"]).filter goodWord)
def wsX4_refund : List Cond := .code yX4_refund cX4_refund 3 (some .int) :: ([.fieldLink RX4 68 "StampMaker" "made" "I", .fieldLink RX4 29 "StampMaker" "ledger" "LStampMaker$Ledger;", .methodLink RX4 121 yX3_fateOf, .instanceMethod yX3_fateOf, .selects RX3 yX3_fateOf yX3_fateOf, .initialized RX3, .code yX3_fateOf cX3_fateOf 3 (some .int), .fieldLink RX3 9 "StampMaker$Ledger" "fates" "[B", .methodLink RX3 24 yX3_isSerial, .static yX3_isSerial, .code yX3_isSerial cX3_isSerial 2 (some .boolean), .constantLong RX3 22 (16384), .methodLink RX4 124 yX3_giveBack, .instanceMethod yX3_giveBack, .selects RX3 yX3_giveBack yX3_giveBack, .code yX3_giveBack cX3_giveBack 2 none] ++ wsX40 ++ wsX30 ++ (vx_atM "java/lang/ArrayIndexOutOfBoundsException" ["java/lang/IndexOutOfBoundsException", "java/lang/RuntimeException", "java/lang/Exception"]).filter goodWord)
def wsX4_digest : List Cond := .code yX4_digest cX4_digest 2 (some .byte) :: ([.fieldLink RX4 36 "StampMaker" "latestDigest" "LStampMaker$Digest;", .classLink RX4 132 RJx00060, .instantiable RJx00060 6, .initialized RJx00060, .methodLink RX4 128 yX0_isReckoned, .instanceMethod yX0_isReckoned, .selects RX0 yX0_isReckoned yX0_isReckoned, .initialized RX0, .code yX0_isReckoned cX0_isReckoned 1 (some .boolean), .fieldLink RX0 16 "StampMaker$Digest" "reckoned" "Z", .methodLink RX4 135 yX0_octetAt, .instanceMethod yX0_octetAt, .selects RX0 yX0_octetAt yX0_octetAt, .code yX0_octetAt cX0_octetAt 2 (some .byte), .fieldLink RX0 13 "StampMaker$Digest" "state" "[I"] ++ wsX40 ++ wsJx000600 ++ wsX00 ++ (vx_atM "java/lang/ArrayIndexOutOfBoundsException" ["java/lang/IndexOutOfBoundsException", "java/lang/RuntimeException", "java/lang/Exception"]).filter goodWord)
def wsX4_spent : List Cond := .code yX4_spent cX4_spent 3 (some .int) :: ([.fieldLink RX4 29 "StampMaker" "ledger" "LStampMaker$Ledger;", .methodLink RX4 121 yX3_fateOf, .instanceMethod yX3_fateOf, .selects RX3 yX3_fateOf yX3_fateOf, .initialized RX3, .code yX3_fateOf cX3_fateOf 3 (some .int), .fieldLink RX3 9 "StampMaker$Ledger" "fates" "[B", .methodLink RX3 24 yX3_isSerial, .static yX3_isSerial, .code yX3_isSerial cX3_isSerial 2 (some .boolean), .constantLong RX3 22 (16384)] ++ wsX40 ++ wsX30 ++ (vx_atM "java/lang/ArrayIndexOutOfBoundsException" ["java/lang/IndexOutOfBoundsException", "java/lang/RuntimeException", "java/lang/Exception"]).filter goodWord)
def wsX4_serial : List Cond := .code yX4_serial cX4_serial 1 (some .long) :: ([.fieldLink RX4 68 "StampMaker" "made" "I"] ++ wsX40)
def wsX5_init_r1 : List Cond := [Cond.methodLink RX5 1 objectInit, Cond.instanceMethod objectInit, Cond.code objectInit ⟨#[0xb1]⟩ 1 none, Cond.arrayClass .int, Cond.fieldLink RX5 7 "StampMakerModel" "from" "[I", Cond.fieldLink RX5 13 "StampMakerModel" "until" "[I", Cond.fieldLink RX5 16 "StampMakerModel" "sizes" "[I", Cond.arrayClass .boolean, Cond.fieldLink RX5 19 "StampMakerModel" "used" "[Z", Cond.arrayClass .byte, Cond.fieldLink RX5 23 "StampMakerModel" "secret" "[B", Cond.fieldLink RX5 27 "StampMakerModel" "letters" "[I", Cond.fieldLink RX5 30 "StampMakerModel" "signs" "[I", Cond.fieldLink RX5 33 "StampMakerModel" "became" "[B", Cond.fieldLink RX5 36 "StampMakerModel" "spentDay" "[I", Cond.fieldLink RX5 39 "StampMakerModel" "spentBy" "[I", Cond.fieldLink RX5 42 "StampMakerModel" "told" "I", Cond.fieldLink RX5 46 "StampMakerModel" "digest" "[B", Cond.fieldLink RX5 49 "StampMakerModel" "w" "[I", Cond.fieldLink RX5 52 "StampMakerModel" "state" "[I", Cond.constant RX5 55 (1116352408), Cond.constant RX5 56 (1899447441), Cond.constant RX5 57 (-1245643825), Cond.constant RX5 58 (-373957723)]
def wsX5_init_r2 : List Cond := [Cond.constant RX5 59 (961987163), Cond.constant RX5 60 (1508970993), Cond.constant RX5 61 (-1841331548), Cond.constant RX5 62 (-1424204075), Cond.constant RX5 63 (-670586216), Cond.constant RX5 64 (310598401), Cond.constant RX5 65 (607225278), Cond.constant RX5 66 (1426881987), Cond.constant RX5 67 (1925078388), Cond.constant RX5 68 (-2132889090), Cond.constant RX5 69 (-1680079193), Cond.constant RX5 70 (-1046744716), Cond.constant RX5 71 (-459576895), Cond.constant RX5 72 (-272742522), Cond.constant RX5 73 (264347078), Cond.constant RX5 74 (604807628), Cond.constant RX5 75 (770255983), Cond.constant RX5 76 (1249150122), Cond.constant RX5 77 (1555081692), Cond.constant RX5 78 (1996064986), Cond.constant RX5 79 (-1740746414), Cond.constant RX5 80 (-1473132947), Cond.constant RX5 81 (-1341970488), Cond.constant RX5 82 (-1084653625)]
def wsX5_init_r3 : List Cond := [Cond.constant RX5 83 (-958395405), Cond.constant RX5 84 (-710438585), Cond.constant RX5 85 (113926993), Cond.constant RX5 86 (338241895), Cond.constant RX5 87 (666307205), Cond.constant RX5 88 (773529912), Cond.constant RX5 89 (1294757372), Cond.constant RX5 90 (1396182291), Cond.constant RX5 91 (1695183700), Cond.constant RX5 92 (1986661051), Cond.constant RX5 93 (-2117940946), Cond.constant RX5 94 (-1838011259), Cond.constant RX5 95 (-1564481375), Cond.constant RX5 96 (-1474664885), Cond.constant RX5 97 (-1035236496), Cond.constant RX5 98 (-949202525), Cond.constant RX5 99 (-778901479), Cond.constant RX5 100 (-694614492), Cond.constant RX5 101 (-200395387), Cond.constant RX5 102 (275423344), Cond.constant RX5 103 (430227734), Cond.constant RX5 104 (506948616), Cond.constant RX5 105 (659060556), Cond.constant RX5 106 (883997877)]
def wsX5_init_r4 : List Cond := [Cond.constant RX5 107 (958139571), Cond.constant RX5 108 (1322822218), Cond.constant RX5 109 (1537002063), Cond.constant RX5 110 (1747873779), Cond.constant RX5 111 (1955562222), Cond.constant RX5 112 (2024104815), Cond.constant RX5 113 (-2067236844), Cond.constant RX5 114 (-1933114872), Cond.constant RX5 115 (-1866530822), Cond.constant RX5 116 (-1538233109), Cond.constant RX5 117 (-1090935817), Cond.constant RX5 118 (-965641998), Cond.fieldLink RX5 119 "StampMakerModel" "roots" "[I", Cond.constant RX5 122 (1779033703), Cond.constant RX5 123 (-1150833019), Cond.constant RX5 124 (1013904242), Cond.constant RX5 125 (-1521486534), Cond.constant RX5 126 (1359893119), Cond.constant RX5 127 (-1694144372), Cond.constant RX5 128 (528734635), Cond.constant RX5 129 (1541459225), Cond.fieldLink RX5 130 "StampMakerModel" "begins" "[I", Cond.fieldLink RX5 133 "StampMakerModel" "keys" "I"]
def wsX5_init : List Cond := .code yX5_init cX5_init 1 none :: ((wsX5_init_r1 ++ (wsX5_init_r2 ++ (wsX5_init_r3 ++ wsX5_init_r4))) ++ wsX50 ++ (vx_atM "java/lang/ArrayIndexOutOfBoundsException" ["java/lang/IndexOutOfBoundsException", "java/lang/RuntimeException", "java/lang/Exception"]).filter goodWord)
def wsX5_thrown : List Cond := .code yX5_thrown cX5_thrown 1 (some .int) :: ([.fieldLink RX5 136 "StampMakerModel" "thrown" "I"] ++ wsX50)
def wsX5_within : List Cond := .code yX5_within cX5_within 6 (some .boolean) :: ([])
def wsX5_isKey : List Cond := .code yX5_isKey cX5_isKey 2 (some .boolean) :: ([.fieldLink RX5 133 "StampMakerModel" "keys" "I", .methodLink RX5 139 yX5_within, .static yX5_within, .initialized RX5, .code yX5_within cX5_within 6 (some .boolean)] ++ wsX50)
def wsX5_key : List Cond := .code yX5_key cX5_key 5 (some .int) :: ([.fieldLink RX5 136 "StampMakerModel" "thrown" "I", .constantLong RX5 143 (65535), .fieldLink RX5 133 "StampMakerModel" "keys" "I", .fieldLink RX5 7 "StampMakerModel" "from" "[I", .fieldLink RX5 13 "StampMakerModel" "until" "[I"] ++ wsX50 ++ (vx_atM "java/lang/ArrayIndexOutOfBoundsException" ["java/lang/IndexOutOfBoundsException", "java/lang/RuntimeException", "java/lang/Exception"]).filter goodWord)
def wsX5_octet : List Cond := .code yX5_octet cX5_octet 3 none :: ([.fieldLink RX5 136 "StampMakerModel" "thrown" "I", .fieldLink RX5 16 "StampMakerModel" "sizes" "[I", .fieldLink RX5 19 "StampMakerModel" "used" "[Z", .fieldLink RX5 23 "StampMakerModel" "secret" "[B", .methodLink RX5 145 yX5_isKey, .instanceMethod yX5_isKey, .selects RX5 yX5_isKey yX5_isKey, .initialized RX5, .code yX5_isKey cX5_isKey 2 (some .boolean), .fieldLink RX5 133 "StampMakerModel" "keys" "I", .methodLink RX5 139 yX5_within, .static yX5_within, .code yX5_within cX5_within 6 (some .boolean)] ++ wsX50 ++ (vx_atM "java/lang/ArrayIndexOutOfBoundsException" ["java/lang/IndexOutOfBoundsException", "java/lang/RuntimeException", "java/lang/Exception"]).filter goodWord)
def wsX5_turn : List Cond := .code yX5_turn cX5_turn 2 (some .int) :: ([])
def wsX5_bitAt : List Cond := .code yX5_bitAt cX5_bitAt 6 (some .int) :: ([.fieldLink RX5 16 "StampMakerModel" "sizes" "[I", .fieldLink RX5 23 "StampMakerModel" "secret" "[B"] ++ wsX50 ++ (vx_atM "java/lang/ArrayIndexOutOfBoundsException" ["java/lang/IndexOutOfBoundsException", "java/lang/RuntimeException", "java/lang/Exception"]).filter goodWord)
def wsX5_reckon : List Cond := .code yX5_reckon cX5_reckon 10 none :: ([.fieldLink RX5 49 "StampMakerModel" "w" "[I", .fieldLink RX5 52 "StampMakerModel" "state" "[I", .fieldLink RX5 130 "StampMakerModel" "begins" "[I", .fieldLink RX5 119 "StampMakerModel" "roots" "[I", .fieldLink RX5 46 "StampMakerModel" "digest" "[B", .fieldLink RX5 157 "StampMakerModel" "reckoned" "Z", .methodLink RX5 149 yX5_bitAt, .instanceMethod yX5_bitAt, .selects RX5 yX5_bitAt yX5_bitAt, .initialized RX5, .code yX5_bitAt cX5_bitAt 6 (some .int), .fieldLink RX5 16 "StampMakerModel" "sizes" "[I", .fieldLink RX5 23 "StampMakerModel" "secret" "[B", .methodLink RX5 153 yX5_turn, .static yX5_turn, .code yX5_turn cX5_turn 2 (some .int)] ++ wsX50 ++ (vx_atM "java/lang/ArrayIndexOutOfBoundsException" ["java/lang/IndexOutOfBoundsException", "java/lang/RuntimeException", "java/lang/Exception"]).filter goodWord)
def wsX5_five : List Cond := .code yX5_five cX5_five 4 (some .int) :: ([.fieldLink RX5 46 "StampMakerModel" "digest" "[B"] ++ wsX50 ++ (vx_atM "java/lang/ArrayIndexOutOfBoundsException" ["java/lang/IndexOutOfBoundsException", "java/lang/RuntimeException", "java/lang/Exception"]).filter goodWord)
def wsX5_sign_r1 : List Cond := [Cond.methodLink RX5 163 yJ0_charAt_5068e, Cond.instanceMethod yJ0_charAt_5068e, Cond.selects RJ0 yJ0_charAt_5068e yJ0_charAt_5068e, Cond.initialized RJ0, Cond.code yJ0_charAt_5068e cJ0_charAt_5068e 2 (some .char), Cond.fieldLink RJ0 9 "java/lang/String" "value" "[B", Cond.methodLink RJ0 492 yJ0_isLatin1_aae02, Cond.instanceMethod yJ0_isLatin1_aae02, Cond.selects RJ0 yJ0_isLatin1_aae02 yJ0_isLatin1_aae02, Cond.code yJ0_isLatin1_aae02 cJ0_isLatin1_aae02 1 (some .boolean), Cond.fieldLink RJ0 38 "java/lang/String" "COMPACT_STRINGS" "Z", Cond.fieldLink RJ0 15 "java/lang/String" "coder" "B", Cond.methodLink RJ0 495 yJ1_charAt_3b067, Cond.static yJ1_charAt_3b067, Cond.initialized RJ1, Cond.code yJ1_charAt_3b067 cJ1_charAt_3b067 2 (some .char), Cond.methodLink RJ1 9 yJ0_checkIndex_df160, Cond.static yJ0_checkIndex_df160, Cond.code yJ0_checkIndex_df160 cJ0_checkIndex_df160 2 none, Cond.fieldLink RJ0 1053 "jdk/internal/util/Preconditions" "SIOOBE_FORMATTER" "Ljava/util/function/BiFunction;", Cond.methodLink RJ0 1059 yJ3_checkIndex_8e157, Cond.static yJ3_checkIndex_8e157, Cond.initialized RJ3, Cond.code yJ3_checkIndex_8e157 cJ3_checkIndex_8e157 3 (some .int)]
def wsX5_sign_r2 : List Cond := [Cond.methodLink RJ0 498 yJ2_charAt_3b067, Cond.static yJ2_charAt_3b067, Cond.initialized RJ2, Cond.code yJ2_charAt_3b067 cJ2_charAt_3b067 2 (some .char), Cond.methodLink RJ2 67 yJ2_checkIndex_2214a, Cond.static yJ2_checkIndex_2214a, Cond.code yJ2_checkIndex_2214a cJ2_checkIndex_2214a 2 none, Cond.methodLink RJ2 48 yJ2_length_9d52b, Cond.static yJ2_length_9d52b, Cond.code yJ2_length_9d52b cJ2_length_9d52b 1 (some .int), Cond.methodLink RJ2 414 yJ0_checkIndex_df160, Cond.methodLink RJ2 71 yJ2_getChar_3b067, Cond.static yJ2_getChar_3b067, Cond.code yJ2_getChar_3b067 cJ2_getChar_3b067 2 (some .char), Cond.fieldLink RJ2 44 "java/lang/StringUTF16" "$assertionsDisabled" "Z", Cond.fieldLink RJ2 59 "java/lang/StringUTF16" "HI_BYTE_SHIFT" "I", Cond.fieldLink RJ2 63 "java/lang/StringUTF16" "LO_BYTE_SHIFT" "I"]
def wsX5_sign : List Cond := .code yX5_sign cX5_sign 1 (some .int) :: ((wsX5_sign_r1 ++ wsX5_sign_r2) ++ wsJ00)
def wsX5_valueOf_r1 : List Cond := [Cond.methodLink RX5 169 yX5_sign, Cond.static yX5_sign, Cond.initialized RX5, Cond.code yX5_sign cX5_sign 1 (some .int), Cond.methodLink RX5 163 yJ0_charAt_5068e, Cond.instanceMethod yJ0_charAt_5068e, Cond.selects RJ0 yJ0_charAt_5068e yJ0_charAt_5068e, Cond.initialized RJ0, Cond.code yJ0_charAt_5068e cJ0_charAt_5068e 2 (some .char), Cond.fieldLink RJ0 9 "java/lang/String" "value" "[B", Cond.methodLink RJ0 492 yJ0_isLatin1_aae02, Cond.instanceMethod yJ0_isLatin1_aae02, Cond.selects RJ0 yJ0_isLatin1_aae02 yJ0_isLatin1_aae02, Cond.code yJ0_isLatin1_aae02 cJ0_isLatin1_aae02 1 (some .boolean), Cond.fieldLink RJ0 38 "java/lang/String" "COMPACT_STRINGS" "Z", Cond.fieldLink RJ0 15 "java/lang/String" "coder" "B", Cond.methodLink RJ0 495 yJ1_charAt_3b067, Cond.static yJ1_charAt_3b067, Cond.initialized RJ1, Cond.code yJ1_charAt_3b067 cJ1_charAt_3b067 2 (some .char), Cond.methodLink RJ1 9 yJ0_checkIndex_df160, Cond.static yJ0_checkIndex_df160, Cond.code yJ0_checkIndex_df160 cJ0_checkIndex_df160 2 none, Cond.fieldLink RJ0 1053 "jdk/internal/util/Preconditions" "SIOOBE_FORMATTER" "Ljava/util/function/BiFunction;"]
def wsX5_valueOf_r2 : List Cond := [Cond.methodLink RJ0 1059 yJ3_checkIndex_8e157, Cond.static yJ3_checkIndex_8e157, Cond.initialized RJ3, Cond.code yJ3_checkIndex_8e157 cJ3_checkIndex_8e157 3 (some .int), Cond.methodLink RJ0 498 yJ2_charAt_3b067, Cond.static yJ2_charAt_3b067, Cond.initialized RJ2, Cond.code yJ2_charAt_3b067 cJ2_charAt_3b067 2 (some .char), Cond.methodLink RJ2 67 yJ2_checkIndex_2214a, Cond.static yJ2_checkIndex_2214a, Cond.code yJ2_checkIndex_2214a cJ2_checkIndex_2214a 2 none, Cond.methodLink RJ2 48 yJ2_length_9d52b, Cond.static yJ2_length_9d52b, Cond.code yJ2_length_9d52b cJ2_length_9d52b 1 (some .int), Cond.methodLink RJ2 414 yJ0_checkIndex_df160, Cond.methodLink RJ2 71 yJ2_getChar_3b067, Cond.static yJ2_getChar_3b067, Cond.code yJ2_getChar_3b067 cJ2_getChar_3b067 2 (some .char), Cond.fieldLink RJ2 44 "java/lang/StringUTF16" "$assertionsDisabled" "Z", Cond.fieldLink RJ2 59 "java/lang/StringUTF16" "HI_BYTE_SHIFT" "I", Cond.fieldLink RJ2 63 "java/lang/StringUTF16" "LO_BYTE_SHIFT" "I"]
def wsX5_valueOf : List Cond := .code yX5_valueOf cX5_valueOf 2 (some .int) :: ((wsX5_valueOf_r1 ++ wsX5_valueOf_r2) ++ wsJ00)
def wsX5_make_r1 : List Cond := [Cond.fieldLink RX5 136 "StampMakerModel" "thrown" "I", Cond.constantLong RX5 173 (99999), Cond.constantLong RX5 175 (9), Cond.constantLong RX5 143 (65535), Cond.fieldLink RX5 7 "StampMakerModel" "from" "[I", Cond.fieldLink RX5 13 "StampMakerModel" "until" "[I", Cond.fieldLink RX5 177 "StampMakerModel" "serial" "I", Cond.constantLong RX5 180 (16), Cond.constantLong RX5 182 (131072), Cond.constantLong RX5 184 (65536), Cond.constantLong RX5 186 (16384), Cond.fieldLink RX5 27 "StampMakerModel" "letters" "[I", Cond.constantLong RX5 192 (31), Cond.fieldLink RX5 197 "StampMakerModel" "has" "Z", Cond.fieldLink RX5 19 "StampMakerModel" "used" "[Z", Cond.methodLink RX5 145 yX5_isKey, Cond.instanceMethod yX5_isKey, Cond.selects RX5 yX5_isKey yX5_isKey, Cond.initialized RX5, Cond.code yX5_isKey cX5_isKey 2 (some .boolean), Cond.fieldLink RX5 133 "StampMakerModel" "keys" "I", Cond.methodLink RX5 139 yX5_within, Cond.static yX5_within, Cond.code yX5_within cX5_within 6 (some .boolean)]
def wsX5_make_r2 : List Cond := [Cond.methodLink RX5 188 yX5_reckon, Cond.instanceMethod yX5_reckon, Cond.selects RX5 yX5_reckon yX5_reckon, Cond.code yX5_reckon cX5_reckon 10 none, Cond.fieldLink RX5 49 "StampMakerModel" "w" "[I", Cond.fieldLink RX5 52 "StampMakerModel" "state" "[I", Cond.fieldLink RX5 130 "StampMakerModel" "begins" "[I", Cond.fieldLink RX5 119 "StampMakerModel" "roots" "[I", Cond.fieldLink RX5 46 "StampMakerModel" "digest" "[B", Cond.fieldLink RX5 157 "StampMakerModel" "reckoned" "Z", Cond.methodLink RX5 149 yX5_bitAt, Cond.instanceMethod yX5_bitAt, Cond.selects RX5 yX5_bitAt yX5_bitAt, Cond.code yX5_bitAt cX5_bitAt 6 (some .int), Cond.fieldLink RX5 16 "StampMakerModel" "sizes" "[I", Cond.fieldLink RX5 23 "StampMakerModel" "secret" "[B", Cond.methodLink RX5 153 yX5_turn, Cond.static yX5_turn, Cond.code yX5_turn cX5_turn 2 (some .int), Cond.methodLink RX5 194 yX5_five, Cond.instanceMethod yX5_five, Cond.selects RX5 yX5_five yX5_five, Cond.code yX5_five cX5_five 4 (some .int), Cond.methodLink RX5 169 yX5_sign]
def wsX5_make_r3 : List Cond := [Cond.static yX5_sign, Cond.code yX5_sign cX5_sign 1 (some .int), Cond.methodLink RX5 163 yJ0_charAt_5068e, Cond.instanceMethod yJ0_charAt_5068e, Cond.selects RJ0 yJ0_charAt_5068e yJ0_charAt_5068e, Cond.initialized RJ0, Cond.code yJ0_charAt_5068e cJ0_charAt_5068e 2 (some .char), Cond.fieldLink RJ0 9 "java/lang/String" "value" "[B", Cond.methodLink RJ0 492 yJ0_isLatin1_aae02, Cond.instanceMethod yJ0_isLatin1_aae02, Cond.selects RJ0 yJ0_isLatin1_aae02 yJ0_isLatin1_aae02, Cond.code yJ0_isLatin1_aae02 cJ0_isLatin1_aae02 1 (some .boolean), Cond.fieldLink RJ0 38 "java/lang/String" "COMPACT_STRINGS" "Z", Cond.fieldLink RJ0 15 "java/lang/String" "coder" "B", Cond.methodLink RJ0 495 yJ1_charAt_3b067, Cond.static yJ1_charAt_3b067, Cond.initialized RJ1, Cond.code yJ1_charAt_3b067 cJ1_charAt_3b067 2 (some .char), Cond.methodLink RJ1 9 yJ0_checkIndex_df160, Cond.static yJ0_checkIndex_df160, Cond.code yJ0_checkIndex_df160 cJ0_checkIndex_df160 2 none, Cond.fieldLink RJ0 1053 "jdk/internal/util/Preconditions" "SIOOBE_FORMATTER" "Ljava/util/function/BiFunction;", Cond.methodLink RJ0 1059 yJ3_checkIndex_8e157, Cond.static yJ3_checkIndex_8e157]
def wsX5_make_r4 : List Cond := [Cond.initialized RJ3, Cond.code yJ3_checkIndex_8e157 cJ3_checkIndex_8e157 3 (some .int), Cond.methodLink RJ0 498 yJ2_charAt_3b067, Cond.static yJ2_charAt_3b067, Cond.initialized RJ2, Cond.code yJ2_charAt_3b067 cJ2_charAt_3b067 2 (some .char), Cond.methodLink RJ2 67 yJ2_checkIndex_2214a, Cond.static yJ2_checkIndex_2214a, Cond.code yJ2_checkIndex_2214a cJ2_checkIndex_2214a 2 none, Cond.methodLink RJ2 48 yJ2_length_9d52b, Cond.static yJ2_length_9d52b, Cond.code yJ2_length_9d52b cJ2_length_9d52b 1 (some .int), Cond.methodLink RJ2 414 yJ0_checkIndex_df160, Cond.methodLink RJ2 71 yJ2_getChar_3b067, Cond.static yJ2_getChar_3b067, Cond.code yJ2_getChar_3b067 cJ2_getChar_3b067 2 (some .char), Cond.fieldLink RJ2 44 "java/lang/StringUTF16" "$assertionsDisabled" "Z", Cond.fieldLink RJ2 59 "java/lang/StringUTF16" "HI_BYTE_SHIFT" "I", Cond.fieldLink RJ2 63 "java/lang/StringUTF16" "LO_BYTE_SHIFT" "I"]
def wsX5_make : List Cond := .code yX5_make cX5_make 9 (some .int) :: ((wsX5_make_r1 ++ (wsX5_make_r2 ++ (wsX5_make_r3 ++ wsX5_make_r4))) ++ wsX50 ++ wsJ00 ++ (vx_atM "java/lang/ArrayIndexOutOfBoundsException" ["java/lang/IndexOutOfBoundsException", "java/lang/RuntimeException", "java/lang/Exception"]).filter goodWord)
def wsX5_letter : List Cond := .code yX5_letter cX5_letter 2 (some .int) :: ([.fieldLink RX5 136 "StampMakerModel" "thrown" "I", .fieldLink RX5 197 "StampMakerModel" "has" "Z", .constantLong RX5 200 (15), .fieldLink RX5 27 "StampMakerModel" "letters" "[I", .methodLink RX5 139 yX5_within, .static yX5_within, .initialized RX5, .code yX5_within cX5_within 6 (some .boolean)] ++ wsX50 ++ (vx_atM "java/lang/ArrayIndexOutOfBoundsException" ["java/lang/IndexOutOfBoundsException", "java/lang/RuntimeException", "java/lang/Exception"]).filter goodWord)
def wsX5_type : List Cond := .code yX5_type cX5_type 2 none :: ([.fieldLink RX5 136 "StampMakerModel" "thrown" "I", .fieldLink RX5 202 "StampMakerModel" "typed" "I", .fieldLink RX5 30 "StampMakerModel" "signs" "[I"] ++ wsX50 ++ (vx_atM "java/lang/ArrayIndexOutOfBoundsException" ["java/lang/IndexOutOfBoundsException", "java/lang/RuntimeException", "java/lang/Exception"]).filter goodWord)
def wsX5_reasonOf_r1 : List Cond := [Cond.fieldLink RX5 202 "StampMakerModel" "typed" "I", Cond.fieldLink RX5 30 "StampMakerModel" "signs" "[I", Cond.constantLong RX5 214 (32), Cond.constantLong RX5 200 (15), Cond.constantLong RX5 216 (131071), Cond.constantLong RX5 143 (65535), Cond.constantLong RX5 218 (16383), Cond.constantLong RX5 173 (99999), Cond.fieldLink RX5 7 "StampMakerModel" "from" "[I", Cond.fieldLink RX5 13 "StampMakerModel" "until" "[I", Cond.fieldLink RX5 33 "StampMakerModel" "became" "[B", Cond.fieldLink RX5 42 "StampMakerModel" "told" "I", Cond.fieldLink RX5 36 "StampMakerModel" "spentDay" "[I", Cond.fieldLink RX5 39 "StampMakerModel" "spentBy" "[I", Cond.fieldLink RX5 205 "StampMakerModel" "checks" "I", Cond.methodLink RX5 211 yX5_valueOf, Cond.static yX5_valueOf, Cond.initialized RX5, Cond.code yX5_valueOf cX5_valueOf 2 (some .int), Cond.methodLink RX5 169 yX5_sign, Cond.static yX5_sign, Cond.code yX5_sign cX5_sign 1 (some .int), Cond.methodLink RX5 163 yJ0_charAt_5068e, Cond.instanceMethod yJ0_charAt_5068e]
def wsX5_reasonOf_r2 : List Cond := [Cond.selects RJ0 yJ0_charAt_5068e yJ0_charAt_5068e, Cond.initialized RJ0, Cond.code yJ0_charAt_5068e cJ0_charAt_5068e 2 (some .char), Cond.fieldLink RJ0 9 "java/lang/String" "value" "[B", Cond.methodLink RJ0 492 yJ0_isLatin1_aae02, Cond.instanceMethod yJ0_isLatin1_aae02, Cond.selects RJ0 yJ0_isLatin1_aae02 yJ0_isLatin1_aae02, Cond.code yJ0_isLatin1_aae02 cJ0_isLatin1_aae02 1 (some .boolean), Cond.fieldLink RJ0 38 "java/lang/String" "COMPACT_STRINGS" "Z", Cond.fieldLink RJ0 15 "java/lang/String" "coder" "B", Cond.methodLink RJ0 495 yJ1_charAt_3b067, Cond.static yJ1_charAt_3b067, Cond.initialized RJ1, Cond.code yJ1_charAt_3b067 cJ1_charAt_3b067 2 (some .char), Cond.methodLink RJ1 9 yJ0_checkIndex_df160, Cond.static yJ0_checkIndex_df160, Cond.code yJ0_checkIndex_df160 cJ0_checkIndex_df160 2 none, Cond.fieldLink RJ0 1053 "jdk/internal/util/Preconditions" "SIOOBE_FORMATTER" "Ljava/util/function/BiFunction;", Cond.methodLink RJ0 1059 yJ3_checkIndex_8e157, Cond.static yJ3_checkIndex_8e157, Cond.initialized RJ3, Cond.code yJ3_checkIndex_8e157 cJ3_checkIndex_8e157 3 (some .int), Cond.methodLink RJ0 498 yJ2_charAt_3b067, Cond.static yJ2_charAt_3b067]
def wsX5_reasonOf_r3 : List Cond := [Cond.initialized RJ2, Cond.code yJ2_charAt_3b067 cJ2_charAt_3b067 2 (some .char), Cond.methodLink RJ2 67 yJ2_checkIndex_2214a, Cond.static yJ2_checkIndex_2214a, Cond.code yJ2_checkIndex_2214a cJ2_checkIndex_2214a 2 none, Cond.methodLink RJ2 48 yJ2_length_9d52b, Cond.static yJ2_length_9d52b, Cond.code yJ2_length_9d52b cJ2_length_9d52b 1 (some .int), Cond.methodLink RJ2 414 yJ0_checkIndex_df160, Cond.methodLink RJ2 71 yJ2_getChar_3b067, Cond.static yJ2_getChar_3b067, Cond.code yJ2_getChar_3b067 cJ2_getChar_3b067 2 (some .char), Cond.fieldLink RJ2 44 "java/lang/StringUTF16" "$assertionsDisabled" "Z", Cond.fieldLink RJ2 59 "java/lang/StringUTF16" "HI_BYTE_SHIFT" "I", Cond.fieldLink RJ2 63 "java/lang/StringUTF16" "LO_BYTE_SHIFT" "I", Cond.methodLink RX5 145 yX5_isKey, Cond.instanceMethod yX5_isKey, Cond.selects RX5 yX5_isKey yX5_isKey, Cond.code yX5_isKey cX5_isKey 2 (some .boolean), Cond.fieldLink RX5 133 "StampMakerModel" "keys" "I", Cond.methodLink RX5 139 yX5_within, Cond.static yX5_within, Cond.code yX5_within cX5_within 6 (some .boolean), Cond.methodLink RX5 188 yX5_reckon]
def wsX5_reasonOf_r4 : List Cond := [Cond.instanceMethod yX5_reckon, Cond.selects RX5 yX5_reckon yX5_reckon, Cond.code yX5_reckon cX5_reckon 10 none, Cond.fieldLink RX5 49 "StampMakerModel" "w" "[I", Cond.fieldLink RX5 52 "StampMakerModel" "state" "[I", Cond.fieldLink RX5 130 "StampMakerModel" "begins" "[I", Cond.fieldLink RX5 119 "StampMakerModel" "roots" "[I", Cond.fieldLink RX5 46 "StampMakerModel" "digest" "[B", Cond.fieldLink RX5 157 "StampMakerModel" "reckoned" "Z", Cond.methodLink RX5 149 yX5_bitAt, Cond.instanceMethod yX5_bitAt, Cond.selects RX5 yX5_bitAt yX5_bitAt, Cond.code yX5_bitAt cX5_bitAt 6 (some .int), Cond.fieldLink RX5 16 "StampMakerModel" "sizes" "[I", Cond.fieldLink RX5 23 "StampMakerModel" "secret" "[B", Cond.methodLink RX5 153 yX5_turn, Cond.static yX5_turn, Cond.code yX5_turn cX5_turn 2 (some .int), Cond.methodLink RX5 194 yX5_five, Cond.instanceMethod yX5_five, Cond.selects RX5 yX5_five yX5_five, Cond.code yX5_five cX5_five 4 (some .int)]
def wsX5_reasonOf : List Cond := .code yX5_reasonOf cX5_reasonOf 10 (some .int) :: ((wsX5_reasonOf_r1 ++ (wsX5_reasonOf_r2 ++ (wsX5_reasonOf_r3 ++ wsX5_reasonOf_r4))) ++ wsX50 ++ wsJ00 ++ (vx_atM "java/lang/ArrayIndexOutOfBoundsException" ["java/lang/IndexOutOfBoundsException", "java/lang/RuntimeException", "java/lang/Exception"]).filter goodWord)
def wsX5_check_r1 : List Cond := [Cond.fieldLink RX5 136 "StampMakerModel" "thrown" "I", Cond.constantLong RX5 143 (65535), Cond.fieldLink RX5 205 "StampMakerModel" "checks" "I", Cond.fieldLink RX5 202 "StampMakerModel" "typed" "I", Cond.methodLink RX5 139 yX5_within, Cond.static yX5_within, Cond.initialized RX5, Cond.code yX5_within cX5_within 6 (some .boolean), Cond.methodLink RX5 208 yX5_reasonOf, Cond.instanceMethod yX5_reasonOf, Cond.selects RX5 yX5_reasonOf yX5_reasonOf, Cond.code yX5_reasonOf cX5_reasonOf 10 (some .int), Cond.fieldLink RX5 30 "StampMakerModel" "signs" "[I", Cond.constantLong RX5 214 (32), Cond.constantLong RX5 200 (15), Cond.constantLong RX5 216 (131071), Cond.constantLong RX5 218 (16383), Cond.constantLong RX5 173 (99999), Cond.fieldLink RX5 7 "StampMakerModel" "from" "[I", Cond.fieldLink RX5 13 "StampMakerModel" "until" "[I", Cond.fieldLink RX5 33 "StampMakerModel" "became" "[B", Cond.fieldLink RX5 42 "StampMakerModel" "told" "I", Cond.fieldLink RX5 36 "StampMakerModel" "spentDay" "[I", Cond.fieldLink RX5 39 "StampMakerModel" "spentBy" "[I"]
def wsX5_check_r2 : List Cond := [Cond.methodLink RX5 211 yX5_valueOf, Cond.static yX5_valueOf, Cond.code yX5_valueOf cX5_valueOf 2 (some .int), Cond.methodLink RX5 169 yX5_sign, Cond.static yX5_sign, Cond.code yX5_sign cX5_sign 1 (some .int), Cond.methodLink RX5 163 yJ0_charAt_5068e, Cond.instanceMethod yJ0_charAt_5068e, Cond.selects RJ0 yJ0_charAt_5068e yJ0_charAt_5068e, Cond.initialized RJ0, Cond.code yJ0_charAt_5068e cJ0_charAt_5068e 2 (some .char), Cond.fieldLink RJ0 9 "java/lang/String" "value" "[B", Cond.methodLink RJ0 492 yJ0_isLatin1_aae02, Cond.instanceMethod yJ0_isLatin1_aae02, Cond.selects RJ0 yJ0_isLatin1_aae02 yJ0_isLatin1_aae02, Cond.code yJ0_isLatin1_aae02 cJ0_isLatin1_aae02 1 (some .boolean), Cond.fieldLink RJ0 38 "java/lang/String" "COMPACT_STRINGS" "Z", Cond.fieldLink RJ0 15 "java/lang/String" "coder" "B", Cond.methodLink RJ0 495 yJ1_charAt_3b067, Cond.static yJ1_charAt_3b067, Cond.initialized RJ1, Cond.code yJ1_charAt_3b067 cJ1_charAt_3b067 2 (some .char), Cond.methodLink RJ1 9 yJ0_checkIndex_df160, Cond.static yJ0_checkIndex_df160]
def wsX5_check_r3 : List Cond := [Cond.code yJ0_checkIndex_df160 cJ0_checkIndex_df160 2 none, Cond.fieldLink RJ0 1053 "jdk/internal/util/Preconditions" "SIOOBE_FORMATTER" "Ljava/util/function/BiFunction;", Cond.methodLink RJ0 1059 yJ3_checkIndex_8e157, Cond.static yJ3_checkIndex_8e157, Cond.initialized RJ3, Cond.code yJ3_checkIndex_8e157 cJ3_checkIndex_8e157 3 (some .int), Cond.methodLink RJ0 498 yJ2_charAt_3b067, Cond.static yJ2_charAt_3b067, Cond.initialized RJ2, Cond.code yJ2_charAt_3b067 cJ2_charAt_3b067 2 (some .char), Cond.methodLink RJ2 67 yJ2_checkIndex_2214a, Cond.static yJ2_checkIndex_2214a, Cond.code yJ2_checkIndex_2214a cJ2_checkIndex_2214a 2 none, Cond.methodLink RJ2 48 yJ2_length_9d52b, Cond.static yJ2_length_9d52b, Cond.code yJ2_length_9d52b cJ2_length_9d52b 1 (some .int), Cond.methodLink RJ2 414 yJ0_checkIndex_df160, Cond.methodLink RJ2 71 yJ2_getChar_3b067, Cond.static yJ2_getChar_3b067, Cond.code yJ2_getChar_3b067 cJ2_getChar_3b067 2 (some .char), Cond.fieldLink RJ2 44 "java/lang/StringUTF16" "$assertionsDisabled" "Z", Cond.fieldLink RJ2 59 "java/lang/StringUTF16" "HI_BYTE_SHIFT" "I", Cond.fieldLink RJ2 63 "java/lang/StringUTF16" "LO_BYTE_SHIFT" "I", Cond.methodLink RX5 145 yX5_isKey]
def wsX5_check_r4 : List Cond := [Cond.instanceMethod yX5_isKey, Cond.selects RX5 yX5_isKey yX5_isKey, Cond.code yX5_isKey cX5_isKey 2 (some .boolean), Cond.fieldLink RX5 133 "StampMakerModel" "keys" "I", Cond.methodLink RX5 188 yX5_reckon, Cond.instanceMethod yX5_reckon, Cond.selects RX5 yX5_reckon yX5_reckon, Cond.code yX5_reckon cX5_reckon 10 none, Cond.fieldLink RX5 49 "StampMakerModel" "w" "[I", Cond.fieldLink RX5 52 "StampMakerModel" "state" "[I", Cond.fieldLink RX5 130 "StampMakerModel" "begins" "[I", Cond.fieldLink RX5 119 "StampMakerModel" "roots" "[I", Cond.fieldLink RX5 46 "StampMakerModel" "digest" "[B", Cond.fieldLink RX5 157 "StampMakerModel" "reckoned" "Z", Cond.methodLink RX5 149 yX5_bitAt, Cond.instanceMethod yX5_bitAt, Cond.selects RX5 yX5_bitAt yX5_bitAt, Cond.code yX5_bitAt cX5_bitAt 6 (some .int), Cond.fieldLink RX5 16 "StampMakerModel" "sizes" "[I", Cond.fieldLink RX5 23 "StampMakerModel" "secret" "[B", Cond.methodLink RX5 153 yX5_turn, Cond.static yX5_turn, Cond.code yX5_turn cX5_turn 2 (some .int), Cond.methodLink RX5 194 yX5_five]
def wsX5_check_r5 : List Cond := [Cond.instanceMethod yX5_five, Cond.selects RX5 yX5_five yX5_five, Cond.code yX5_five cX5_five 4 (some .int)]
def wsX5_check : List Cond := .code yX5_check cX5_check 4 (some .int) :: ((wsX5_check_r1 ++ (wsX5_check_r2 ++ (wsX5_check_r3 ++ (wsX5_check_r4 ++ wsX5_check_r5)))) ++ wsX50 ++ wsJ00 ++ (vx_atM "java/lang/ArrayIndexOutOfBoundsException" ["java/lang/IndexOutOfBoundsException", "java/lang/RuntimeException", "java/lang/Exception"]).filter goodWord)
def wsX5_first : List Cond := .code yX5_first cX5_first 2 (some .int) :: ([.fieldLink RX5 136 "StampMakerModel" "thrown" "I", .constantLong RX5 220 (2), .fieldLink RX5 42 "StampMakerModel" "told" "I", .fieldLink RX5 36 "StampMakerModel" "spentDay" "[I", .fieldLink RX5 39 "StampMakerModel" "spentBy" "[I", .methodLink RX5 139 yX5_within, .static yX5_within, .initialized RX5, .code yX5_within cX5_within 6 (some .boolean)] ++ wsX50 ++ (vx_atM "java/lang/ArrayIndexOutOfBoundsException" ["java/lang/IndexOutOfBoundsException", "java/lang/RuntimeException", "java/lang/Exception"]).filter goodWord)
def wsX5_refund : List Cond := .code yX5_refund cX5_refund 3 (some .int) :: ([.fieldLink RX5 136 "StampMakerModel" "thrown" "I", .fieldLink RX5 177 "StampMakerModel" "serial" "I", .fieldLink RX5 33 "StampMakerModel" "became" "[B", .methodLink RX5 139 yX5_within, .static yX5_within, .initialized RX5, .code yX5_within cX5_within 6 (some .boolean)] ++ wsX50 ++ (vx_atM "java/lang/ArrayIndexOutOfBoundsException" ["java/lang/IndexOutOfBoundsException", "java/lang/RuntimeException", "java/lang/Exception"]).filter goodWord)
def wsX5_digest : List Cond := .code yX5_digest cX5_digest 2 (some .byte) :: ([.fieldLink RX5 157 "StampMakerModel" "reckoned" "Z", .constantLong RX5 192 (31), .fieldLink RX5 136 "StampMakerModel" "thrown" "I", .fieldLink RX5 46 "StampMakerModel" "digest" "[B", .methodLink RX5 139 yX5_within, .static yX5_within, .initialized RX5, .code yX5_within cX5_within 6 (some .boolean)] ++ wsX50 ++ (vx_atM "java/lang/ArrayIndexOutOfBoundsException" ["java/lang/IndexOutOfBoundsException", "java/lang/RuntimeException", "java/lang/Exception"]).filter goodWord)
def wsX5_spent : List Cond := .code yX5_spent cX5_spent 3 (some .int) :: ([.fieldLink RX5 136 "StampMakerModel" "thrown" "I", .constantLong RX5 218 (16383), .fieldLink RX5 33 "StampMakerModel" "became" "[B", .methodLink RX5 139 yX5_within, .static yX5_within, .initialized RX5, .code yX5_within cX5_within 6 (some .boolean)] ++ wsX50 ++ (vx_atM "java/lang/ArrayIndexOutOfBoundsException" ["java/lang/IndexOutOfBoundsException", "java/lang/RuntimeException", "java/lang/Exception"]).filter goodWord)
def wsX5_serial : List Cond := .code yX5_serial cX5_serial 1 (some .long) :: ([.fieldLink RX5 136 "StampMakerModel" "thrown" "I", .fieldLink RX5 177 "StampMakerModel" "serial" "I"] ++ wsX50)
def wsJx00060_init_da8c8 : List Cond := .code yJx00060_init_da8c8 cJx00060_init_da8c8 1 none :: ([])
def wsJx00060_init_a7421 : List Cond := .code yJx00060_init_a7421 cJx00060_init_a7421 2 none :: ([])
def wsL_digest : List Cond := .codeWith yL_digest cL_digest 4 (some .int) [(0, 9, 12, 13)] :: ([.classLink RL 13 "java/lang/ArrayIndexOutOfBoundsException", .methodLink RL 7 yX4_digest, .instanceMethod yX4_digest, .selects RX4 yX4_digest yX4_digest, .initialized RX4, .code yX4_digest cX4_digest 2 (some .byte), .fieldLink RX4 36 "StampMaker" "latestDigest" "LStampMaker$Digest;", .classLink RX4 132 RJx00060, .instantiable RJx00060 6, .initialized RJx00060, .methodLink RX4 128 yX0_isReckoned, .instanceMethod yX0_isReckoned, .selects RX0 yX0_isReckoned yX0_isReckoned, .initialized RX0, .code yX0_isReckoned cX0_isReckoned 1 (some .boolean), .fieldLink RX0 16 "StampMaker$Digest" "reckoned" "Z", .methodLink RX4 135 yX0_octetAt, .instanceMethod yX0_octetAt, .selects RX0 yX0_octetAt yX0_octetAt, .code yX0_octetAt cX0_octetAt 2 (some .byte), .fieldLink RX0 13 "StampMaker$Digest" "state" "[I"] ++ wsX40 ++ wsJx000600 ++ wsX00 ++ (vx_atM "java/lang/ArrayIndexOutOfBoundsException" ["java/lang/IndexOutOfBoundsException", "java/lang/RuntimeException", "java/lang/Exception"]).filter goodWord)
def wsL_law0_r1 : List Cond := [Cond.classLink RL 8 RX4, Cond.instantiable RX4 10, Cond.initialized RX4, Cond.classLink RL 16 RX5, Cond.instantiable RX5 23, Cond.initialized RX5, Cond.arrayClass .long, Cond.constantLong RL 19 (4294967295), Cond.methodLink RL 15 yX4_init, Cond.instanceMethod yX4_init, Cond.code yX4_init cX4_init 1 none, Cond.methodLink RX4 1 objectInit, Cond.instanceMethod objectInit, Cond.code objectInit ⟨#[0xb1]⟩ 1 none, Cond.classLink RX4 9 RX2, Cond.fieldLink RX4 11 "StampMaker" "keys" "[LStampMaker$Key;", Cond.arrayClass .int, Cond.fieldLink RX4 15 "StampMaker" "latestLetters" "[I", Cond.fieldLink RX4 19 "StampMaker" "typed" "[I", Cond.fieldLink RX4 22 "StampMaker" "latestSpent" "I", Cond.classLink RX4 26 RX3, Cond.instantiable RX3 3, Cond.initialized RX3, Cond.fieldLink RX4 29 "StampMaker" "ledger" "LStampMaker$Ledger;"]
def wsL_law0_r2 : List Cond := [Cond.classLink RX4 33 RX0, Cond.instantiable RX0 3, Cond.initialized RX0, Cond.fieldLink RX4 36 "StampMaker" "latestDigest" "LStampMaker$Digest;", Cond.instanceMethod yX3_init, Cond.code yX3_init cX3_init 1 none, Cond.methodLink RX3 3 objectInit, Cond.arrayClass .byte, Cond.fieldLink RX3 9 "StampMaker$Ledger" "fates" "[B", Cond.fieldLink RX3 15 "StampMaker$Ledger" "days" "[I", Cond.fieldLink RX3 19 "StampMaker$Ledger" "checks" "[I", Cond.instanceMethod yX0_init, Cond.code yX0_init cX0_init 1 none, Cond.methodLink RX0 1 objectInit, Cond.fieldLink RX0 9 "StampMaker$Digest" "w" "[I", Cond.fieldLink RX0 13 "StampMaker$Digest" "state" "[I", Cond.methodLink RL 18 yX5_init, Cond.instanceMethod yX5_init, Cond.code yX5_init cX5_init 1 none, Cond.methodLink RX5 1 objectInit, Cond.fieldLink RX5 7 "StampMakerModel" "from" "[I", Cond.fieldLink RX5 13 "StampMakerModel" "until" "[I", Cond.fieldLink RX5 16 "StampMakerModel" "sizes" "[I", Cond.arrayClass .boolean]
def wsL_law0_r3 : List Cond := [Cond.fieldLink RX5 19 "StampMakerModel" "used" "[Z", Cond.fieldLink RX5 23 "StampMakerModel" "secret" "[B", Cond.fieldLink RX5 27 "StampMakerModel" "letters" "[I", Cond.fieldLink RX5 30 "StampMakerModel" "signs" "[I", Cond.fieldLink RX5 33 "StampMakerModel" "became" "[B", Cond.fieldLink RX5 36 "StampMakerModel" "spentDay" "[I", Cond.fieldLink RX5 39 "StampMakerModel" "spentBy" "[I", Cond.fieldLink RX5 42 "StampMakerModel" "told" "I", Cond.fieldLink RX5 46 "StampMakerModel" "digest" "[B", Cond.fieldLink RX5 49 "StampMakerModel" "w" "[I", Cond.fieldLink RX5 52 "StampMakerModel" "state" "[I", Cond.constant RX5 55 (1116352408), Cond.constant RX5 56 (1899447441), Cond.constant RX5 57 (-1245643825), Cond.constant RX5 58 (-373957723), Cond.constant RX5 59 (961987163), Cond.constant RX5 60 (1508970993), Cond.constant RX5 61 (-1841331548), Cond.constant RX5 62 (-1424204075), Cond.constant RX5 63 (-670586216), Cond.constant RX5 64 (310598401), Cond.constant RX5 65 (607225278), Cond.constant RX5 66 (1426881987), Cond.constant RX5 67 (1925078388)]
def wsL_law0_r4 : List Cond := [Cond.constant RX5 68 (-2132889090), Cond.constant RX5 69 (-1680079193), Cond.constant RX5 70 (-1046744716), Cond.constant RX5 71 (-459576895), Cond.constant RX5 72 (-272742522), Cond.constant RX5 73 (264347078), Cond.constant RX5 74 (604807628), Cond.constant RX5 75 (770255983), Cond.constant RX5 76 (1249150122), Cond.constant RX5 77 (1555081692), Cond.constant RX5 78 (1996064986), Cond.constant RX5 79 (-1740746414), Cond.constant RX5 80 (-1473132947), Cond.constant RX5 81 (-1341970488), Cond.constant RX5 82 (-1084653625), Cond.constant RX5 83 (-958395405), Cond.constant RX5 84 (-710438585), Cond.constant RX5 85 (113926993), Cond.constant RX5 86 (338241895), Cond.constant RX5 87 (666307205), Cond.constant RX5 88 (773529912), Cond.constant RX5 89 (1294757372), Cond.constant RX5 90 (1396182291), Cond.constant RX5 91 (1695183700)]
def wsL_law0_r5 : List Cond := [Cond.constant RX5 92 (1986661051), Cond.constant RX5 93 (-2117940946), Cond.constant RX5 94 (-1838011259), Cond.constant RX5 95 (-1564481375), Cond.constant RX5 96 (-1474664885), Cond.constant RX5 97 (-1035236496), Cond.constant RX5 98 (-949202525), Cond.constant RX5 99 (-778901479), Cond.constant RX5 100 (-694614492), Cond.constant RX5 101 (-200395387), Cond.constant RX5 102 (275423344), Cond.constant RX5 103 (430227734), Cond.constant RX5 104 (506948616), Cond.constant RX5 105 (659060556), Cond.constant RX5 106 (883997877), Cond.constant RX5 107 (958139571), Cond.constant RX5 108 (1322822218), Cond.constant RX5 109 (1537002063), Cond.constant RX5 110 (1747873779), Cond.constant RX5 111 (1955562222), Cond.constant RX5 112 (2024104815), Cond.constant RX5 113 (-2067236844), Cond.constant RX5 114 (-1933114872), Cond.constant RX5 115 (-1866530822)]
def wsL_law0_r6 : List Cond := [Cond.constant RX5 116 (-1538233109), Cond.constant RX5 117 (-1090935817), Cond.constant RX5 118 (-965641998), Cond.fieldLink RX5 119 "StampMakerModel" "roots" "[I", Cond.constant RX5 122 (1779033703), Cond.constant RX5 123 (-1150833019), Cond.constant RX5 124 (1013904242), Cond.constant RX5 125 (-1521486534), Cond.constant RX5 126 (1359893119), Cond.constant RX5 127 (-1694144372), Cond.constant RX5 128 (528734635), Cond.constant RX5 129 (1541459225), Cond.fieldLink RX5 130 "StampMakerModel" "begins" "[I", Cond.fieldLink RX5 133 "StampMakerModel" "keys" "I", Cond.methodLink RL 21 yX4_key, Cond.instanceMethod yX4_key, Cond.selects RX4 yX4_key yX4_key, Cond.code yX4_key cX4_key 5 (some .int), Cond.fieldLink RX4 44 "StampMaker" "keyCount" "I", Cond.instantiable RX2 5, Cond.initialized RX2, Cond.methodLink RX4 40 yX4_isDay, Cond.static yX4_isDay, Cond.code yX4_isDay cX4_isDay 2 (some .boolean)]
def wsL_law0_r7 : List Cond := [Cond.constantLong RX4 139 (65535), Cond.methodLink RX4 47 yX2_init, Cond.instanceMethod yX2_init, Cond.code yX2_init cX2_init 3 none, Cond.methodLink RX2 1 objectInit, Cond.fieldLink RX2 9 "StampMaker$Key" "bytes" "[B", Cond.fieldLink RX2 13 "StampMaker$Key" "from" "I", Cond.fieldLink RX2 17 "StampMaker$Key" "until" "I", Cond.methodLink RL 25 yX5_key, Cond.instanceMethod yX5_key, Cond.selects RX5 yX5_key yX5_key, Cond.code yX5_key cX5_key 5 (some .int), Cond.fieldLink RX5 136 "StampMakerModel" "thrown" "I", Cond.constantLong RX5 143 (65535), Cond.methodLink RL 26 yX4_octet, Cond.instanceMethod yX4_octet, Cond.selects RX4 yX4_octet yX4_octet, Cond.code yX4_octet cX4_octet 4 none, Cond.methodLink RX4 50 yX4_keyNumbered, Cond.instanceMethod yX4_keyNumbered, Cond.selects RX4 yX4_keyNumbered yX4_keyNumbered, Cond.code yX4_keyNumbered cX4_keyNumbered 2 (some (.object "StampMaker$Key")), Cond.methodLink RX4 54 yX2_take, Cond.instanceMethod yX2_take]
def wsL_law0_r8 : List Cond := [Cond.selects RX2 yX2_take yX2_take, Cond.code yX2_take cX2_take 2 none, Cond.fieldLink RX2 20 "StampMaker$Key" "closed" "Z", Cond.fieldLink RX2 24 "StampMaker$Key" "count" "I", Cond.methodLink RL 30 yX5_octet, Cond.instanceMethod yX5_octet, Cond.selects RX5 yX5_octet yX5_octet, Cond.code yX5_octet cX5_octet 3 none, Cond.methodLink RX5 145 yX5_isKey, Cond.instanceMethod yX5_isKey, Cond.selects RX5 yX5_isKey yX5_isKey, Cond.code yX5_isKey cX5_isKey 2 (some .boolean), Cond.methodLink RX5 139 yX5_within, Cond.static yX5_within, Cond.code yX5_within cX5_within 6 (some .boolean), Cond.methodLink RL 31 yX4_make, Cond.instanceMethod yX4_make, Cond.selects RX4 yX4_make yX4_make, Cond.code yX4_make cX4_make 9 (some .int), Cond.fieldLink RX4 68 "StampMaker" "made" "I", Cond.methodLink RX4 58 yX4_isValue, Cond.static yX4_isValue, Cond.code yX4_isValue cX4_isValue 1 (some .boolean), Cond.constant RX4 141 (99999)]
def wsL_law0_r9 : List Cond := [Cond.methodLink RX4 62 yX4_isKind, Cond.static yX4_isKind, Cond.code yX4_isKind cX4_isKind 1 (some .boolean), Cond.methodLink RX4 65 yX2_holdsOn, Cond.instanceMethod yX2_holdsOn, Cond.selects RX2 yX2_holdsOn yX2_holdsOn, Cond.code yX2_holdsOn cX2_holdsOn 3 (some .boolean), Cond.methodLink RX4 71 yX1_joined, Cond.static yX1_joined, Cond.initialized RX1, Cond.code yX1_joined cX1_joined 5 (some .long), Cond.methodLink RX4 77 yX2_close, Cond.instanceMethod yX2_close, Cond.selects RX2 yX2_close yX2_close, Cond.code yX2_close cX2_close 1 none, Cond.methodLink RX4 80 yX0_reckon, Cond.instanceMethod yX0_reckon, Cond.selects RX0 yX0_reckon yX0_reckon, Cond.code yX0_reckon cX0_reckon 5 none, Cond.fieldLink RX0 33 "StampMaker$Digest" "START" "[I", Cond.fieldLink RX0 16 "StampMaker$Digest" "reckoned" "Z", Cond.methodLink RX0 20 yX0_numberOf, Cond.static yX0_numberOf, Cond.code yX0_numberOf cX0_numberOf 6 (some .int)]
def wsL_law0_r10 : List Cond := [Cond.methodLink RX0 39 yX0_blockByte, Cond.static yX0_blockByte, Cond.code yX0_blockByte cX0_blockByte 5 (some .int), Cond.methodLink RX0 24 yX2_size, Cond.instanceMethod yX2_size, Cond.selects RX2 yX2_size yX2_size, Cond.code yX2_size cX2_size 1 (some .int), Cond.methodLink RX0 42 yX2_octetAt, Cond.instanceMethod yX2_octetAt, Cond.selects RX2 yX2_octetAt yX2_octetAt, Cond.code yX2_octetAt cX2_octetAt 2 (some .int), Cond.methodLink RX0 30 yX0_stretch, Cond.instanceMethod yX0_stretch, Cond.selects RX0 yX0_stretch yX0_stretch, Cond.code yX0_stretch cX0_stretch 6 none, Cond.methodLink RX0 46 yX0_ror, Cond.static yX0_ror, Cond.code yX0_ror cX0_ror 2 (some .int), Cond.methodLink RX0 36 yX0_mix, Cond.instanceMethod yX0_mix, Cond.selects RX0 yX0_mix yX0_mix, Cond.code yX0_mix cX0_mix 12 none, Cond.fieldLink RX0 50 "StampMaker$Digest" "ROUND_NUMBERS" "[I", Cond.methodLink RX4 84 yX0_firstBits]
def wsL_law0_r11 : List Cond := [Cond.instanceMethod yX0_firstBits, Cond.selects RX0 yX0_firstBits yX0_firstBits, Cond.code yX0_firstBits cX0_firstBits 1 (some .int), Cond.methodLink RX4 88 yX4_writeLetters, Cond.instanceMethod yX4_writeLetters, Cond.selects RX4 yX4_writeLetters yX4_writeLetters, Cond.code yX4_writeLetters cX4_writeLetters 5 none, Cond.methodLink RX4 142 yX4_letterFor, Cond.static yX4_letterFor, Cond.code yX4_letterFor cX4_letterFor 1 (some .int), Cond.methodLink RX4 147 yJ0_charAt_5068e, Cond.instanceMethod yJ0_charAt_5068e, Cond.selects RJ0 yJ0_charAt_5068e yJ0_charAt_5068e, Cond.initialized RJ0, Cond.code yJ0_charAt_5068e cJ0_charAt_5068e 2 (some .char), Cond.fieldLink RJ0 9 "java/lang/String" "value" "[B", Cond.methodLink RJ0 492 yJ0_isLatin1_aae02, Cond.instanceMethod yJ0_isLatin1_aae02, Cond.selects RJ0 yJ0_isLatin1_aae02 yJ0_isLatin1_aae02, Cond.code yJ0_isLatin1_aae02 cJ0_isLatin1_aae02 1 (some .boolean), Cond.fieldLink RJ0 38 "java/lang/String" "COMPACT_STRINGS" "Z", Cond.fieldLink RJ0 15 "java/lang/String" "coder" "B", Cond.methodLink RJ0 495 yJ1_charAt_3b067, Cond.static yJ1_charAt_3b067]
def wsL_law0_r12 : List Cond := [Cond.initialized RJ1, Cond.code yJ1_charAt_3b067 cJ1_charAt_3b067 2 (some .char), Cond.methodLink RJ1 9 yJ0_checkIndex_df160, Cond.static yJ0_checkIndex_df160, Cond.code yJ0_checkIndex_df160 cJ0_checkIndex_df160 2 none, Cond.fieldLink RJ0 1053 "jdk/internal/util/Preconditions" "SIOOBE_FORMATTER" "Ljava/util/function/BiFunction;", Cond.methodLink RJ0 1059 yJ3_checkIndex_8e157, Cond.static yJ3_checkIndex_8e157, Cond.initialized RJ3, Cond.code yJ3_checkIndex_8e157 cJ3_checkIndex_8e157 3 (some .int), Cond.methodLink RJ0 498 yJ2_charAt_3b067, Cond.static yJ2_charAt_3b067, Cond.initialized RJ2, Cond.code yJ2_charAt_3b067 cJ2_charAt_3b067 2 (some .char), Cond.methodLink RJ2 67 yJ2_checkIndex_2214a, Cond.static yJ2_checkIndex_2214a, Cond.code yJ2_checkIndex_2214a cJ2_checkIndex_2214a 2 none, Cond.methodLink RJ2 48 yJ2_length_9d52b, Cond.static yJ2_length_9d52b, Cond.code yJ2_length_9d52b cJ2_length_9d52b 1 (some .int), Cond.methodLink RJ2 414 yJ0_checkIndex_df160, Cond.methodLink RJ2 71 yJ2_getChar_3b067, Cond.static yJ2_getChar_3b067, Cond.code yJ2_getChar_3b067 cJ2_getChar_3b067 2 (some .char)]
def wsL_law0_r13 : List Cond := [Cond.fieldLink RJ2 44 "java/lang/StringUTF16" "$assertionsDisabled" "Z", Cond.fieldLink RJ2 59 "java/lang/StringUTF16" "HI_BYTE_SHIFT" "I", Cond.fieldLink RJ2 63 "java/lang/StringUTF16" "LO_BYTE_SHIFT" "I", Cond.methodLink RL 35 yX5_make, Cond.instanceMethod yX5_make, Cond.selects RX5 yX5_make yX5_make, Cond.code yX5_make cX5_make 9 (some .int), Cond.constantLong RX5 173 (99999), Cond.constantLong RX5 175 (9), Cond.fieldLink RX5 177 "StampMakerModel" "serial" "I", Cond.constantLong RX5 180 (16), Cond.constantLong RX5 182 (131072), Cond.constantLong RX5 184 (65536), Cond.constantLong RX5 186 (16384), Cond.constantLong RX5 192 (31), Cond.fieldLink RX5 197 "StampMakerModel" "has" "Z", Cond.methodLink RX5 188 yX5_reckon, Cond.instanceMethod yX5_reckon, Cond.selects RX5 yX5_reckon yX5_reckon, Cond.code yX5_reckon cX5_reckon 10 none, Cond.fieldLink RX5 157 "StampMakerModel" "reckoned" "Z", Cond.methodLink RX5 149 yX5_bitAt, Cond.instanceMethod yX5_bitAt, Cond.selects RX5 yX5_bitAt yX5_bitAt]
def wsL_law0_r14 : List Cond := [Cond.code yX5_bitAt cX5_bitAt 6 (some .int), Cond.methodLink RX5 153 yX5_turn, Cond.static yX5_turn, Cond.code yX5_turn cX5_turn 2 (some .int), Cond.methodLink RX5 194 yX5_five, Cond.instanceMethod yX5_five, Cond.selects RX5 yX5_five yX5_five, Cond.code yX5_five cX5_five 4 (some .int), Cond.methodLink RX5 169 yX5_sign, Cond.static yX5_sign, Cond.code yX5_sign cX5_sign 1 (some .int), Cond.methodLink RX5 163 yJ0_charAt_5068e, Cond.methodLink RL 36 yX4_letter, Cond.instanceMethod yX4_letter, Cond.selects RX4 yX4_letter yX4_letter, Cond.code yX4_letter cX4_letter 2 (some .int), Cond.methodLink RL 40 yX5_letter, Cond.instanceMethod yX5_letter, Cond.selects RX5 yX5_letter yX5_letter, Cond.code yX5_letter cX5_letter 2 (some .int), Cond.constantLong RX5 200 (15), Cond.methodLink RL 41 yX4_type, Cond.instanceMethod yX4_type, Cond.selects RX4 yX4_type yX4_type]
def wsL_law0_r15 : List Cond := [Cond.code yX4_type cX4_type 2 none, Cond.fieldLink RX4 92 "StampMaker" "typedCount" "I", Cond.methodLink RL 45 yX5_type, Cond.instanceMethod yX5_type, Cond.selects RX5 yX5_type yX5_type, Cond.code yX5_type cX5_type 2 none, Cond.fieldLink RX5 202 "StampMakerModel" "typed" "I", Cond.methodLink RL 46 yX4_check, Cond.instanceMethod yX4_check, Cond.selects RX4 yX4_check yX4_check, Cond.code yX4_check cX4_check 9 (some .int), Cond.fieldLink RX4 95 "StampMaker" "checkCount" "I", Cond.methodLink RX4 98 yX4_typedBits, Cond.instanceMethod yX4_typedBits, Cond.selects RX4 yX4_typedBits yX4_typedBits, Cond.code yX4_typedBits cX4_typedBits 7 (some .long), Cond.constantLong RX4 156 (-1), Cond.methodLink RX4 153 yX4_worthOf, Cond.static yX4_worthOf, Cond.code yX4_worthOf cX4_worthOf 2 (some .int), Cond.methodLink RX4 158 yJ0_length_8abf5, Cond.instanceMethod yJ0_length_8abf5, Cond.selects RJ0 yJ0_length_8abf5 yJ0_length_8abf5, Cond.code yJ0_length_8abf5 cJ0_length_8abf5 1 (some .int)]
def wsL_law0_r16 : List Cond := [Cond.methodLink RJ0 335 yJ0_coder_7d493, Cond.instanceMethod yJ0_coder_7d493, Cond.selects RJ0 yJ0_coder_7d493 yJ0_coder_7d493, Cond.code yJ0_coder_7d493 cJ0_coder_7d493 1 (some .byte), Cond.methodLink RX4 102 yX4_reasonAgainst, Cond.instanceMethod yX4_reasonAgainst, Cond.selects RX4 yX4_reasonAgainst yX4_reasonAgainst, Cond.code yX4_reasonAgainst cX4_reasonAgainst 8 (some .int), Cond.methodLink RX4 161 yX1_keyOf, Cond.static yX1_keyOf, Cond.code yX1_keyOf cX1_keyOf 2 (some .int), Cond.methodLink RX4 164 yX1_kindOf, Cond.static yX1_kindOf, Cond.code yX1_kindOf cX1_kindOf 2 (some .int), Cond.methodLink RX4 167 yX1_valueOf, Cond.static yX1_valueOf, Cond.code yX1_valueOf cX1_valueOf 2 (some .int), Cond.constant RX1 7 (131071), Cond.methodLink RX4 170 yX1_dayOf, Cond.static yX1_dayOf, Cond.code yX1_dayOf cX1_dayOf 2 (some .int), Cond.constant RX1 8 (65535), Cond.methodLink RX4 106 yX1_serialOf, Cond.static yX1_serialOf]
def wsL_law0_r17 : List Cond := [Cond.code yX1_serialOf cX1_serialOf 2 (some .int), Cond.methodLink RX4 110 yX4_accepted, Cond.instanceMethod yX4_accepted, Cond.selects RX4 yX4_accepted yX4_accepted, Cond.code yX4_accepted cX4_accepted 4 (some .int), Cond.methodLink RX4 121 yX3_fateOf, Cond.instanceMethod yX3_fateOf, Cond.selects RX3 yX3_fateOf yX3_fateOf, Cond.code yX3_fateOf cX3_fateOf 3 (some .int), Cond.methodLink RX3 24 yX3_isSerial, Cond.static yX3_isSerial, Cond.code yX3_isSerial cX3_isSerial 2 (some .boolean), Cond.constantLong RX3 22 (16384), Cond.methodLink RX4 172 yX3_spend, Cond.instanceMethod yX3_spend, Cond.selects RX3 yX3_spend yX3_spend, Cond.code yX3_spend cX3_spend 4 none, Cond.methodLink RL 50 yX5_check, Cond.instanceMethod yX5_check, Cond.selects RX5 yX5_check yX5_check, Cond.code yX5_check cX5_check 4 (some .int), Cond.fieldLink RX5 205 "StampMakerModel" "checks" "I", Cond.methodLink RX5 208 yX5_reasonOf, Cond.instanceMethod yX5_reasonOf]
def wsL_law0_r18 : List Cond := [Cond.selects RX5 yX5_reasonOf yX5_reasonOf, Cond.code yX5_reasonOf cX5_reasonOf 10 (some .int), Cond.constantLong RX5 214 (32), Cond.constantLong RX5 216 (131071), Cond.constantLong RX5 218 (16383), Cond.methodLink RX5 211 yX5_valueOf, Cond.static yX5_valueOf, Cond.code yX5_valueOf cX5_valueOf 2 (some .int), Cond.methodLink RL 51 yX4_first, Cond.instanceMethod yX4_first, Cond.selects RX4 yX4_first yX4_first, Cond.code yX4_first cX4_first 2 (some .int), Cond.methodLink RX4 114 yX3_dayOf, Cond.instanceMethod yX3_dayOf, Cond.selects RX3 yX3_dayOf yX3_dayOf, Cond.code yX3_dayOf cX3_dayOf 2 (some .int), Cond.methodLink RX4 118 yX3_checkOf, Cond.instanceMethod yX3_checkOf, Cond.selects RX3 yX3_checkOf yX3_checkOf, Cond.code yX3_checkOf cX3_checkOf 2 (some .int), Cond.methodLink RL 54 yX5_first, Cond.instanceMethod yX5_first, Cond.selects RX5 yX5_first yX5_first, Cond.code yX5_first cX5_first 2 (some .int)]
def wsL_law0_r19 : List Cond := [Cond.constantLong RX5 220 (2), Cond.methodLink RL 55 yX4_refund, Cond.instanceMethod yX4_refund, Cond.selects RX4 yX4_refund yX4_refund, Cond.code yX4_refund cX4_refund 3 (some .int), Cond.methodLink RX4 124 yX3_giveBack, Cond.instanceMethod yX3_giveBack, Cond.selects RX3 yX3_giveBack yX3_giveBack, Cond.code yX3_giveBack cX3_giveBack 2 none, Cond.methodLink RL 58 yX5_refund, Cond.instanceMethod yX5_refund, Cond.selects RX5 yX5_refund yX5_refund, Cond.code yX5_refund cX5_refund 3 (some .int), Cond.methodLink RL 59 yL_digest, Cond.static yL_digest, Cond.initialized RL, Cond.codeWith yL_digest cL_digest 4 (some .int) [(0, 9, 12, 13)], Cond.classLink RL 13 "java/lang/ArrayIndexOutOfBoundsException", Cond.methodLink RL 7 yX4_digest, Cond.instanceMethod yX4_digest, Cond.selects RX4 yX4_digest yX4_digest, Cond.code yX4_digest cX4_digest 2 (some .byte), Cond.classLink RX4 132 RJx00060, Cond.instantiable RJx00060 6]
def wsL_law0_r20 : List Cond := [Cond.initialized RJx00060, Cond.methodLink RX4 128 yX0_isReckoned, Cond.instanceMethod yX0_isReckoned, Cond.selects RX0 yX0_isReckoned yX0_isReckoned, Cond.code yX0_isReckoned cX0_isReckoned 1 (some .boolean), Cond.methodLink RX4 135 yX0_octetAt, Cond.instanceMethod yX0_octetAt, Cond.selects RX0 yX0_octetAt yX0_octetAt, Cond.code yX0_octetAt cX0_octetAt 2 (some .byte), Cond.methodLink RL 64 yX5_digest, Cond.instanceMethod yX5_digest, Cond.selects RX5 yX5_digest yX5_digest, Cond.code yX5_digest cX5_digest 2 (some .byte), Cond.methodLink RL 65 yX5_thrown, Cond.instanceMethod yX5_thrown, Cond.selects RX5 yX5_thrown yX5_thrown, Cond.code yX5_thrown cX5_thrown 1 (some .int), Cond.methodLink RL 69 yX4_spent, Cond.instanceMethod yX4_spent, Cond.selects RX4 yX4_spent yX4_spent, Cond.code yX4_spent cX4_spent 3 (some .int), Cond.methodLink RL 72 yX5_spent, Cond.instanceMethod yX5_spent, Cond.selects RX5 yX5_spent yX5_spent]
def wsL_law0_r21 : List Cond := [Cond.code yX5_spent cX5_spent 3 (some .int), Cond.methodLink RL 73 yX4_serial, Cond.instanceMethod yX4_serial, Cond.selects RX4 yX4_serial yX4_serial, Cond.code yX4_serial cX4_serial 1 (some .long), Cond.methodLink RL 77 yX5_serial, Cond.instanceMethod yX5_serial, Cond.selects RX5 yX5_serial yX5_serial, Cond.code yX5_serial cX5_serial 1 (some .long)]
def wsL_law0 : List Cond := (wsL_law0_r1 ++ (wsL_law0_r2 ++ (wsL_law0_r3 ++ (wsL_law0_r4 ++ (wsL_law0_r5 ++ (wsL_law0_r6 ++ (wsL_law0_r7 ++ (wsL_law0_r8 ++ (wsL_law0_r9 ++ (wsL_law0_r10 ++ (wsL_law0_r11 ++ (wsL_law0_r12 ++ (wsL_law0_r13 ++ (wsL_law0_r14 ++ (wsL_law0_r15 ++ (wsL_law0_r16 ++ (wsL_law0_r17 ++ (wsL_law0_r18 ++ (wsL_law0_r19 ++ (wsL_law0_r20 ++ wsL_law0_r21)))))))))))))))))))) ++ wsX40 ++ wsX50 ++ wsX30 ++ wsX00 ++ wsX20 ++ wsJ00 ++ wsJx000600 ++ ([] : List Cond)
def wsL_law : List Cond := wsL_law0 ++ (vx_atM "java/lang/ArrayIndexOutOfBoundsException" ["java/lang/IndexOutOfBoundsException", "java/lang/RuntimeException", "java/lang/Exception"]).filter goodWord
end
section
set_option maxRecDepth 20000 in
theorem wsL_lin1 : ∀ w ∈ wsL_law0_r1, w ∈ lw_tbl := fun w h => (goodIn_p wsL_law0_r1 [33, 36] (by decide +kernel) (by decide +kernel) w h).1
set_option maxRecDepth 20000 in
theorem wsL_lin2 : ∀ w ∈ wsL_law0_r2, w ∈ lw_tbl := fun w h => (goodIn_p wsL_law0_r2 [43, 61, 451] (by decide +kernel) (by decide +kernel) w h).1
set_option maxRecDepth 20000 in
theorem wsL_lin3 : ∀ w ∈ wsL_law0_r3, w ∈ lw_tbl := fun w h => (goodIn_p wsL_law0_r3 [] (by decide +kernel) (by decide +kernel) w h).1
set_option maxRecDepth 20000 in
theorem wsL_lin4 : ∀ w ∈ wsL_law0_r4, w ∈ lw_tbl := fun w h => (goodIn_p wsL_law0_r4 [] (by decide +kernel) (by decide +kernel) w h).1
set_option maxRecDepth 20000 in
theorem wsL_lin5 : ∀ w ∈ wsL_law0_r5, w ∈ lw_tbl := fun w h => (goodIn_p wsL_law0_r5 [] (by decide +kernel) (by decide +kernel) w h).1
end
section
set_option maxRecDepth 20000 in
theorem wsL_lin6 : ∀ w ∈ wsL_law0_r6, w ∈ lw_tbl := fun w h => (goodIn_p wsL_law0_r6 [107, 110] (by decide +kernel) (by decide +kernel) w h).1
set_option maxRecDepth 20000 in
theorem wsL_lin7 : ∀ w ∈ wsL_law0_r7, w ∈ lw_tbl := fun w h => (goodIn_p wsL_law0_r7 [115, 603, 136, 140] (by decide +kernel) (by decide +kernel) w h).1
set_option maxRecDepth 20000 in
theorem wsL_lin8 : ∀ w ∈ wsL_law0_r8, w ∈ lw_tbl := fun w h => (goodIn_p wsL_law0_r8 [144, 608, 612, 615, 148, 151] (by decide +kernel) (by decide +kernel) w h).1
set_option maxRecDepth 20000 in
theorem wsL_lin9 : ∀ w ∈ wsL_law0_r9, w ∈ lw_tbl := fun w h => (goodIn_p wsL_law0_r9 [155, 159, 162, 166, 170, 173] (by decide +kernel) (by decide +kernel) w h).1
set_option maxRecDepth 20000 in
theorem wsL_lin10 : ∀ w ∈ wsL_law0_r10, w ∈ lw_tbl := fun w h => (goodIn_p wsL_law0_r10 [176, 180, 184, 188, 191, 197] (by decide +kernel) (by decide +kernel) w h).1
end
section
set_option maxRecDepth 20000 in
theorem wsL_lin11 : ∀ w ∈ wsL_law0_r11, w ∈ lw_tbl := fun w h => (goodIn_p wsL_law0_r11 [203, 207, 210, 215, 219] (by decide +kernel) (by decide +kernel) w h).1
set_option maxRecDepth 20000 in
theorem wsL_lin12 : ∀ w ∈ wsL_law0_r12, w ∈ lw_tbl := fun w h => (goodIn_p wsL_law0_r12 [224, 227, 232, 235, 238, 241, 245] (by decide +kernel) (by decide +kernel) w h).1
set_option maxRecDepth 20000 in
theorem wsL_lin13 : ∀ w ∈ wsL_law0_r13, w ∈ lw_tbl := fun w h => (goodIn_p wsL_law0_r13 [619, 629] (by decide +kernel) (by decide +kernel) w h).1
set_option maxRecDepth 20000 in
theorem wsL_lin14 : ∀ w ∈ wsL_law0_r14, w ∈ lw_tbl := fun w h => (goodIn_p wsL_law0_r14 [633, 636, 641, 644, 255, 650] (by decide +kernel) (by decide +kernel) w h).1
set_option maxRecDepth 20000 in
theorem wsL_lin15 : ∀ w ∈ wsL_law0_r15, w ∈ lw_tbl := fun w h => (goodIn_p wsL_law0_r15 [259, 655, 263, 267, 270, 274] (by decide +kernel) (by decide +kernel) w h).1
end
section
set_option maxRecDepth 20000 in
theorem wsL_lin16 : ∀ w ∈ wsL_law0_r16, w ∈ lw_tbl := fun w h => (goodIn_p wsL_law0_r16 [278, 283, 286, 289, 292, 296] (by decide +kernel) (by decide +kernel) w h).1
set_option maxRecDepth 20000 in
theorem wsL_lin17 : ∀ w ∈ wsL_law0_r17, w ∈ lw_tbl := fun w h => (goodIn_p wsL_law0_r17 [300, 304, 308, 311, 316, 659] (by decide +kernel) (by decide +kernel) w h).1
set_option maxRecDepth 20000 in
theorem wsL_lin18 : ∀ w ∈ wsL_law0_r18, w ∈ lw_tbl := fun w h => (goodIn_p wsL_law0_r18 [663, 666, 320, 324, 328, 673] (by decide +kernel) (by decide +kernel) w h).1
set_option maxRecDepth 20000 in
theorem wsL_lin19 : ∀ w ∈ wsL_law0_r19, w ∈ lw_tbl := fun w h => (goodIn_p wsL_law0_r19 [332, 336, 678, 424] (by decide +kernel) (by decide +kernel) w h).1
set_option maxRecDepth 20000 in
theorem wsL_lin20 : ∀ w ∈ wsL_law0_r20, w ∈ lw_tbl := fun w h => (goodIn_p wsL_law0_r20 [428, 446, 682, 599, 340] (by decide +kernel) (by decide +kernel) w h).1
set_option maxRecDepth 20000 in
theorem wsL_lin21 : ∀ w ∈ wsL_law0_r21, w ∈ lw_tbl := fun w h => (goodIn_p wsL_law0_r21 [686, 344, 690] (by decide +kernel) (by decide +kernel) w h).1
end
section
theorem wsL_memA {a b big : List Cond} (ha : ∀ w ∈ a, w ∈ big) (hb : ∀ w ∈ b, w ∈ big) : ∀ w ∈ a ++ b, w ∈ big := fun w h => (List.mem_append.mp h).elim (ha w) (hb w)
set_option maxRecDepth 20000 in
theorem wsL_lu_wsX40 : ∀ w ∈ wsX40, w ∈ lw_tbl := by decide +kernel
set_option maxRecDepth 20000 in
theorem wsL_lu_wsX50 : ∀ w ∈ wsX50, w ∈ lw_tbl := by decide +kernel
set_option maxRecDepth 20000 in
theorem wsL_lu_wsX30 : ∀ w ∈ wsX30, w ∈ lw_tbl := by decide +kernel
set_option maxRecDepth 20000 in
theorem wsL_lu_wsX00 : ∀ w ∈ wsX00, w ∈ lw_tbl := by decide +kernel
set_option maxRecDepth 20000 in
theorem wsL_lu_wsX20 : ∀ w ∈ wsX20, w ∈ lw_tbl := by decide +kernel
set_option maxRecDepth 20000 in
theorem wsL_lu_wsJ00 : ∀ w ∈ wsJ00, w ∈ lw_tbl := by decide +kernel
set_option maxRecDepth 20000 in
theorem wsL_lu_wsJx000600 : ∀ w ∈ wsJx000600, w ∈ lw_tbl := by decide +kernel
theorem wsL_law_in0 : ∀ w ∈ wsL_law0, w ∈ lw_tbl := wsL_memA (wsL_memA (wsL_memA (wsL_memA (wsL_memA (wsL_memA (wsL_memA (wsL_memA (wsL_memA wsL_lin1 (wsL_memA wsL_lin2 (wsL_memA wsL_lin3 (wsL_memA wsL_lin4 (wsL_memA wsL_lin5 (wsL_memA wsL_lin6 (wsL_memA wsL_lin7 (wsL_memA wsL_lin8 (wsL_memA wsL_lin9 (wsL_memA wsL_lin10 (wsL_memA wsL_lin11 (wsL_memA wsL_lin12 (wsL_memA wsL_lin13 (wsL_memA wsL_lin14 (wsL_memA wsL_lin15 (wsL_memA wsL_lin16 (wsL_memA wsL_lin17 (wsL_memA wsL_lin18 (wsL_memA wsL_lin19 (wsL_memA wsL_lin20 (wsL_lin21))))))))))))))))))))) wsL_lu_wsX40) wsL_lu_wsX50) wsL_lu_wsX30) wsL_lu_wsX00) wsL_lu_wsX20) wsL_lu_wsJ00) wsL_lu_wsJx000600) (fun _ h => absurd h List.not_mem_nil)
end
section
theorem wsL_law_x0 : ∀ w ∈ (vx_atM "java/lang/ArrayIndexOutOfBoundsException" ["java/lang/IndexOutOfBoundsException", "java/lang/RuntimeException", "java/lang/Exception"]).filter goodWord, w ∈ lw_tbl := by decide +kernel
theorem wsL_law_in : ∀ w ∈ wsL_law, w ∈ lw_tbl := fun w h => (List.mem_append.mp h).elim (fun h => wsL_law_in0 w h) (fun h => wsL_law_x0 w h)
theorem inlX0 : ∀ w ∈ wsX00, w ∈ wsL_law := fun _ h => List.mem_append_left _ (List.mem_append_left _ (List.mem_append_left _ (List.mem_append_left _ (List.mem_append_left _ (List.mem_append_right _ h)))))
theorem inX0 : ∀ w ∈ wsX00, w ∈ lw_tbl := fun w h => wsL_law_in w (inlX0 w h)
theorem inX1 : ∀ w ∈ wsX10, w ∈ lw_tbl := by decide +kernel
theorem inlX2 : ∀ w ∈ wsX20, w ∈ wsL_law := fun _ h => List.mem_append_left _ (List.mem_append_left _ (List.mem_append_left _ (List.mem_append_left _ (List.mem_append_right _ h))))
theorem inX2 : ∀ w ∈ wsX20, w ∈ lw_tbl := fun w h => wsL_law_in w (inlX2 w h)
theorem inlX3 : ∀ w ∈ wsX30, w ∈ wsL_law := fun _ h => List.mem_append_left _ (List.mem_append_left _ (List.mem_append_left _ (List.mem_append_left _ (List.mem_append_left _ (List.mem_append_left _ (List.mem_append_right _ h))))))
theorem inX3 : ∀ w ∈ wsX30, w ∈ lw_tbl := fun w h => wsL_law_in w (inlX3 w h)
theorem inlX4 : ∀ w ∈ wsX40, w ∈ wsL_law := fun _ h => List.mem_append_left _ (List.mem_append_left _ (List.mem_append_left _ (List.mem_append_left _ (List.mem_append_left _ (List.mem_append_left _ (List.mem_append_left _ (List.mem_append_left _ (List.mem_append_right _ h))))))))
theorem inX4 : ∀ w ∈ wsX40, w ∈ lw_tbl := fun w h => wsL_law_in w (inlX4 w h)
theorem inlX5 : ∀ w ∈ wsX50, w ∈ wsL_law := fun _ h => List.mem_append_left _ (List.mem_append_left _ (List.mem_append_left _ (List.mem_append_left _ (List.mem_append_left _ (List.mem_append_left _ (List.mem_append_left _ (List.mem_append_right _ h)))))))
theorem inX5 : ∀ w ∈ wsX50, w ∈ lw_tbl := fun w h => wsL_law_in w (inlX5 w h)
theorem inlJx00060 : ∀ w ∈ wsJx000600, w ∈ wsL_law := fun _ h => List.mem_append_left _ (List.mem_append_left _ (List.mem_append_right _ h))
theorem inJx00060 : ∀ w ∈ wsJx000600, w ∈ lw_tbl := fun w h => wsL_law_in w (inlJx00060 w h)
theorem inlJ0 : ∀ w ∈ wsJ00, w ∈ wsL_law := fun _ h => List.mem_append_left _ (List.mem_append_left _ (List.mem_append_left _ (List.mem_append_right _ h)))
theorem inJ0 : ∀ w ∈ wsJ00, w ∈ lw_tbl := fun w h => wsL_law_in w (inlJ0 w h)
theorem inJ1 : ∀ w ∈ wsJ10, w ∈ lw_tbl := by decide +kernel
theorem inJ2 : ∀ w ∈ wsJ20, w ∈ lw_tbl := by decide +kernel
theorem inJ3 : ∀ w ∈ wsJ30, w ∈ lw_tbl := by decide +kernel
theorem dX0_init_0 : decode cX0_init 0 = .ok (.aload_n 0, 1) := by decide +kernel
theorem dX0_init_1 : decode cX0_init 1 = .ok (.invokespecial 1, 3) := by decide +kernel
theorem dX0_init_4 : decode cX0_init 4 = .ok (.aload_n 0, 1) := by decide +kernel
theorem dX0_init_5 : decode cX0_init 5 = .ok (.bipush 64, 2) := by decide +kernel
theorem dX0_init_7 : decode cX0_init 7 = .ok (.newarray .int, 2) := by decide +kernel
theorem dX0_init_9 : decode cX0_init 9 = .ok (.putfield 9, 3) := by decide +kernel
theorem dX0_init_12 : decode cX0_init 12 = .ok (.aload_n 0, 1) := by decide +kernel
theorem dX0_init_13 : decode cX0_init 13 = .ok (.bipush 8, 2) := by decide +kernel
theorem dX0_init_15 : decode cX0_init 15 = .ok (.newarray .int, 2) := by decide +kernel
theorem dX0_init_17 : decode cX0_init 17 = .ok (.putfield 13, 3) := by decide +kernel
theorem dX0_init_20 : decode cX0_init 20 = .ok (.return_, 1) := by decide +kernel
theorem dX0_isReckoned_0 : decode cX0_isReckoned 0 = .ok (.aload_n 0, 1) := by decide +kernel
theorem dX0_isReckoned_1 : decode cX0_isReckoned 1 = .ok (.getfield 16, 3) := by decide +kernel
theorem dX0_isReckoned_4 : decode cX0_isReckoned 4 = .ok (.ireturn, 1) := by decide +kernel
theorem dX0_octetAt_0 : decode cX0_octetAt 0 = .ok (.iload_n 1, 1) := by decide +kernel
theorem dX0_octetAt_1 : decode cX0_octetAt 1 = .ok (.ifCond .lt 31, 3) := by decide +kernel
theorem dX0_octetAt_4 : decode cX0_octetAt 4 = .ok (.iload_n 1, 1) := by decide +kernel
theorem dX0_octetAt_5 : decode cX0_octetAt 5 = .ok (.bipush 32, 2) := by decide +kernel
theorem dX0_octetAt_7 : decode cX0_octetAt 7 = .ok (.if_icmp .ge 25, 3) := by decide +kernel
theorem dX0_octetAt_10 : decode cX0_octetAt 10 = .ok (.aload_n 0, 1) := by decide +kernel
theorem dX0_octetAt_11 : decode cX0_octetAt 11 = .ok (.getfield 13, 3) := by decide +kernel
theorem dX0_octetAt_14 : decode cX0_octetAt 14 = .ok (.iload_n 1, 1) := by decide +kernel
theorem dX0_octetAt_15 : decode cX0_octetAt 15 = .ok (.iconst 2, 1) := by decide +kernel
theorem dX0_octetAt_16 : decode cX0_octetAt 16 = .ok (.ishr, 1) := by decide +kernel
theorem dX0_octetAt_17 : decode cX0_octetAt 17 = .ok (.iaload, 1) := by decide +kernel
theorem dX0_octetAt_18 : decode cX0_octetAt 18 = .ok (.bipush 24, 2) := by decide +kernel
theorem dX0_octetAt_20 : decode cX0_octetAt 20 = .ok (.bipush 8, 2) := by decide +kernel
theorem dX0_octetAt_22 : decode cX0_octetAt 22 = .ok (.iload_n 1, 1) := by decide +kernel
theorem dX0_octetAt_23 : decode cX0_octetAt 23 = .ok (.iconst 3, 1) := by decide +kernel
theorem dX0_octetAt_24 : decode cX0_octetAt 24 = .ok (.iand, 1) := by decide +kernel
theorem dX0_octetAt_25 : decode cX0_octetAt 25 = .ok (.imul, 1) := by decide +kernel
theorem dX0_octetAt_26 : decode cX0_octetAt 26 = .ok (.isub, 1) := by decide +kernel
theorem dX0_octetAt_27 : decode cX0_octetAt 27 = .ok (.iushr, 1) := by decide +kernel
theorem dX0_octetAt_28 : decode cX0_octetAt 28 = .ok (.i2b, 1) := by decide +kernel
theorem dX0_octetAt_29 : decode cX0_octetAt 29 = .ok (.goto 4, 3) := by decide +kernel
theorem dX0_octetAt_32 : decode cX0_octetAt 32 = .ok (.iconst 0, 1) := by decide +kernel
theorem dX0_octetAt_33 : decode cX0_octetAt 33 = .ok (.ireturn, 1) := by decide +kernel
theorem dX0_firstBits_0 : decode cX0_firstBits 0 = .ok (.aload_n 0, 1) := by decide +kernel
theorem dX0_firstBits_1 : decode cX0_firstBits 1 = .ok (.getfield 13, 3) := by decide +kernel
theorem dX0_firstBits_4 : decode cX0_firstBits 4 = .ok (.iconst 0, 1) := by decide +kernel
theorem dX0_firstBits_5 : decode cX0_firstBits 5 = .ok (.iaload, 1) := by decide +kernel
theorem dX0_firstBits_6 : decode cX0_firstBits 6 = .ok (.bipush 7, 2) := by decide +kernel
theorem dX0_firstBits_8 : decode cX0_firstBits 8 = .ok (.iushr, 1) := by decide +kernel
theorem dX0_firstBits_9 : decode cX0_firstBits 9 = .ok (.ireturn, 1) := by decide +kernel
set_option maxRecDepth 20000 in
theorem ggX0_reckon_X0_numberOf : GoodIn wsX0_reckon wsX0_numberOf := goodIn_ca (goodIn_r _ [8, 9, 10, 7, 11, 12, 13, 14, 15, 16, 17, 18, 19, 20, 21, 22, 38, 39, 40, 41, 42] (by decide +kernel) (by decide +kernel)) (goodIn_sub (fun _ h => List.mem_cons_of_mem _ (List.mem_append_right _ h)) (by decide +kernel))
set_option maxRecDepth 20000 in
theorem gX0_reckon_X0_numberOf : GoodIn wsX0_reckon (va_wsS RX0 20 yX0_numberOf wsX0_numberOf) := goodIn_app (goodIn_of _ (by decide +kernel)) ggX0_reckon_X0_numberOf
set_option maxRecDepth 20000 in
theorem ggX0_reckon_X2_size : GoodIn wsX0_reckon wsX2_size := goodIn_r _ [16, 17, 38, 39, 40, 41, 42] (by decide +kernel) (by decide +kernel)
set_option maxRecDepth 20000 in
theorem gX0_reckon_X2_size : GoodIn wsX0_reckon (wsV RX0 24 RX2 yX2_size wsX2_size) := goodIn_app (goodIn_of _ (by decide +kernel)) ggX0_reckon_X2_size
set_option maxRecDepth 20000 in
theorem ggX0_reckon_X0_stretch : GoodIn wsX0_reckon wsX0_stretch := goodIn_ca (goodIn_r _ [26, 1, 27, 28, 7, 29, 35, 36, 37] (by decide +kernel) (by decide +kernel)) (goodIn_sub (fun _ h => List.mem_cons_of_mem _ (List.mem_append_right _ h)) (by decide +kernel))
set_option maxRecDepth 20000 in
theorem gX0_reckon_X0_stretch : GoodIn wsX0_reckon (wsV RX0 30 RX0 yX0_stretch wsX0_stretch) := goodIn_app (goodIn_of _ (by decide +kernel)) ggX0_reckon_X0_stretch
set_option maxRecDepth 20000 in
theorem ggX0_reckon_X0_mix : GoodIn wsX0_reckon wsX0_mix := goodIn_ca (goodIn_r _ [33, 2, 34, 1, 27, 28, 7, 29, 35, 36, 37] (by decide +kernel) (by decide +kernel)) (goodIn_sub (fun _ h => List.mem_cons_of_mem _ (List.mem_append_right _ h)) (by decide +kernel))
set_option maxRecDepth 20000 in
theorem gX0_reckon_X0_mix : GoodIn wsX0_reckon (wsV RX0 36 RX0 yX0_mix wsX0_mix) := goodIn_app (goodIn_of _ (by decide +kernel)) ggX0_reckon_X0_mix
theorem dX0_reckon_0 : decode cX0_reckon 0 = .ok (.iconst 0, 1) := by decide +kernel
theorem dX0_reckon_1 : decode cX0_reckon 1 = .ok (.istore 4, 2) := by decide +kernel
theorem dX0_reckon_3 : decode cX0_reckon 3 = .ok (.iload 4, 2) := by decide +kernel
theorem dX0_reckon_5 : decode cX0_reckon 5 = .ok (.bipush 14, 2) := by decide +kernel
theorem dX0_reckon_7 : decode cX0_reckon 7 = .ok (.if_icmp .ge 25, 3) := by decide +kernel
theorem dX0_reckon_10 : decode cX0_reckon 10 = .ok (.aload_n 0, 1) := by decide +kernel
theorem dX0_reckon_11 : decode cX0_reckon 11 = .ok (.getfield 9, 3) := by decide +kernel
theorem dX0_reckon_14 : decode cX0_reckon 14 = .ok (.iload 4, 2) := by decide +kernel
theorem dX0_reckon_16 : decode cX0_reckon 16 = .ok (.aload_n 1, 1) := by decide +kernel
theorem dX0_reckon_17 : decode cX0_reckon 17 = .ok (.lload_n 2, 1) := by decide +kernel
theorem dX0_reckon_18 : decode cX0_reckon 18 = .ok (.iconst 4, 1) := by decide +kernel
theorem dX0_reckon_19 : decode cX0_reckon 19 = .ok (.iload 4, 2) := by decide +kernel
theorem dX0_reckon_21 : decode cX0_reckon 21 = .ok (.imul, 1) := by decide +kernel
theorem dX0_reckon_22 : decode cX0_reckon 22 = .ok (.invokestatic 20, 3) := by decide +kernel
theorem dX0_reckon_25 : decode cX0_reckon 25 = .ok (.iastore, 1) := by decide +kernel
theorem dX0_reckon_26 : decode cX0_reckon 26 = .ok (.iinc 4 1, 3) := by decide +kernel
theorem dX0_reckon_29 : decode cX0_reckon 29 = .ok (.goto (-26), 3) := by decide +kernel
theorem dX0_reckon_32 : decode cX0_reckon 32 = .ok (.aload_n 0, 1) := by decide +kernel
theorem dX0_reckon_33 : decode cX0_reckon 33 = .ok (.getfield 9, 3) := by decide +kernel
theorem dX0_reckon_36 : decode cX0_reckon 36 = .ok (.bipush 14, 2) := by decide +kernel
theorem dX0_reckon_38 : decode cX0_reckon 38 = .ok (.iconst 0, 1) := by decide +kernel
theorem dX0_reckon_39 : decode cX0_reckon 39 = .ok (.iastore, 1) := by decide +kernel
theorem dX0_reckon_40 : decode cX0_reckon 40 = .ok (.aload_n 0, 1) := by decide +kernel
theorem dX0_reckon_41 : decode cX0_reckon 41 = .ok (.getfield 9, 3) := by decide +kernel
theorem dX0_reckon_44 : decode cX0_reckon 44 = .ok (.bipush 15, 2) := by decide +kernel
theorem dX0_reckon_46 : decode cX0_reckon 46 = .ok (.bipush 8, 2) := by decide +kernel
theorem dX0_reckon_48 : decode cX0_reckon 48 = .ok (.aload_n 1, 1) := by decide +kernel
theorem dX0_reckon_49 : decode cX0_reckon 49 = .ok (.invokevirtual 24, 3) := by decide +kernel
theorem dX0_reckon_52 : decode cX0_reckon 52 = .ok (.bipush 7, 2) := by decide +kernel
theorem dX0_reckon_54 : decode cX0_reckon 54 = .ok (.iadd, 1) := by decide +kernel
theorem dX0_reckon_55 : decode cX0_reckon 55 = .ok (.imul, 1) := by decide +kernel
theorem dX0_reckon_56 : decode cX0_reckon 56 = .ok (.iastore, 1) := by decide +kernel
theorem dX0_reckon_57 : decode cX0_reckon 57 = .ok (.aload_n 0, 1) := by decide +kernel
theorem dX0_reckon_58 : decode cX0_reckon 58 = .ok (.invokevirtual 30, 3) := by decide +kernel
theorem dX0_reckon_61 : decode cX0_reckon 61 = .ok (.iconst 0, 1) := by decide +kernel
theorem dX0_reckon_62 : decode cX0_reckon 62 = .ok (.istore 4, 2) := by decide +kernel
theorem dX0_reckon_64 : decode cX0_reckon 64 = .ok (.iload 4, 2) := by decide +kernel
theorem dX0_reckon_66 : decode cX0_reckon 66 = .ok (.bipush 8, 2) := by decide +kernel
theorem dX0_reckon_68 : decode cX0_reckon 68 = .ok (.if_icmp .ge 22, 3) := by decide +kernel
theorem dX0_reckon_71 : decode cX0_reckon 71 = .ok (.aload_n 0, 1) := by decide +kernel
theorem dX0_reckon_72 : decode cX0_reckon 72 = .ok (.getfield 13, 3) := by decide +kernel
theorem dX0_reckon_75 : decode cX0_reckon 75 = .ok (.iload 4, 2) := by decide +kernel
theorem dX0_reckon_77 : decode cX0_reckon 77 = .ok (.getstatic 33, 3) := by decide +kernel
theorem dX0_reckon_80 : decode cX0_reckon 80 = .ok (.iload 4, 2) := by decide +kernel
theorem dX0_reckon_82 : decode cX0_reckon 82 = .ok (.iaload, 1) := by decide +kernel
theorem dX0_reckon_83 : decode cX0_reckon 83 = .ok (.iastore, 1) := by decide +kernel
theorem dX0_reckon_84 : decode cX0_reckon 84 = .ok (.iinc 4 1, 3) := by decide +kernel
theorem dX0_reckon_87 : decode cX0_reckon 87 = .ok (.goto (-23), 3) := by decide +kernel
theorem dX0_reckon_90 : decode cX0_reckon 90 = .ok (.aload_n 0, 1) := by decide +kernel
theorem dX0_reckon_91 : decode cX0_reckon 91 = .ok (.invokevirtual 36, 3) := by decide +kernel
theorem dX0_reckon_94 : decode cX0_reckon 94 = .ok (.aload_n 0, 1) := by decide +kernel
theorem dX0_reckon_95 : decode cX0_reckon 95 = .ok (.iconst 1, 1) := by decide +kernel
theorem dX0_reckon_96 : decode cX0_reckon 96 = .ok (.putfield 16, 3) := by decide +kernel
theorem dX0_reckon_99 : decode cX0_reckon 99 = .ok (.return_, 1) := by decide +kernel
set_option maxRecDepth 20000 in
theorem ggX0_numberOf_X0_blockByte : GoodIn wsX0_numberOf wsX0_blockByte := goodIn_ca (goodIn_r _ [4, 5, 6, 7, 8, 9, 10, 11, 12, 13, 14, 15, 16, 17, 18, 19, 20] (by decide +kernel) (by decide +kernel)) (goodIn_sub (fun _ h => List.mem_cons_of_mem _ (List.mem_append_right _ h)) (by decide +kernel))
set_option maxRecDepth 20000 in
theorem gX0_numberOf_X0_blockByte : GoodIn wsX0_numberOf (va_wsS RX0 39 yX0_blockByte wsX0_blockByte) := goodIn_app (goodIn_of _ (by decide +kernel)) ggX0_numberOf_X0_blockByte
theorem dX0_numberOf_0 : decode cX0_numberOf 0 = .ok (.iconst 0, 1) := by decide +kernel
theorem dX0_numberOf_1 : decode cX0_numberOf 1 = .ok (.istore 4, 2) := by decide +kernel
theorem dX0_numberOf_3 : decode cX0_numberOf 3 = .ok (.iload_n 3, 1) := by decide +kernel
theorem dX0_numberOf_4 : decode cX0_numberOf 4 = .ok (.istore 5, 2) := by decide +kernel
theorem dX0_numberOf_6 : decode cX0_numberOf 6 = .ok (.iload 5, 2) := by decide +kernel
theorem dX0_numberOf_8 : decode cX0_numberOf 8 = .ok (.iload_n 3, 1) := by decide +kernel
theorem dX0_numberOf_9 : decode cX0_numberOf 9 = .ok (.iconst 4, 1) := by decide +kernel
theorem dX0_numberOf_10 : decode cX0_numberOf 10 = .ok (.iadd, 1) := by decide +kernel
theorem dX0_numberOf_11 : decode cX0_numberOf 11 = .ok (.if_icmp .ge 24, 3) := by decide +kernel
theorem dX0_numberOf_14 : decode cX0_numberOf 14 = .ok (.iload 4, 2) := by decide +kernel
theorem dX0_numberOf_16 : decode cX0_numberOf 16 = .ok (.bipush 8, 2) := by decide +kernel
theorem dX0_numberOf_18 : decode cX0_numberOf 18 = .ok (.ishl, 1) := by decide +kernel
theorem dX0_numberOf_19 : decode cX0_numberOf 19 = .ok (.aload_n 0, 1) := by decide +kernel
theorem dX0_numberOf_20 : decode cX0_numberOf 20 = .ok (.lload_n 1, 1) := by decide +kernel
theorem dX0_numberOf_21 : decode cX0_numberOf 21 = .ok (.iload 5, 2) := by decide +kernel
theorem dX0_numberOf_23 : decode cX0_numberOf 23 = .ok (.invokestatic 39, 3) := by decide +kernel
theorem dX0_numberOf_26 : decode cX0_numberOf 26 = .ok (.ior, 1) := by decide +kernel
theorem dX0_numberOf_27 : decode cX0_numberOf 27 = .ok (.istore 4, 2) := by decide +kernel
theorem dX0_numberOf_29 : decode cX0_numberOf 29 = .ok (.iinc 5 1, 3) := by decide +kernel
theorem dX0_numberOf_32 : decode cX0_numberOf 32 = .ok (.goto (-26), 3) := by decide +kernel
theorem dX0_numberOf_35 : decode cX0_numberOf 35 = .ok (.iload 4, 2) := by decide +kernel
theorem dX0_numberOf_37 : decode cX0_numberOf 37 = .ok (.ireturn, 1) := by decide +kernel
set_option maxRecDepth 20000 in
theorem ggX0_blockByte_X2_size : GoodIn wsX0_blockByte wsX2_size := goodIn_r _ [5, 6, 12, 13, 14, 15, 16] (by decide +kernel) (by decide +kernel)
set_option maxRecDepth 20000 in
theorem gX0_blockByte_X2_size : GoodIn wsX0_blockByte (wsV RX0 24 RX2 yX2_size wsX2_size) := goodIn_app (goodIn_of _ (by decide +kernel)) ggX0_blockByte_X2_size
set_option maxRecDepth 20000 in
theorem ggX0_blockByte_X2_octetAt : GoodIn wsX0_blockByte wsX2_octetAt := goodIn_ca (goodIn_r _ [10, 11, 12, 13, 14, 15, 16] (by decide +kernel) (by decide +kernel)) (goodIn_sub (fun _ h => List.mem_cons_of_mem _ (List.mem_append_right _ h)) (by decide +kernel))
set_option maxRecDepth 20000 in
theorem gX0_blockByte_X2_octetAt : GoodIn wsX0_blockByte (wsV RX0 42 RX2 yX2_octetAt wsX2_octetAt) := goodIn_app (goodIn_of _ (by decide +kernel)) ggX0_blockByte_X2_octetAt
theorem dX0_blockByte_0 : decode cX0_blockByte 0 = .ok (.iload_n 3, 1) := by decide +kernel
theorem dX0_blockByte_1 : decode cX0_blockByte 1 = .ok (.aload_n 0, 1) := by decide +kernel
theorem dX0_blockByte_2 : decode cX0_blockByte 2 = .ok (.invokevirtual 24, 3) := by decide +kernel
theorem dX0_blockByte_5 : decode cX0_blockByte 5 = .ok (.isub, 1) := by decide +kernel
theorem dX0_blockByte_6 : decode cX0_blockByte 6 = .ok (.istore 4, 2) := by decide +kernel
theorem dX0_blockByte_8 : decode cX0_blockByte 8 = .ok (.iload 4, 2) := by decide +kernel
theorem dX0_blockByte_10 : decode cX0_blockByte 10 = .ok (.ifCond .ge 9, 3) := by decide +kernel
theorem dX0_blockByte_13 : decode cX0_blockByte 13 = .ok (.aload_n 0, 1) := by decide +kernel
theorem dX0_blockByte_14 : decode cX0_blockByte 14 = .ok (.iload_n 3, 1) := by decide +kernel
theorem dX0_blockByte_15 : decode cX0_blockByte 15 = .ok (.invokevirtual 42, 3) := by decide +kernel
theorem dX0_blockByte_18 : decode cX0_blockByte 18 = .ok (.ireturn, 1) := by decide +kernel
theorem dX0_blockByte_19 : decode cX0_blockByte 19 = .ok (.iload 4, 2) := by decide +kernel
theorem dX0_blockByte_21 : decode cX0_blockByte 21 = .ok (.bipush 7, 2) := by decide +kernel
theorem dX0_blockByte_23 : decode cX0_blockByte 23 = .ok (.if_icmp .ge 21, 3) := by decide +kernel
theorem dX0_blockByte_26 : decode cX0_blockByte 26 = .ok (.lload_n 1, 1) := by decide +kernel
theorem dX0_blockByte_27 : decode cX0_blockByte 27 = .ok (.iconst 1, 1) := by decide +kernel
theorem dX0_blockByte_28 : decode cX0_blockByte 28 = .ok (.lshl, 1) := by decide +kernel
theorem dX0_blockByte_29 : decode cX0_blockByte 29 = .ok (.bipush 48, 2) := by decide +kernel
theorem dX0_blockByte_31 : decode cX0_blockByte 31 = .ok (.bipush 8, 2) := by decide +kernel
theorem dX0_blockByte_33 : decode cX0_blockByte 33 = .ok (.iload 4, 2) := by decide +kernel
theorem dX0_blockByte_35 : decode cX0_blockByte 35 = .ok (.imul, 1) := by decide +kernel
theorem dX0_blockByte_36 : decode cX0_blockByte 36 = .ok (.isub, 1) := by decide +kernel
theorem dX0_blockByte_37 : decode cX0_blockByte 37 = .ok (.lushr, 1) := by decide +kernel
theorem dX0_blockByte_38 : decode cX0_blockByte 38 = .ok (.l2i, 1) := by decide +kernel
theorem dX0_blockByte_39 : decode cX0_blockByte 39 = .ok (.sipush 255, 3) := by decide +kernel
theorem dX0_blockByte_42 : decode cX0_blockByte 42 = .ok (.iand, 1) := by decide +kernel
theorem dX0_blockByte_43 : decode cX0_blockByte 43 = .ok (.ireturn, 1) := by decide +kernel
theorem dX0_blockByte_44 : decode cX0_blockByte 44 = .ok (.iload 4, 2) := by decide +kernel
theorem dX0_blockByte_46 : decode cX0_blockByte 46 = .ok (.bipush 7, 2) := by decide +kernel
theorem dX0_blockByte_48 : decode cX0_blockByte 48 = .ok (.if_icmp .ne 9, 3) := by decide +kernel
theorem dX0_blockByte_51 : decode cX0_blockByte 51 = .ok (.sipush 128, 3) := by decide +kernel
theorem dX0_blockByte_54 : decode cX0_blockByte 54 = .ok (.goto 4, 3) := by decide +kernel
theorem dX0_blockByte_57 : decode cX0_blockByte 57 = .ok (.iconst 0, 1) := by decide +kernel
theorem dX0_blockByte_58 : decode cX0_blockByte 58 = .ok (.ireturn, 1) := by decide +kernel
set_option maxRecDepth 20000 in
theorem ggX0_stretch_X0_ror : GoodIn wsX0_stretch wsX0_ror := goodIn_r _ [5] (by decide +kernel) (by decide +kernel)
set_option maxRecDepth 20000 in
theorem gX0_stretch_X0_ror : GoodIn wsX0_stretch (va_wsS RX0 46 yX0_ror wsX0_ror) := goodIn_app (goodIn_of _ (by decide +kernel)) ggX0_stretch_X0_ror
theorem dX0_stretch_0 : decode cX0_stretch 0 = .ok (.bipush 16, 2) := by decide +kernel
theorem dX0_stretch_2 : decode cX0_stretch 2 = .ok (.istore_n 1, 1) := by decide +kernel
theorem dX0_stretch_3 : decode cX0_stretch 3 = .ok (.iload_n 1, 1) := by decide +kernel
theorem dX0_stretch_4 : decode cX0_stretch 4 = .ok (.bipush 64, 2) := by decide +kernel
theorem dX0_stretch_6 : decode cX0_stretch 6 = .ok (.if_icmp .ge 100, 3) := by decide +kernel
theorem dX0_stretch_9 : decode cX0_stretch 9 = .ok (.aload_n 0, 1) := by decide +kernel
theorem dX0_stretch_10 : decode cX0_stretch 10 = .ok (.getfield 9, 3) := by decide +kernel
theorem dX0_stretch_13 : decode cX0_stretch 13 = .ok (.iload_n 1, 1) := by decide +kernel
theorem dX0_stretch_14 : decode cX0_stretch 14 = .ok (.bipush 15, 2) := by decide +kernel
theorem dX0_stretch_16 : decode cX0_stretch 16 = .ok (.isub, 1) := by decide +kernel
theorem dX0_stretch_17 : decode cX0_stretch 17 = .ok (.iaload, 1) := by decide +kernel
theorem dX0_stretch_18 : decode cX0_stretch 18 = .ok (.istore_n 2, 1) := by decide +kernel
theorem dX0_stretch_19 : decode cX0_stretch 19 = .ok (.iload_n 2, 1) := by decide +kernel
theorem dX0_stretch_20 : decode cX0_stretch 20 = .ok (.bipush 7, 2) := by decide +kernel
theorem dX0_stretch_22 : decode cX0_stretch 22 = .ok (.invokestatic 46, 3) := by decide +kernel
theorem dX0_stretch_25 : decode cX0_stretch 25 = .ok (.iload_n 2, 1) := by decide +kernel
theorem dX0_stretch_26 : decode cX0_stretch 26 = .ok (.bipush 18, 2) := by decide +kernel
theorem dX0_stretch_28 : decode cX0_stretch 28 = .ok (.invokestatic 46, 3) := by decide +kernel
theorem dX0_stretch_31 : decode cX0_stretch 31 = .ok (.ixor, 1) := by decide +kernel
theorem dX0_stretch_32 : decode cX0_stretch 32 = .ok (.iload_n 2, 1) := by decide +kernel
theorem dX0_stretch_33 : decode cX0_stretch 33 = .ok (.iconst 3, 1) := by decide +kernel
theorem dX0_stretch_34 : decode cX0_stretch 34 = .ok (.iushr, 1) := by decide +kernel
theorem dX0_stretch_35 : decode cX0_stretch 35 = .ok (.ixor, 1) := by decide +kernel
theorem dX0_stretch_36 : decode cX0_stretch 36 = .ok (.istore_n 3, 1) := by decide +kernel
theorem dX0_stretch_37 : decode cX0_stretch 37 = .ok (.aload_n 0, 1) := by decide +kernel
theorem dX0_stretch_38 : decode cX0_stretch 38 = .ok (.getfield 9, 3) := by decide +kernel
theorem dX0_stretch_41 : decode cX0_stretch 41 = .ok (.iload_n 1, 1) := by decide +kernel
theorem dX0_stretch_42 : decode cX0_stretch 42 = .ok (.iconst 2, 1) := by decide +kernel
theorem dX0_stretch_43 : decode cX0_stretch 43 = .ok (.isub, 1) := by decide +kernel
theorem dX0_stretch_44 : decode cX0_stretch 44 = .ok (.iaload, 1) := by decide +kernel
theorem dX0_stretch_45 : decode cX0_stretch 45 = .ok (.istore 4, 2) := by decide +kernel
theorem dX0_stretch_47 : decode cX0_stretch 47 = .ok (.iload 4, 2) := by decide +kernel
theorem dX0_stretch_49 : decode cX0_stretch 49 = .ok (.bipush 17, 2) := by decide +kernel
theorem dX0_stretch_51 : decode cX0_stretch 51 = .ok (.invokestatic 46, 3) := by decide +kernel
theorem dX0_stretch_54 : decode cX0_stretch 54 = .ok (.iload 4, 2) := by decide +kernel
theorem dX0_stretch_56 : decode cX0_stretch 56 = .ok (.bipush 19, 2) := by decide +kernel
theorem dX0_stretch_58 : decode cX0_stretch 58 = .ok (.invokestatic 46, 3) := by decide +kernel
theorem dX0_stretch_61 : decode cX0_stretch 61 = .ok (.ixor, 1) := by decide +kernel
theorem dX0_stretch_62 : decode cX0_stretch 62 = .ok (.iload 4, 2) := by decide +kernel
theorem dX0_stretch_64 : decode cX0_stretch 64 = .ok (.bipush 10, 2) := by decide +kernel
theorem dX0_stretch_66 : decode cX0_stretch 66 = .ok (.iushr, 1) := by decide +kernel
theorem dX0_stretch_67 : decode cX0_stretch 67 = .ok (.ixor, 1) := by decide +kernel
theorem dX0_stretch_68 : decode cX0_stretch 68 = .ok (.istore 5, 2) := by decide +kernel
theorem dX0_stretch_70 : decode cX0_stretch 70 = .ok (.aload_n 0, 1) := by decide +kernel
theorem dX0_stretch_71 : decode cX0_stretch 71 = .ok (.getfield 9, 3) := by decide +kernel
theorem dX0_stretch_74 : decode cX0_stretch 74 = .ok (.iload_n 1, 1) := by decide +kernel
theorem dX0_stretch_75 : decode cX0_stretch 75 = .ok (.aload_n 0, 1) := by decide +kernel
theorem dX0_stretch_76 : decode cX0_stretch 76 = .ok (.getfield 9, 3) := by decide +kernel
theorem dX0_stretch_79 : decode cX0_stretch 79 = .ok (.iload_n 1, 1) := by decide +kernel
theorem dX0_stretch_80 : decode cX0_stretch 80 = .ok (.bipush 16, 2) := by decide +kernel
theorem dX0_stretch_82 : decode cX0_stretch 82 = .ok (.isub, 1) := by decide +kernel
theorem dX0_stretch_83 : decode cX0_stretch 83 = .ok (.iaload, 1) := by decide +kernel
theorem dX0_stretch_84 : decode cX0_stretch 84 = .ok (.iload_n 3, 1) := by decide +kernel
theorem dX0_stretch_85 : decode cX0_stretch 85 = .ok (.iadd, 1) := by decide +kernel
theorem dX0_stretch_86 : decode cX0_stretch 86 = .ok (.aload_n 0, 1) := by decide +kernel
theorem dX0_stretch_87 : decode cX0_stretch 87 = .ok (.getfield 9, 3) := by decide +kernel
theorem dX0_stretch_90 : decode cX0_stretch 90 = .ok (.iload_n 1, 1) := by decide +kernel
theorem dX0_stretch_91 : decode cX0_stretch 91 = .ok (.bipush 7, 2) := by decide +kernel
theorem dX0_stretch_93 : decode cX0_stretch 93 = .ok (.isub, 1) := by decide +kernel
theorem dX0_stretch_94 : decode cX0_stretch 94 = .ok (.iaload, 1) := by decide +kernel
theorem dX0_stretch_95 : decode cX0_stretch 95 = .ok (.iadd, 1) := by decide +kernel
theorem dX0_stretch_96 : decode cX0_stretch 96 = .ok (.iload 5, 2) := by decide +kernel
theorem dX0_stretch_98 : decode cX0_stretch 98 = .ok (.iadd, 1) := by decide +kernel
theorem dX0_stretch_99 : decode cX0_stretch 99 = .ok (.iastore, 1) := by decide +kernel
theorem dX0_stretch_100 : decode cX0_stretch 100 = .ok (.iinc 1 1, 3) := by decide +kernel
theorem dX0_stretch_103 : decode cX0_stretch 103 = .ok (.goto (-100), 3) := by decide +kernel
theorem dX0_stretch_106 : decode cX0_stretch 106 = .ok (.return_, 1) := by decide +kernel
set_option maxRecDepth 20000 in
theorem ggX0_mix_X0_ror : GoodIn wsX0_mix wsX0_ror := goodIn_r _ [7] (by decide +kernel) (by decide +kernel)
set_option maxRecDepth 20000 in
theorem gX0_mix_X0_ror : GoodIn wsX0_mix (va_wsS RX0 46 yX0_ror wsX0_ror) := goodIn_app (goodIn_of _ (by decide +kernel)) ggX0_mix_X0_ror
theorem dX0_mix_0 : decode cX0_mix 0 = .ok (.aload_n 0, 1) := by decide +kernel
theorem dX0_mix_1 : decode cX0_mix 1 = .ok (.getfield 13, 3) := by decide +kernel
theorem dX0_mix_4 : decode cX0_mix 4 = .ok (.iconst 0, 1) := by decide +kernel
theorem dX0_mix_5 : decode cX0_mix 5 = .ok (.iaload, 1) := by decide +kernel
theorem dX0_mix_6 : decode cX0_mix 6 = .ok (.istore_n 1, 1) := by decide +kernel
theorem dX0_mix_7 : decode cX0_mix 7 = .ok (.aload_n 0, 1) := by decide +kernel
theorem dX0_mix_8 : decode cX0_mix 8 = .ok (.getfield 13, 3) := by decide +kernel
theorem dX0_mix_11 : decode cX0_mix 11 = .ok (.iconst 1, 1) := by decide +kernel
theorem dX0_mix_12 : decode cX0_mix 12 = .ok (.iaload, 1) := by decide +kernel
theorem dX0_mix_13 : decode cX0_mix 13 = .ok (.istore_n 2, 1) := by decide +kernel
theorem dX0_mix_14 : decode cX0_mix 14 = .ok (.aload_n 0, 1) := by decide +kernel
theorem dX0_mix_15 : decode cX0_mix 15 = .ok (.getfield 13, 3) := by decide +kernel
theorem dX0_mix_18 : decode cX0_mix 18 = .ok (.iconst 2, 1) := by decide +kernel
theorem dX0_mix_19 : decode cX0_mix 19 = .ok (.iaload, 1) := by decide +kernel
theorem dX0_mix_20 : decode cX0_mix 20 = .ok (.istore_n 3, 1) := by decide +kernel
theorem dX0_mix_21 : decode cX0_mix 21 = .ok (.aload_n 0, 1) := by decide +kernel
theorem dX0_mix_22 : decode cX0_mix 22 = .ok (.getfield 13, 3) := by decide +kernel
theorem dX0_mix_25 : decode cX0_mix 25 = .ok (.iconst 3, 1) := by decide +kernel
theorem dX0_mix_26 : decode cX0_mix 26 = .ok (.iaload, 1) := by decide +kernel
theorem dX0_mix_27 : decode cX0_mix 27 = .ok (.istore 4, 2) := by decide +kernel
theorem dX0_mix_29 : decode cX0_mix 29 = .ok (.aload_n 0, 1) := by decide +kernel
theorem dX0_mix_30 : decode cX0_mix 30 = .ok (.getfield 13, 3) := by decide +kernel
theorem dX0_mix_33 : decode cX0_mix 33 = .ok (.iconst 4, 1) := by decide +kernel
theorem dX0_mix_34 : decode cX0_mix 34 = .ok (.iaload, 1) := by decide +kernel
theorem dX0_mix_35 : decode cX0_mix 35 = .ok (.istore 5, 2) := by decide +kernel
theorem dX0_mix_37 : decode cX0_mix 37 = .ok (.aload_n 0, 1) := by decide +kernel
theorem dX0_mix_38 : decode cX0_mix 38 = .ok (.getfield 13, 3) := by decide +kernel
theorem dX0_mix_41 : decode cX0_mix 41 = .ok (.iconst 5, 1) := by decide +kernel
theorem dX0_mix_42 : decode cX0_mix 42 = .ok (.iaload, 1) := by decide +kernel
theorem dX0_mix_43 : decode cX0_mix 43 = .ok (.istore 6, 2) := by decide +kernel
theorem dX0_mix_45 : decode cX0_mix 45 = .ok (.aload_n 0, 1) := by decide +kernel
theorem dX0_mix_46 : decode cX0_mix 46 = .ok (.getfield 13, 3) := by decide +kernel
theorem dX0_mix_49 : decode cX0_mix 49 = .ok (.bipush 6, 2) := by decide +kernel
theorem dX0_mix_51 : decode cX0_mix 51 = .ok (.iaload, 1) := by decide +kernel
theorem dX0_mix_52 : decode cX0_mix 52 = .ok (.istore 7, 2) := by decide +kernel
theorem dX0_mix_54 : decode cX0_mix 54 = .ok (.aload_n 0, 1) := by decide +kernel
theorem dX0_mix_55 : decode cX0_mix 55 = .ok (.getfield 13, 3) := by decide +kernel
theorem dX0_mix_58 : decode cX0_mix 58 = .ok (.bipush 7, 2) := by decide +kernel
theorem dX0_mix_60 : decode cX0_mix 60 = .ok (.iaload, 1) := by decide +kernel
theorem dX0_mix_61 : decode cX0_mix 61 = .ok (.istore 8, 2) := by decide +kernel
theorem dX0_mix_63 : decode cX0_mix 63 = .ok (.iconst 0, 1) := by decide +kernel
theorem dX0_mix_64 : decode cX0_mix 64 = .ok (.istore 9, 2) := by decide +kernel
theorem dX0_mix_66 : decode cX0_mix 66 = .ok (.iload 9, 2) := by decide +kernel
theorem dX0_mix_68 : decode cX0_mix 68 = .ok (.bipush 64, 2) := by decide +kernel
theorem dX0_mix_70 : decode cX0_mix 70 = .ok (.if_icmp .ge 131, 3) := by decide +kernel
theorem dX0_mix_73 : decode cX0_mix 73 = .ok (.iload 8, 2) := by decide +kernel
theorem dX0_mix_75 : decode cX0_mix 75 = .ok (.iload 5, 2) := by decide +kernel
theorem dX0_mix_77 : decode cX0_mix 77 = .ok (.bipush 6, 2) := by decide +kernel
theorem dX0_mix_79 : decode cX0_mix 79 = .ok (.invokestatic 46, 3) := by decide +kernel
theorem dX0_mix_82 : decode cX0_mix 82 = .ok (.iload 5, 2) := by decide +kernel
theorem dX0_mix_84 : decode cX0_mix 84 = .ok (.bipush 11, 2) := by decide +kernel
theorem dX0_mix_86 : decode cX0_mix 86 = .ok (.invokestatic 46, 3) := by decide +kernel
theorem dX0_mix_89 : decode cX0_mix 89 = .ok (.ixor, 1) := by decide +kernel
theorem dX0_mix_90 : decode cX0_mix 90 = .ok (.iload 5, 2) := by decide +kernel
theorem dX0_mix_92 : decode cX0_mix 92 = .ok (.bipush 25, 2) := by decide +kernel
theorem dX0_mix_94 : decode cX0_mix 94 = .ok (.invokestatic 46, 3) := by decide +kernel
theorem dX0_mix_97 : decode cX0_mix 97 = .ok (.ixor, 1) := by decide +kernel
theorem dX0_mix_98 : decode cX0_mix 98 = .ok (.iadd, 1) := by decide +kernel
theorem dX0_mix_99 : decode cX0_mix 99 = .ok (.iload 5, 2) := by decide +kernel
theorem dX0_mix_101 : decode cX0_mix 101 = .ok (.iload 6, 2) := by decide +kernel
theorem dX0_mix_103 : decode cX0_mix 103 = .ok (.iand, 1) := by decide +kernel
theorem dX0_mix_104 : decode cX0_mix 104 = .ok (.iload 5, 2) := by decide +kernel
theorem dX0_mix_106 : decode cX0_mix 106 = .ok (.iconst (-1), 1) := by decide +kernel
theorem dX0_mix_107 : decode cX0_mix 107 = .ok (.ixor, 1) := by decide +kernel
theorem dX0_mix_108 : decode cX0_mix 108 = .ok (.iload 7, 2) := by decide +kernel
theorem dX0_mix_110 : decode cX0_mix 110 = .ok (.iand, 1) := by decide +kernel
theorem dX0_mix_111 : decode cX0_mix 111 = .ok (.ixor, 1) := by decide +kernel
theorem dX0_mix_112 : decode cX0_mix 112 = .ok (.iadd, 1) := by decide +kernel
theorem dX0_mix_113 : decode cX0_mix 113 = .ok (.getstatic 50, 3) := by decide +kernel
theorem dX0_mix_116 : decode cX0_mix 116 = .ok (.iload 9, 2) := by decide +kernel
theorem dX0_mix_118 : decode cX0_mix 118 = .ok (.iaload, 1) := by decide +kernel
theorem dX0_mix_119 : decode cX0_mix 119 = .ok (.iadd, 1) := by decide +kernel
theorem dX0_mix_120 : decode cX0_mix 120 = .ok (.aload_n 0, 1) := by decide +kernel
theorem dX0_mix_121 : decode cX0_mix 121 = .ok (.getfield 9, 3) := by decide +kernel
theorem dX0_mix_124 : decode cX0_mix 124 = .ok (.iload 9, 2) := by decide +kernel
theorem dX0_mix_126 : decode cX0_mix 126 = .ok (.iaload, 1) := by decide +kernel
theorem dX0_mix_127 : decode cX0_mix 127 = .ok (.iadd, 1) := by decide +kernel
theorem dX0_mix_128 : decode cX0_mix 128 = .ok (.istore 10, 2) := by decide +kernel
theorem dX0_mix_130 : decode cX0_mix 130 = .ok (.iload_n 1, 1) := by decide +kernel
theorem dX0_mix_131 : decode cX0_mix 131 = .ok (.iconst 2, 1) := by decide +kernel
theorem dX0_mix_132 : decode cX0_mix 132 = .ok (.invokestatic 46, 3) := by decide +kernel
theorem dX0_mix_135 : decode cX0_mix 135 = .ok (.iload_n 1, 1) := by decide +kernel
theorem dX0_mix_136 : decode cX0_mix 136 = .ok (.bipush 13, 2) := by decide +kernel
theorem dX0_mix_138 : decode cX0_mix 138 = .ok (.invokestatic 46, 3) := by decide +kernel
theorem dX0_mix_141 : decode cX0_mix 141 = .ok (.ixor, 1) := by decide +kernel
theorem dX0_mix_142 : decode cX0_mix 142 = .ok (.iload_n 1, 1) := by decide +kernel
theorem dX0_mix_143 : decode cX0_mix 143 = .ok (.bipush 22, 2) := by decide +kernel
theorem dX0_mix_145 : decode cX0_mix 145 = .ok (.invokestatic 46, 3) := by decide +kernel
theorem dX0_mix_148 : decode cX0_mix 148 = .ok (.ixor, 1) := by decide +kernel
theorem dX0_mix_149 : decode cX0_mix 149 = .ok (.iload_n 1, 1) := by decide +kernel
theorem dX0_mix_150 : decode cX0_mix 150 = .ok (.iload_n 2, 1) := by decide +kernel
theorem dX0_mix_151 : decode cX0_mix 151 = .ok (.iand, 1) := by decide +kernel
theorem dX0_mix_152 : decode cX0_mix 152 = .ok (.iload_n 1, 1) := by decide +kernel
theorem dX0_mix_153 : decode cX0_mix 153 = .ok (.iload_n 3, 1) := by decide +kernel
theorem dX0_mix_154 : decode cX0_mix 154 = .ok (.iand, 1) := by decide +kernel
theorem dX0_mix_155 : decode cX0_mix 155 = .ok (.ixor, 1) := by decide +kernel
theorem dX0_mix_156 : decode cX0_mix 156 = .ok (.iload_n 2, 1) := by decide +kernel
theorem dX0_mix_157 : decode cX0_mix 157 = .ok (.iload_n 3, 1) := by decide +kernel
theorem dX0_mix_158 : decode cX0_mix 158 = .ok (.iand, 1) := by decide +kernel
theorem dX0_mix_159 : decode cX0_mix 159 = .ok (.ixor, 1) := by decide +kernel
theorem dX0_mix_160 : decode cX0_mix 160 = .ok (.iadd, 1) := by decide +kernel
theorem dX0_mix_161 : decode cX0_mix 161 = .ok (.istore 11, 2) := by decide +kernel
theorem dX0_mix_163 : decode cX0_mix 163 = .ok (.iload 7, 2) := by decide +kernel
theorem dX0_mix_165 : decode cX0_mix 165 = .ok (.istore 8, 2) := by decide +kernel
theorem dX0_mix_167 : decode cX0_mix 167 = .ok (.iload 6, 2) := by decide +kernel
theorem dX0_mix_169 : decode cX0_mix 169 = .ok (.istore 7, 2) := by decide +kernel
theorem dX0_mix_171 : decode cX0_mix 171 = .ok (.iload 5, 2) := by decide +kernel
theorem dX0_mix_173 : decode cX0_mix 173 = .ok (.istore 6, 2) := by decide +kernel
theorem dX0_mix_175 : decode cX0_mix 175 = .ok (.iload 4, 2) := by decide +kernel
theorem dX0_mix_177 : decode cX0_mix 177 = .ok (.iload 10, 2) := by decide +kernel
theorem dX0_mix_179 : decode cX0_mix 179 = .ok (.iadd, 1) := by decide +kernel
theorem dX0_mix_180 : decode cX0_mix 180 = .ok (.istore 5, 2) := by decide +kernel
theorem dX0_mix_182 : decode cX0_mix 182 = .ok (.iload_n 3, 1) := by decide +kernel
theorem dX0_mix_183 : decode cX0_mix 183 = .ok (.istore 4, 2) := by decide +kernel
theorem dX0_mix_185 : decode cX0_mix 185 = .ok (.iload_n 2, 1) := by decide +kernel
theorem dX0_mix_186 : decode cX0_mix 186 = .ok (.istore_n 3, 1) := by decide +kernel
theorem dX0_mix_187 : decode cX0_mix 187 = .ok (.iload_n 1, 1) := by decide +kernel
theorem dX0_mix_188 : decode cX0_mix 188 = .ok (.istore_n 2, 1) := by decide +kernel
theorem dX0_mix_189 : decode cX0_mix 189 = .ok (.iload 10, 2) := by decide +kernel
theorem dX0_mix_191 : decode cX0_mix 191 = .ok (.iload 11, 2) := by decide +kernel
theorem dX0_mix_193 : decode cX0_mix 193 = .ok (.iadd, 1) := by decide +kernel
theorem dX0_mix_194 : decode cX0_mix 194 = .ok (.istore_n 1, 1) := by decide +kernel
theorem dX0_mix_195 : decode cX0_mix 195 = .ok (.iinc 9 1, 3) := by decide +kernel
theorem dX0_mix_198 : decode cX0_mix 198 = .ok (.goto (-132), 3) := by decide +kernel
theorem dX0_mix_201 : decode cX0_mix 201 = .ok (.aload_n 0, 1) := by decide +kernel
theorem dX0_mix_202 : decode cX0_mix 202 = .ok (.getfield 13, 3) := by decide +kernel
theorem dX0_mix_205 : decode cX0_mix 205 = .ok (.iconst 0, 1) := by decide +kernel
theorem dX0_mix_206 : decode cX0_mix 206 = .ok (.dup2, 1) := by decide +kernel
theorem dX0_mix_207 : decode cX0_mix 207 = .ok (.iaload, 1) := by decide +kernel
theorem dX0_mix_208 : decode cX0_mix 208 = .ok (.iload_n 1, 1) := by decide +kernel
theorem dX0_mix_209 : decode cX0_mix 209 = .ok (.iadd, 1) := by decide +kernel
theorem dX0_mix_210 : decode cX0_mix 210 = .ok (.iastore, 1) := by decide +kernel
theorem dX0_mix_211 : decode cX0_mix 211 = .ok (.aload_n 0, 1) := by decide +kernel
theorem dX0_mix_212 : decode cX0_mix 212 = .ok (.getfield 13, 3) := by decide +kernel
theorem dX0_mix_215 : decode cX0_mix 215 = .ok (.iconst 1, 1) := by decide +kernel
theorem dX0_mix_216 : decode cX0_mix 216 = .ok (.dup2, 1) := by decide +kernel
theorem dX0_mix_217 : decode cX0_mix 217 = .ok (.iaload, 1) := by decide +kernel
theorem dX0_mix_218 : decode cX0_mix 218 = .ok (.iload_n 2, 1) := by decide +kernel
theorem dX0_mix_219 : decode cX0_mix 219 = .ok (.iadd, 1) := by decide +kernel
theorem dX0_mix_220 : decode cX0_mix 220 = .ok (.iastore, 1) := by decide +kernel
theorem dX0_mix_221 : decode cX0_mix 221 = .ok (.aload_n 0, 1) := by decide +kernel
theorem dX0_mix_222 : decode cX0_mix 222 = .ok (.getfield 13, 3) := by decide +kernel
theorem dX0_mix_225 : decode cX0_mix 225 = .ok (.iconst 2, 1) := by decide +kernel
theorem dX0_mix_226 : decode cX0_mix 226 = .ok (.dup2, 1) := by decide +kernel
theorem dX0_mix_227 : decode cX0_mix 227 = .ok (.iaload, 1) := by decide +kernel
theorem dX0_mix_228 : decode cX0_mix 228 = .ok (.iload_n 3, 1) := by decide +kernel
theorem dX0_mix_229 : decode cX0_mix 229 = .ok (.iadd, 1) := by decide +kernel
theorem dX0_mix_230 : decode cX0_mix 230 = .ok (.iastore, 1) := by decide +kernel
theorem dX0_mix_231 : decode cX0_mix 231 = .ok (.aload_n 0, 1) := by decide +kernel
theorem dX0_mix_232 : decode cX0_mix 232 = .ok (.getfield 13, 3) := by decide +kernel
theorem dX0_mix_235 : decode cX0_mix 235 = .ok (.iconst 3, 1) := by decide +kernel
theorem dX0_mix_236 : decode cX0_mix 236 = .ok (.dup2, 1) := by decide +kernel
theorem dX0_mix_237 : decode cX0_mix 237 = .ok (.iaload, 1) := by decide +kernel
theorem dX0_mix_238 : decode cX0_mix 238 = .ok (.iload 4, 2) := by decide +kernel
theorem dX0_mix_240 : decode cX0_mix 240 = .ok (.iadd, 1) := by decide +kernel
theorem dX0_mix_241 : decode cX0_mix 241 = .ok (.iastore, 1) := by decide +kernel
theorem dX0_mix_242 : decode cX0_mix 242 = .ok (.aload_n 0, 1) := by decide +kernel
theorem dX0_mix_243 : decode cX0_mix 243 = .ok (.getfield 13, 3) := by decide +kernel
theorem dX0_mix_246 : decode cX0_mix 246 = .ok (.iconst 4, 1) := by decide +kernel
theorem dX0_mix_247 : decode cX0_mix 247 = .ok (.dup2, 1) := by decide +kernel
theorem dX0_mix_248 : decode cX0_mix 248 = .ok (.iaload, 1) := by decide +kernel
theorem dX0_mix_249 : decode cX0_mix 249 = .ok (.iload 5, 2) := by decide +kernel
theorem dX0_mix_251 : decode cX0_mix 251 = .ok (.iadd, 1) := by decide +kernel
theorem dX0_mix_252 : decode cX0_mix 252 = .ok (.iastore, 1) := by decide +kernel
theorem dX0_mix_253 : decode cX0_mix 253 = .ok (.aload_n 0, 1) := by decide +kernel
theorem dX0_mix_254 : decode cX0_mix 254 = .ok (.getfield 13, 3) := by decide +kernel
theorem dX0_mix_257 : decode cX0_mix 257 = .ok (.iconst 5, 1) := by decide +kernel
theorem dX0_mix_258 : decode cX0_mix 258 = .ok (.dup2, 1) := by decide +kernel
theorem dX0_mix_259 : decode cX0_mix 259 = .ok (.iaload, 1) := by decide +kernel
theorem dX0_mix_260 : decode cX0_mix 260 = .ok (.iload 6, 2) := by decide +kernel
theorem dX0_mix_262 : decode cX0_mix 262 = .ok (.iadd, 1) := by decide +kernel
theorem dX0_mix_263 : decode cX0_mix 263 = .ok (.iastore, 1) := by decide +kernel
theorem dX0_mix_264 : decode cX0_mix 264 = .ok (.aload_n 0, 1) := by decide +kernel
theorem dX0_mix_265 : decode cX0_mix 265 = .ok (.getfield 13, 3) := by decide +kernel
theorem dX0_mix_268 : decode cX0_mix 268 = .ok (.bipush 6, 2) := by decide +kernel
theorem dX0_mix_270 : decode cX0_mix 270 = .ok (.dup2, 1) := by decide +kernel
theorem dX0_mix_271 : decode cX0_mix 271 = .ok (.iaload, 1) := by decide +kernel
theorem dX0_mix_272 : decode cX0_mix 272 = .ok (.iload 7, 2) := by decide +kernel
theorem dX0_mix_274 : decode cX0_mix 274 = .ok (.iadd, 1) := by decide +kernel
theorem dX0_mix_275 : decode cX0_mix 275 = .ok (.iastore, 1) := by decide +kernel
theorem dX0_mix_276 : decode cX0_mix 276 = .ok (.aload_n 0, 1) := by decide +kernel
theorem dX0_mix_277 : decode cX0_mix 277 = .ok (.getfield 13, 3) := by decide +kernel
theorem dX0_mix_280 : decode cX0_mix 280 = .ok (.bipush 7, 2) := by decide +kernel
theorem dX0_mix_282 : decode cX0_mix 282 = .ok (.dup2, 1) := by decide +kernel
theorem dX0_mix_283 : decode cX0_mix 283 = .ok (.iaload, 1) := by decide +kernel
theorem dX0_mix_284 : decode cX0_mix 284 = .ok (.iload 8, 2) := by decide +kernel
theorem dX0_mix_286 : decode cX0_mix 286 = .ok (.iadd, 1) := by decide +kernel
theorem dX0_mix_287 : decode cX0_mix 287 = .ok (.iastore, 1) := by decide +kernel
theorem dX0_mix_288 : decode cX0_mix 288 = .ok (.return_, 1) := by decide +kernel
theorem dX0_ror_0 : decode cX0_ror 0 = .ok (.iload_n 0, 1) := by decide +kernel
theorem dX0_ror_1 : decode cX0_ror 1 = .ok (.iload_n 1, 1) := by decide +kernel
theorem dX0_ror_2 : decode cX0_ror 2 = .ok (.iushr, 1) := by decide +kernel
theorem dX0_ror_3 : decode cX0_ror 3 = .ok (.iload_n 0, 1) := by decide +kernel
theorem dX0_ror_4 : decode cX0_ror 4 = .ok (.bipush 32, 2) := by decide +kernel
theorem dX0_ror_6 : decode cX0_ror 6 = .ok (.iload_n 1, 1) := by decide +kernel
theorem dX0_ror_7 : decode cX0_ror 7 = .ok (.isub, 1) := by decide +kernel
theorem dX0_ror_8 : decode cX0_ror 8 = .ok (.ishl, 1) := by decide +kernel
theorem dX0_ror_9 : decode cX0_ror 9 = .ok (.ior, 1) := by decide +kernel
theorem dX0_ror_10 : decode cX0_ror 10 = .ok (.ireturn, 1) := by decide +kernel
theorem dX1_joined_0 : decode cX1_joined 0 = .ok (.iload_n 0, 1) := by decide +kernel
theorem dX1_joined_1 : decode cX1_joined 1 = .ok (.i2l, 1) := by decide +kernel
theorem dX1_joined_2 : decode cX1_joined 2 = .ok (.bipush 51, 2) := by decide +kernel
theorem dX1_joined_4 : decode cX1_joined 4 = .ok (.lshl, 1) := by decide +kernel
theorem dX1_joined_5 : decode cX1_joined 5 = .ok (.iload_n 1, 1) := by decide +kernel
theorem dX1_joined_6 : decode cX1_joined 6 = .ok (.i2l, 1) := by decide +kernel
theorem dX1_joined_7 : decode cX1_joined 7 = .ok (.bipush 47, 2) := by decide +kernel
theorem dX1_joined_9 : decode cX1_joined 9 = .ok (.lshl, 1) := by decide +kernel
theorem dX1_joined_10 : decode cX1_joined 10 = .ok (.lor, 1) := by decide +kernel
theorem dX1_joined_11 : decode cX1_joined 11 = .ok (.iload_n 2, 1) := by decide +kernel
theorem dX1_joined_12 : decode cX1_joined 12 = .ok (.i2l, 1) := by decide +kernel
theorem dX1_joined_13 : decode cX1_joined 13 = .ok (.bipush 30, 2) := by decide +kernel
theorem dX1_joined_15 : decode cX1_joined 15 = .ok (.lshl, 1) := by decide +kernel
theorem dX1_joined_16 : decode cX1_joined 16 = .ok (.lor, 1) := by decide +kernel
theorem dX1_joined_17 : decode cX1_joined 17 = .ok (.iload_n 3, 1) := by decide +kernel
theorem dX1_joined_18 : decode cX1_joined 18 = .ok (.i2l, 1) := by decide +kernel
theorem dX1_joined_19 : decode cX1_joined 19 = .ok (.bipush 14, 2) := by decide +kernel
theorem dX1_joined_21 : decode cX1_joined 21 = .ok (.lshl, 1) := by decide +kernel
theorem dX1_joined_22 : decode cX1_joined 22 = .ok (.lor, 1) := by decide +kernel
theorem dX1_joined_23 : decode cX1_joined 23 = .ok (.iload 4, 2) := by decide +kernel
theorem dX1_joined_25 : decode cX1_joined 25 = .ok (.i2l, 1) := by decide +kernel
theorem dX1_joined_26 : decode cX1_joined 26 = .ok (.lor, 1) := by decide +kernel
theorem dX1_joined_27 : decode cX1_joined 27 = .ok (.lreturn, 1) := by decide +kernel
theorem dX1_keyOf_0 : decode cX1_keyOf 0 = .ok (.lload_n 0, 1) := by decide +kernel
theorem dX1_keyOf_1 : decode cX1_keyOf 1 = .ok (.bipush 51, 2) := by decide +kernel
theorem dX1_keyOf_3 : decode cX1_keyOf 3 = .ok (.lushr, 1) := by decide +kernel
theorem dX1_keyOf_4 : decode cX1_keyOf 4 = .ok (.l2i, 1) := by decide +kernel
theorem dX1_keyOf_5 : decode cX1_keyOf 5 = .ok (.bipush 15, 2) := by decide +kernel
theorem dX1_keyOf_7 : decode cX1_keyOf 7 = .ok (.iand, 1) := by decide +kernel
theorem dX1_keyOf_8 : decode cX1_keyOf 8 = .ok (.ireturn, 1) := by decide +kernel
theorem dX1_kindOf_0 : decode cX1_kindOf 0 = .ok (.lload_n 0, 1) := by decide +kernel
theorem dX1_kindOf_1 : decode cX1_kindOf 1 = .ok (.bipush 47, 2) := by decide +kernel
theorem dX1_kindOf_3 : decode cX1_kindOf 3 = .ok (.lushr, 1) := by decide +kernel
theorem dX1_kindOf_4 : decode cX1_kindOf 4 = .ok (.l2i, 1) := by decide +kernel
theorem dX1_kindOf_5 : decode cX1_kindOf 5 = .ok (.bipush 15, 2) := by decide +kernel
theorem dX1_kindOf_7 : decode cX1_kindOf 7 = .ok (.iand, 1) := by decide +kernel
theorem dX1_kindOf_8 : decode cX1_kindOf 8 = .ok (.ireturn, 1) := by decide +kernel
theorem dX1_valueOf_0 : decode cX1_valueOf 0 = .ok (.lload_n 0, 1) := by decide +kernel
theorem dX1_valueOf_1 : decode cX1_valueOf 1 = .ok (.bipush 30, 2) := by decide +kernel
theorem dX1_valueOf_3 : decode cX1_valueOf 3 = .ok (.lushr, 1) := by decide +kernel
theorem dX1_valueOf_4 : decode cX1_valueOf 4 = .ok (.l2i, 1) := by decide +kernel
theorem dX1_valueOf_5 : decode cX1_valueOf 5 = .ok (.ldc 7, 2) := by decide +kernel
theorem dX1_valueOf_7 : decode cX1_valueOf 7 = .ok (.iand, 1) := by decide +kernel
theorem dX1_valueOf_8 : decode cX1_valueOf 8 = .ok (.ireturn, 1) := by decide +kernel
theorem dX1_dayOf_0 : decode cX1_dayOf 0 = .ok (.lload_n 0, 1) := by decide +kernel
theorem dX1_dayOf_1 : decode cX1_dayOf 1 = .ok (.bipush 14, 2) := by decide +kernel
theorem dX1_dayOf_3 : decode cX1_dayOf 3 = .ok (.lushr, 1) := by decide +kernel
theorem dX1_dayOf_4 : decode cX1_dayOf 4 = .ok (.l2i, 1) := by decide +kernel
theorem dX1_dayOf_5 : decode cX1_dayOf 5 = .ok (.ldc 8, 2) := by decide +kernel
theorem dX1_dayOf_7 : decode cX1_dayOf 7 = .ok (.iand, 1) := by decide +kernel
theorem dX1_dayOf_8 : decode cX1_dayOf 8 = .ok (.ireturn, 1) := by decide +kernel
theorem dX1_serialOf_0 : decode cX1_serialOf 0 = .ok (.lload_n 0, 1) := by decide +kernel
theorem dX1_serialOf_1 : decode cX1_serialOf 1 = .ok (.l2i, 1) := by decide +kernel
theorem dX1_serialOf_2 : decode cX1_serialOf 2 = .ok (.sipush 16383, 3) := by decide +kernel
theorem dX1_serialOf_5 : decode cX1_serialOf 5 = .ok (.iand, 1) := by decide +kernel
theorem dX1_serialOf_6 : decode cX1_serialOf 6 = .ok (.ireturn, 1) := by decide +kernel
theorem dX2_init_0 : decode cX2_init 0 = .ok (.aload_n 0, 1) := by decide +kernel
theorem dX2_init_1 : decode cX2_init 1 = .ok (.invokespecial 1, 3) := by decide +kernel
theorem dX2_init_4 : decode cX2_init 4 = .ok (.aload_n 0, 1) := by decide +kernel
theorem dX2_init_5 : decode cX2_init 5 = .ok (.bipush 32, 2) := by decide +kernel
theorem dX2_init_7 : decode cX2_init 7 = .ok (.newarray .byte, 2) := by decide +kernel
theorem dX2_init_9 : decode cX2_init 9 = .ok (.putfield 9, 3) := by decide +kernel
theorem dX2_init_12 : decode cX2_init 12 = .ok (.aload_n 0, 1) := by decide +kernel
theorem dX2_init_13 : decode cX2_init 13 = .ok (.iload_n 1, 1) := by decide +kernel
theorem dX2_init_14 : decode cX2_init 14 = .ok (.putfield 13, 3) := by decide +kernel
theorem dX2_init_17 : decode cX2_init 17 = .ok (.aload_n 0, 1) := by decide +kernel
theorem dX2_init_18 : decode cX2_init 18 = .ok (.iload_n 2, 1) := by decide +kernel
theorem dX2_init_19 : decode cX2_init 19 = .ok (.putfield 17, 3) := by decide +kernel
theorem dX2_init_22 : decode cX2_init 22 = .ok (.return_, 1) := by decide +kernel
theorem dX2_holdsOn_0 : decode cX2_holdsOn 0 = .ok (.aload_n 0, 1) := by decide +kernel
theorem dX2_holdsOn_1 : decode cX2_holdsOn 1 = .ok (.getfield 13, 3) := by decide +kernel
theorem dX2_holdsOn_4 : decode cX2_holdsOn 4 = .ok (.i2l, 1) := by decide +kernel
theorem dX2_holdsOn_5 : decode cX2_holdsOn 5 = .ok (.lload_n 1, 1) := by decide +kernel
theorem dX2_holdsOn_6 : decode cX2_holdsOn 6 = .ok (.lcmp, 1) := by decide +kernel
theorem dX2_holdsOn_7 : decode cX2_holdsOn 7 = .ok (.ifCond .gt 17, 3) := by decide +kernel
theorem dX2_holdsOn_10 : decode cX2_holdsOn 10 = .ok (.lload_n 1, 1) := by decide +kernel
theorem dX2_holdsOn_11 : decode cX2_holdsOn 11 = .ok (.aload_n 0, 1) := by decide +kernel
theorem dX2_holdsOn_12 : decode cX2_holdsOn 12 = .ok (.getfield 17, 3) := by decide +kernel
theorem dX2_holdsOn_15 : decode cX2_holdsOn 15 = .ok (.i2l, 1) := by decide +kernel
theorem dX2_holdsOn_16 : decode cX2_holdsOn 16 = .ok (.lcmp, 1) := by decide +kernel
theorem dX2_holdsOn_17 : decode cX2_holdsOn 17 = .ok (.ifCond .gt 7, 3) := by decide +kernel
theorem dX2_holdsOn_20 : decode cX2_holdsOn 20 = .ok (.iconst 1, 1) := by decide +kernel
theorem dX2_holdsOn_21 : decode cX2_holdsOn 21 = .ok (.goto 4, 3) := by decide +kernel
theorem dX2_holdsOn_24 : decode cX2_holdsOn 24 = .ok (.iconst 0, 1) := by decide +kernel
theorem dX2_holdsOn_25 : decode cX2_holdsOn 25 = .ok (.ireturn, 1) := by decide +kernel
theorem dX2_take_0 : decode cX2_take 0 = .ok (.aload_n 0, 1) := by decide +kernel
theorem dX2_take_1 : decode cX2_take 1 = .ok (.getfield 20, 3) := by decide +kernel
theorem dX2_take_4 : decode cX2_take 4 = .ok (.ifCond .ne 12, 3) := by decide +kernel
theorem dX2_take_7 : decode cX2_take 7 = .ok (.aload_n 0, 1) := by decide +kernel
theorem dX2_take_8 : decode cX2_take 8 = .ok (.getfield 24, 3) := by decide +kernel
theorem dX2_take_11 : decode cX2_take 11 = .ok (.bipush 32, 2) := by decide +kernel
theorem dX2_take_13 : decode cX2_take 13 = .ok (.if_icmp .lt 4, 3) := by decide +kernel
theorem dX2_take_16 : decode cX2_take 16 = .ok (.return_, 1) := by decide +kernel
theorem dX2_take_17 : decode cX2_take 17 = .ok (.aload_n 0, 1) := by decide +kernel
theorem dX2_take_18 : decode cX2_take 18 = .ok (.getfield 9, 3) := by decide +kernel
theorem dX2_take_21 : decode cX2_take 21 = .ok (.aload_n 0, 1) := by decide +kernel
theorem dX2_take_22 : decode cX2_take 22 = .ok (.getfield 24, 3) := by decide +kernel
theorem dX2_take_25 : decode cX2_take 25 = .ok (.iload_n 1, 1) := by decide +kernel
theorem dX2_take_26 : decode cX2_take 26 = .ok (.bastore, 1) := by decide +kernel
theorem dX2_take_27 : decode cX2_take 27 = .ok (.aload_n 0, 1) := by decide +kernel
theorem dX2_take_28 : decode cX2_take 28 = .ok (.dup, 1) := by decide +kernel
theorem dX2_take_29 : decode cX2_take 29 = .ok (.getfield 24, 3) := by decide +kernel
theorem dX2_take_32 : decode cX2_take 32 = .ok (.iconst 1, 1) := by decide +kernel
theorem dX2_take_33 : decode cX2_take 33 = .ok (.iadd, 1) := by decide +kernel
theorem dX2_take_34 : decode cX2_take 34 = .ok (.putfield 24, 3) := by decide +kernel
theorem dX2_take_37 : decode cX2_take 37 = .ok (.return_, 1) := by decide +kernel
theorem dX2_close_0 : decode cX2_close 0 = .ok (.aload_n 0, 1) := by decide +kernel
theorem dX2_close_1 : decode cX2_close 1 = .ok (.iconst 1, 1) := by decide +kernel
theorem dX2_close_2 : decode cX2_close 2 = .ok (.putfield 20, 3) := by decide +kernel
theorem dX2_close_5 : decode cX2_close 5 = .ok (.return_, 1) := by decide +kernel
theorem dX2_size_0 : decode cX2_size 0 = .ok (.aload_n 0, 1) := by decide +kernel
theorem dX2_size_1 : decode cX2_size 1 = .ok (.getfield 24, 3) := by decide +kernel
theorem dX2_size_4 : decode cX2_size 4 = .ok (.ireturn, 1) := by decide +kernel
theorem dX2_octetAt_0 : decode cX2_octetAt 0 = .ok (.iload_n 1, 1) := by decide +kernel
theorem dX2_octetAt_1 : decode cX2_octetAt 1 = .ok (.ifCond .lt 22, 3) := by decide +kernel
theorem dX2_octetAt_4 : decode cX2_octetAt 4 = .ok (.iload_n 1, 1) := by decide +kernel
theorem dX2_octetAt_5 : decode cX2_octetAt 5 = .ok (.bipush 32, 2) := by decide +kernel
theorem dX2_octetAt_7 : decode cX2_octetAt 7 = .ok (.if_icmp .ge 16, 3) := by decide +kernel
theorem dX2_octetAt_10 : decode cX2_octetAt 10 = .ok (.aload_n 0, 1) := by decide +kernel
theorem dX2_octetAt_11 : decode cX2_octetAt 11 = .ok (.getfield 9, 3) := by decide +kernel
theorem dX2_octetAt_14 : decode cX2_octetAt 14 = .ok (.iload_n 1, 1) := by decide +kernel
theorem dX2_octetAt_15 : decode cX2_octetAt 15 = .ok (.baload, 1) := by decide +kernel
theorem dX2_octetAt_16 : decode cX2_octetAt 16 = .ok (.sipush 255, 3) := by decide +kernel
theorem dX2_octetAt_19 : decode cX2_octetAt 19 = .ok (.iand, 1) := by decide +kernel
theorem dX2_octetAt_20 : decode cX2_octetAt 20 = .ok (.goto 4, 3) := by decide +kernel
theorem dX2_octetAt_23 : decode cX2_octetAt 23 = .ok (.iconst 0, 1) := by decide +kernel
theorem dX2_octetAt_24 : decode cX2_octetAt 24 = .ok (.ireturn, 1) := by decide +kernel
theorem dX3_init_0 : decode cX3_init 0 = .ok (.aload_n 0, 1) := by decide +kernel
theorem dX3_init_1 : decode cX3_init 1 = .ok (.invokespecial 3, 3) := by decide +kernel
theorem dX3_init_4 : decode cX3_init 4 = .ok (.aload_n 0, 1) := by decide +kernel
theorem dX3_init_5 : decode cX3_init 5 = .ok (.sipush 16384, 3) := by decide +kernel
theorem dX3_init_8 : decode cX3_init 8 = .ok (.newarray .byte, 2) := by decide +kernel
theorem dX3_init_10 : decode cX3_init 10 = .ok (.putfield 9, 3) := by decide +kernel
theorem dX3_init_13 : decode cX3_init 13 = .ok (.aload_n 0, 1) := by decide +kernel
theorem dX3_init_14 : decode cX3_init 14 = .ok (.sipush 16384, 3) := by decide +kernel
theorem dX3_init_17 : decode cX3_init 17 = .ok (.newarray .int, 2) := by decide +kernel
theorem dX3_init_19 : decode cX3_init 19 = .ok (.putfield 15, 3) := by decide +kernel
theorem dX3_init_22 : decode cX3_init 22 = .ok (.aload_n 0, 1) := by decide +kernel
theorem dX3_init_23 : decode cX3_init 23 = .ok (.sipush 16384, 3) := by decide +kernel
theorem dX3_init_26 : decode cX3_init 26 = .ok (.newarray .int, 2) := by decide +kernel
theorem dX3_init_28 : decode cX3_init 28 = .ok (.putfield 19, 3) := by decide +kernel
theorem dX3_init_31 : decode cX3_init 31 = .ok (.return_, 1) := by decide +kernel
theorem dX3_isSerial_0 : decode cX3_isSerial 0 = .ok (.lload_n 0, 1) := by decide +kernel
theorem dX3_isSerial_1 : decode cX3_isSerial 1 = .ok (.lconst 0, 1) := by decide +kernel
theorem dX3_isSerial_2 : decode cX3_isSerial 2 = .ok (.lcmp, 1) := by decide +kernel
theorem dX3_isSerial_3 : decode cX3_isSerial 3 = .ok (.ifCond .lt 15, 3) := by decide +kernel
theorem dX3_isSerial_6 : decode cX3_isSerial 6 = .ok (.lload_n 0, 1) := by decide +kernel
theorem dX3_isSerial_7 : decode cX3_isSerial 7 = .ok (.ldc2_w 22, 3) := by decide +kernel
theorem dX3_isSerial_10 : decode cX3_isSerial 10 = .ok (.lcmp, 1) := by decide +kernel
theorem dX3_isSerial_11 : decode cX3_isSerial 11 = .ok (.ifCond .ge 7, 3) := by decide +kernel
theorem dX3_isSerial_14 : decode cX3_isSerial 14 = .ok (.iconst 1, 1) := by decide +kernel
theorem dX3_isSerial_15 : decode cX3_isSerial 15 = .ok (.goto 4, 3) := by decide +kernel
theorem dX3_isSerial_18 : decode cX3_isSerial 18 = .ok (.iconst 0, 1) := by decide +kernel
theorem dX3_isSerial_19 : decode cX3_isSerial 19 = .ok (.ireturn, 1) := by decide +kernel
end
section
set_option maxRecDepth 20000 in
theorem ggX3_fateOf_X3_isSerial : GoodIn wsX3_fateOf wsX3_isSerial := goodIn_r _ [5, 6] (by decide +kernel) (by decide +kernel)
set_option maxRecDepth 20000 in
theorem gX3_fateOf_X3_isSerial : GoodIn wsX3_fateOf (va_wsS RX3 24 yX3_isSerial wsX3_isSerial) := goodIn_app (goodIn_of _ (by decide +kernel)) ggX3_fateOf_X3_isSerial
theorem dX3_fateOf_0 : decode cX3_fateOf 0 = .ok (.lload_n 1, 1) := by decide +kernel
theorem dX3_fateOf_1 : decode cX3_fateOf 1 = .ok (.invokestatic 24, 3) := by decide +kernel
theorem dX3_fateOf_4 : decode cX3_fateOf 4 = .ok (.ifCond .eq 13, 3) := by decide +kernel
theorem dX3_fateOf_7 : decode cX3_fateOf 7 = .ok (.aload_n 0, 1) := by decide +kernel
theorem dX3_fateOf_8 : decode cX3_fateOf 8 = .ok (.getfield 9, 3) := by decide +kernel
theorem dX3_fateOf_11 : decode cX3_fateOf 11 = .ok (.lload_n 1, 1) := by decide +kernel
theorem dX3_fateOf_12 : decode cX3_fateOf 12 = .ok (.l2i, 1) := by decide +kernel
theorem dX3_fateOf_13 : decode cX3_fateOf 13 = .ok (.baload, 1) := by decide +kernel
theorem dX3_fateOf_14 : decode cX3_fateOf 14 = .ok (.goto 4, 3) := by decide +kernel
theorem dX3_fateOf_17 : decode cX3_fateOf 17 = .ok (.iconst 0, 1) := by decide +kernel
theorem dX3_fateOf_18 : decode cX3_fateOf 18 = .ok (.ireturn, 1) := by decide +kernel
set_option maxRecDepth 20000 in
theorem ggX3_dayOf_X3_isSerial : GoodIn wsX3_dayOf wsX3_isSerial := goodIn_r _ [5, 6] (by decide +kernel) (by decide +kernel)
set_option maxRecDepth 20000 in
theorem gX3_dayOf_X3_isSerial : GoodIn wsX3_dayOf (va_wsS RX3 24 yX3_isSerial wsX3_isSerial) := goodIn_app (goodIn_of _ (by decide +kernel)) ggX3_dayOf_X3_isSerial
theorem dX3_dayOf_0 : decode cX3_dayOf 0 = .ok (.iload_n 1, 1) := by decide +kernel
theorem dX3_dayOf_1 : decode cX3_dayOf 1 = .ok (.i2l, 1) := by decide +kernel
theorem dX3_dayOf_2 : decode cX3_dayOf 2 = .ok (.invokestatic 24, 3) := by decide +kernel
theorem dX3_dayOf_5 : decode cX3_dayOf 5 = .ok (.ifCond .eq 12, 3) := by decide +kernel
theorem dX3_dayOf_8 : decode cX3_dayOf 8 = .ok (.aload_n 0, 1) := by decide +kernel
theorem dX3_dayOf_9 : decode cX3_dayOf 9 = .ok (.getfield 15, 3) := by decide +kernel
theorem dX3_dayOf_12 : decode cX3_dayOf 12 = .ok (.iload_n 1, 1) := by decide +kernel
theorem dX3_dayOf_13 : decode cX3_dayOf 13 = .ok (.iaload, 1) := by decide +kernel
theorem dX3_dayOf_14 : decode cX3_dayOf 14 = .ok (.goto 4, 3) := by decide +kernel
theorem dX3_dayOf_17 : decode cX3_dayOf 17 = .ok (.iconst (-1), 1) := by decide +kernel
theorem dX3_dayOf_18 : decode cX3_dayOf 18 = .ok (.ireturn, 1) := by decide +kernel
set_option maxRecDepth 20000 in
theorem ggX3_checkOf_X3_isSerial : GoodIn wsX3_checkOf wsX3_isSerial := goodIn_r _ [5, 6] (by decide +kernel) (by decide +kernel)
set_option maxRecDepth 20000 in
theorem gX3_checkOf_X3_isSerial : GoodIn wsX3_checkOf (va_wsS RX3 24 yX3_isSerial wsX3_isSerial) := goodIn_app (goodIn_of _ (by decide +kernel)) ggX3_checkOf_X3_isSerial
theorem dX3_checkOf_0 : decode cX3_checkOf 0 = .ok (.iload_n 1, 1) := by decide +kernel
theorem dX3_checkOf_1 : decode cX3_checkOf 1 = .ok (.i2l, 1) := by decide +kernel
theorem dX3_checkOf_2 : decode cX3_checkOf 2 = .ok (.invokestatic 24, 3) := by decide +kernel
theorem dX3_checkOf_5 : decode cX3_checkOf 5 = .ok (.ifCond .eq 12, 3) := by decide +kernel
theorem dX3_checkOf_8 : decode cX3_checkOf 8 = .ok (.aload_n 0, 1) := by decide +kernel
theorem dX3_checkOf_9 : decode cX3_checkOf 9 = .ok (.getfield 19, 3) := by decide +kernel
theorem dX3_checkOf_12 : decode cX3_checkOf 12 = .ok (.iload_n 1, 1) := by decide +kernel
theorem dX3_checkOf_13 : decode cX3_checkOf 13 = .ok (.iaload, 1) := by decide +kernel
theorem dX3_checkOf_14 : decode cX3_checkOf 14 = .ok (.goto 4, 3) := by decide +kernel
theorem dX3_checkOf_17 : decode cX3_checkOf 17 = .ok (.iconst (-1), 1) := by decide +kernel
theorem dX3_checkOf_18 : decode cX3_checkOf 18 = .ok (.ireturn, 1) := by decide +kernel
set_option maxRecDepth 20000 in
theorem ggX3_spend_X3_isSerial : GoodIn wsX3_spend wsX3_isSerial := goodIn_r _ [7, 8] (by decide +kernel) (by decide +kernel)
set_option maxRecDepth 20000 in
theorem gX3_spend_X3_isSerial : GoodIn wsX3_spend (va_wsS RX3 24 yX3_isSerial wsX3_isSerial) := goodIn_app (goodIn_of _ (by decide +kernel)) ggX3_spend_X3_isSerial
theorem dX3_spend_0 : decode cX3_spend 0 = .ok (.iload_n 1, 1) := by decide +kernel
theorem dX3_spend_1 : decode cX3_spend 1 = .ok (.i2l, 1) := by decide +kernel
theorem dX3_spend_2 : decode cX3_spend 2 = .ok (.invokestatic 24, 3) := by decide +kernel
theorem dX3_spend_5 : decode cX3_spend 5 = .ok (.ifCond .ne 4, 3) := by decide +kernel
theorem dX3_spend_8 : decode cX3_spend 8 = .ok (.return_, 1) := by decide +kernel
theorem dX3_spend_9 : decode cX3_spend 9 = .ok (.aload_n 0, 1) := by decide +kernel
theorem dX3_spend_10 : decode cX3_spend 10 = .ok (.getfield 9, 3) := by decide +kernel
theorem dX3_spend_13 : decode cX3_spend 13 = .ok (.iload_n 1, 1) := by decide +kernel
theorem dX3_spend_14 : decode cX3_spend 14 = .ok (.iconst 1, 1) := by decide +kernel
theorem dX3_spend_15 : decode cX3_spend 15 = .ok (.bastore, 1) := by decide +kernel
theorem dX3_spend_16 : decode cX3_spend 16 = .ok (.aload_n 0, 1) := by decide +kernel
theorem dX3_spend_17 : decode cX3_spend 17 = .ok (.getfield 15, 3) := by decide +kernel
theorem dX3_spend_20 : decode cX3_spend 20 = .ok (.iload_n 1, 1) := by decide +kernel
theorem dX3_spend_21 : decode cX3_spend 21 = .ok (.iload_n 2, 1) := by decide +kernel
theorem dX3_spend_22 : decode cX3_spend 22 = .ok (.iastore, 1) := by decide +kernel
theorem dX3_spend_23 : decode cX3_spend 23 = .ok (.aload_n 0, 1) := by decide +kernel
theorem dX3_spend_24 : decode cX3_spend 24 = .ok (.getfield 19, 3) := by decide +kernel
theorem dX3_spend_27 : decode cX3_spend 27 = .ok (.iload_n 1, 1) := by decide +kernel
theorem dX3_spend_28 : decode cX3_spend 28 = .ok (.iload_n 3, 1) := by decide +kernel
theorem dX3_spend_29 : decode cX3_spend 29 = .ok (.iastore, 1) := by decide +kernel
theorem dX3_spend_30 : decode cX3_spend 30 = .ok (.return_, 1) := by decide +kernel
set_option maxRecDepth 20000 in
theorem ggX3_giveBack_X3_isSerial : GoodIn wsX3_giveBack wsX3_isSerial := goodIn_r _ [5, 6] (by decide +kernel) (by decide +kernel)
set_option maxRecDepth 20000 in
theorem gX3_giveBack_X3_isSerial : GoodIn wsX3_giveBack (va_wsS RX3 24 yX3_isSerial wsX3_isSerial) := goodIn_app (goodIn_of _ (by decide +kernel)) ggX3_giveBack_X3_isSerial
theorem dX3_giveBack_0 : decode cX3_giveBack 0 = .ok (.iload_n 1, 1) := by decide +kernel
theorem dX3_giveBack_1 : decode cX3_giveBack 1 = .ok (.i2l, 1) := by decide +kernel
theorem dX3_giveBack_2 : decode cX3_giveBack 2 = .ok (.invokestatic 24, 3) := by decide +kernel
theorem dX3_giveBack_5 : decode cX3_giveBack 5 = .ok (.ifCond .eq 10, 3) := by decide +kernel
theorem dX3_giveBack_8 : decode cX3_giveBack 8 = .ok (.aload_n 0, 1) := by decide +kernel
theorem dX3_giveBack_9 : decode cX3_giveBack 9 = .ok (.getfield 9, 3) := by decide +kernel
theorem dX3_giveBack_12 : decode cX3_giveBack 12 = .ok (.iload_n 1, 1) := by decide +kernel
theorem dX3_giveBack_13 : decode cX3_giveBack 13 = .ok (.iconst 2, 1) := by decide +kernel
theorem dX3_giveBack_14 : decode cX3_giveBack 14 = .ok (.bastore, 1) := by decide +kernel
theorem dX3_giveBack_15 : decode cX3_giveBack 15 = .ok (.return_, 1) := by decide +kernel
set_option maxRecDepth 20000 in
theorem ggX4_init_X3_init : GoodIn wsX4_init wsX3_init := goodIn_r _ [19, 20, 2, 3, 21, 22, 6, 23, 24, 40, 41, 42] (by decide +kernel) (by decide +kernel)
set_option maxRecDepth 20000 in
theorem gX4_init_X3_init_n28 : GoodIn wsX4_init (wsX3_init) := ggX4_init_X3_init
set_option maxRecDepth 20000 in
theorem ggX4_init_X0_init : GoodIn wsX4_init wsX0_init := goodIn_r _ [26, 27, 2, 3, 6, 28, 29, 43, 44, 45] (by decide +kernel) (by decide +kernel)
set_option maxRecDepth 20000 in
theorem gX4_init_X0_init_n35 : GoodIn wsX4_init (wsX0_init) := ggX4_init_X0_init
theorem dX4_init_0 : decode cX4_init 0 = .ok (.aload_n 0, 1) := by decide +kernel
theorem dX4_init_1 : decode cX4_init 1 = .ok (.invokespecial 1, 3) := by decide +kernel
theorem dX4_init_4 : decode cX4_init 4 = .ok (.aload_n 0, 1) := by decide +kernel
theorem dX4_init_5 : decode cX4_init 5 = .ok (.bipush 15, 2) := by decide +kernel
theorem dX4_init_7 : decode cX4_init 7 = .ok (.anewarray 9, 3) := by decide +kernel
theorem dX4_init_10 : decode cX4_init 10 = .ok (.putfield 11, 3) := by decide +kernel
theorem dX4_init_13 : decode cX4_init 13 = .ok (.aload_n 0, 1) := by decide +kernel
theorem dX4_init_14 : decode cX4_init 14 = .ok (.bipush 16, 2) := by decide +kernel
theorem dX4_init_16 : decode cX4_init 16 = .ok (.newarray .int, 2) := by decide +kernel
theorem dX4_init_18 : decode cX4_init 18 = .ok (.putfield 15, 3) := by decide +kernel
theorem dX4_init_21 : decode cX4_init 21 = .ok (.aload_n 0, 1) := by decide +kernel
theorem dX4_init_22 : decode cX4_init 22 = .ok (.bipush 40, 2) := by decide +kernel
theorem dX4_init_24 : decode cX4_init 24 = .ok (.newarray .int, 2) := by decide +kernel
theorem dX4_init_26 : decode cX4_init 26 = .ok (.putfield 19, 3) := by decide +kernel
theorem dX4_init_29 : decode cX4_init 29 = .ok (.aload_n 0, 1) := by decide +kernel
theorem dX4_init_30 : decode cX4_init 30 = .ok (.iconst (-1), 1) := by decide +kernel
theorem dX4_init_31 : decode cX4_init 31 = .ok (.putfield 22, 3) := by decide +kernel
theorem dX4_init_34 : decode cX4_init 34 = .ok (.aload_n 0, 1) := by decide +kernel
theorem dX4_init_35 : decode cX4_init 35 = .ok (.new 26, 3) := by decide +kernel
theorem dX4_init_38 : decode cX4_init 38 = .ok (.dup, 1) := by decide +kernel
theorem dX4_init_39 : decode cX4_init 39 = .ok (.invokespecial 28, 3) := by decide +kernel
theorem dX4_init_42 : decode cX4_init 42 = .ok (.putfield 29, 3) := by decide +kernel
theorem dX4_init_45 : decode cX4_init 45 = .ok (.aload_n 0, 1) := by decide +kernel
theorem dX4_init_46 : decode cX4_init 46 = .ok (.new 33, 3) := by decide +kernel
theorem dX4_init_49 : decode cX4_init 49 = .ok (.dup, 1) := by decide +kernel
theorem dX4_init_50 : decode cX4_init 50 = .ok (.invokespecial 35, 3) := by decide +kernel
theorem dX4_init_53 : decode cX4_init 53 = .ok (.putfield 36, 3) := by decide +kernel
theorem dX4_init_56 : decode cX4_init 56 = .ok (.return_, 1) := by decide +kernel
set_option maxRecDepth 20000 in
theorem ggX4_key_X4_isDay : GoodIn wsX4_key wsX4_isDay := goodIn_r _ [9, 10] (by decide +kernel) (by decide +kernel)
set_option maxRecDepth 20000 in
theorem gX4_key_X4_isDay : GoodIn wsX4_key (va_wsS RX4 40 yX4_isDay wsX4_isDay) := goodIn_app (goodIn_of _ (by decide +kernel)) ggX4_key_X4_isDay
set_option maxRecDepth 20000 in
theorem ggX4_key_X2_init : GoodIn wsX4_key wsX2_init := goodIn_r _ [13, 14, 15, 16, 17, 18, 19, 20, 31, 32, 33, 34, 35] (by decide +kernel) (by decide +kernel)
set_option maxRecDepth 20000 in
theorem gX4_key_X2_init : GoodIn wsX4_key (wsX2_init) := ggX4_key_X2_init
theorem dX4_key_0 : decode cX4_key 0 = .ok (.lload_n 1, 1) := by decide +kernel
theorem dX4_key_1 : decode cX4_key 1 = .ok (.invokestatic 40, 3) := by decide +kernel
theorem dX4_key_4 : decode cX4_key 4 = .ok (.ifCond .eq 16, 3) := by decide +kernel
theorem dX4_key_7 : decode cX4_key 7 = .ok (.lload_n 3, 1) := by decide +kernel
theorem dX4_key_8 : decode cX4_key 8 = .ok (.invokestatic 40, 3) := by decide +kernel
theorem dX4_key_11 : decode cX4_key 11 = .ok (.ifCond .eq 9, 3) := by decide +kernel
theorem dX4_key_14 : decode cX4_key 14 = .ok (.lload_n 1, 1) := by decide +kernel
theorem dX4_key_15 : decode cX4_key 15 = .ok (.lload_n 3, 1) := by decide +kernel
theorem dX4_key_16 : decode cX4_key 16 = .ok (.lcmp, 1) := by decide +kernel
theorem dX4_key_17 : decode cX4_key 17 = .ok (.ifCond .le 6, 3) := by decide +kernel
theorem dX4_key_20 : decode cX4_key 20 = .ok (.bipush (-22), 2) := by decide +kernel
theorem dX4_key_22 : decode cX4_key 22 = .ok (.ireturn, 1) := by decide +kernel
theorem dX4_key_23 : decode cX4_key 23 = .ok (.aload_n 0, 1) := by decide +kernel
theorem dX4_key_24 : decode cX4_key 24 = .ok (.getfield 44, 3) := by decide +kernel
theorem dX4_key_27 : decode cX4_key 27 = .ok (.bipush 15, 2) := by decide +kernel
theorem dX4_key_29 : decode cX4_key 29 = .ok (.if_icmp .lt 6, 3) := by decide +kernel
theorem dX4_key_32 : decode cX4_key 32 = .ok (.bipush (-24), 2) := by decide +kernel
theorem dX4_key_34 : decode cX4_key 34 = .ok (.ireturn, 1) := by decide +kernel
theorem dX4_key_35 : decode cX4_key 35 = .ok (.aload_n 0, 1) := by decide +kernel
theorem dX4_key_36 : decode cX4_key 36 = .ok (.getfield 11, 3) := by decide +kernel
theorem dX4_key_39 : decode cX4_key 39 = .ok (.aload_n 0, 1) := by decide +kernel
theorem dX4_key_40 : decode cX4_key 40 = .ok (.getfield 44, 3) := by decide +kernel
theorem dX4_key_43 : decode cX4_key 43 = .ok (.new 9, 3) := by decide +kernel
theorem dX4_key_46 : decode cX4_key 46 = .ok (.dup, 1) := by decide +kernel
theorem dX4_key_47 : decode cX4_key 47 = .ok (.lload_n 1, 1) := by decide +kernel
theorem dX4_key_48 : decode cX4_key 48 = .ok (.l2i, 1) := by decide +kernel
theorem dX4_key_49 : decode cX4_key 49 = .ok (.lload_n 3, 1) := by decide +kernel
theorem dX4_key_50 : decode cX4_key 50 = .ok (.l2i, 1) := by decide +kernel
theorem dX4_key_51 : decode cX4_key 51 = .ok (.invokespecial 47, 3) := by decide +kernel
theorem dX4_key_54 : decode cX4_key 54 = .ok (.aastore, 1) := by decide +kernel
theorem dX4_key_55 : decode cX4_key 55 = .ok (.aload_n 0, 1) := by decide +kernel
theorem dX4_key_56 : decode cX4_key 56 = .ok (.dup, 1) := by decide +kernel
theorem dX4_key_57 : decode cX4_key 57 = .ok (.getfield 44, 3) := by decide +kernel
theorem dX4_key_60 : decode cX4_key 60 = .ok (.dup_x1, 1) := by decide +kernel
theorem dX4_key_61 : decode cX4_key 61 = .ok (.iconst 1, 1) := by decide +kernel
theorem dX4_key_62 : decode cX4_key 62 = .ok (.iadd, 1) := by decide +kernel
theorem dX4_key_63 : decode cX4_key 63 = .ok (.putfield 44, 3) := by decide +kernel
theorem dX4_key_66 : decode cX4_key 66 = .ok (.ireturn, 1) := by decide +kernel
set_option maxRecDepth 20000 in
theorem ggX4_octet_X4_keyNumbered : GoodIn wsX4_octet wsX4_keyNumbered := goodIn_r _ [5, 6, 7, 16, 17, 18, 19, 20, 21, 22, 23, 24, 25] (by decide +kernel) (by decide +kernel)
set_option maxRecDepth 20000 in
theorem gX4_octet_X4_keyNumbered : GoodIn wsX4_octet (wsV RX4 50 RX4 yX4_keyNumbered wsX4_keyNumbered) := goodIn_app (goodIn_of _ (by decide +kernel)) ggX4_octet_X4_keyNumbered
set_option maxRecDepth 20000 in
theorem ggX4_octet_X2_take : GoodIn wsX4_octet wsX2_take := goodIn_ca (goodIn_r _ [12, 13, 14, 15, 26, 27, 28, 29, 30] (by decide +kernel) (by decide +kernel)) (goodIn_sub (fun _ h => List.mem_cons_of_mem _ (List.mem_append_right _ h)) (by decide +kernel))
set_option maxRecDepth 20000 in
theorem gX4_octet_X2_take : GoodIn wsX4_octet (wsV RX4 54 RX2 yX2_take wsX2_take) := goodIn_app (goodIn_of _ (by decide +kernel)) ggX4_octet_X2_take
theorem dX4_octet_0 : decode cX4_octet 0 = .ok (.aload_n 0, 1) := by decide +kernel
theorem dX4_octet_1 : decode cX4_octet 1 = .ok (.iload_n 1, 1) := by decide +kernel
theorem dX4_octet_2 : decode cX4_octet 2 = .ok (.invokevirtual 50, 3) := by decide +kernel
theorem dX4_octet_5 : decode cX4_octet 5 = .ok (.astore_n 3, 1) := by decide +kernel
theorem dX4_octet_6 : decode cX4_octet 6 = .ok (.aload_n 3, 1) := by decide +kernel
theorem dX4_octet_7 : decode cX4_octet 7 = .ok (.ifnull 8, 3) := by decide +kernel
theorem dX4_octet_10 : decode cX4_octet 10 = .ok (.aload_n 3, 1) := by decide +kernel
theorem dX4_octet_11 : decode cX4_octet 11 = .ok (.iload_n 2, 1) := by decide +kernel
theorem dX4_octet_12 : decode cX4_octet 12 = .ok (.invokevirtual 54, 3) := by decide +kernel
theorem dX4_octet_15 : decode cX4_octet 15 = .ok (.return_, 1) := by decide +kernel
set_option maxRecDepth 20000 in
theorem ggX4_make_X4_keyNumbered : GoodIn wsX4_make wsX4_keyNumbered := goodIn_r _ [7, 8, 9, 127, 128, 129, 130, 131, 132, 133, 134, 135, 136] (by decide +kernel) (by decide +kernel)
set_option maxRecDepth 20000 in
theorem gX4_make_X4_keyNumbered : GoodIn wsX4_make (wsV RX4 50 RX4 yX4_keyNumbered wsX4_keyNumbered) := goodIn_app (goodIn_of _ (by decide +kernel)) ggX4_make_X4_keyNumbered
set_option maxRecDepth 20000 in
theorem ggX4_make_X4_isValue : GoodIn wsX4_make wsX4_isValue := goodIn_r _ [12, 13] (by decide +kernel) (by decide +kernel)
set_option maxRecDepth 20000 in
theorem gX4_make_X4_isValue : GoodIn wsX4_make (va_wsS RX4 58 yX4_isValue wsX4_isValue) := goodIn_app (goodIn_of _ (by decide +kernel)) ggX4_make_X4_isValue
set_option maxRecDepth 20000 in
theorem ggX4_make_X4_isKind : GoodIn wsX4_make wsX4_isKind := goodIn_r _ [16] (by decide +kernel) (by decide +kernel)
set_option maxRecDepth 20000 in
theorem gX4_make_X4_isKind : GoodIn wsX4_make (va_wsS RX4 62 yX4_isKind wsX4_isKind) := goodIn_app (goodIn_of _ (by decide +kernel)) ggX4_make_X4_isKind
set_option maxRecDepth 20000 in
theorem ggX4_make_X4_isDay : GoodIn wsX4_make wsX4_isDay := goodIn_r _ [19, 20] (by decide +kernel) (by decide +kernel)
set_option maxRecDepth 20000 in
theorem gX4_make_X4_isDay : GoodIn wsX4_make (va_wsS RX4 40 yX4_isDay wsX4_isDay) := goodIn_app (goodIn_of _ (by decide +kernel)) ggX4_make_X4_isDay
set_option maxRecDepth 20000 in
theorem ggX4_make_X2_holdsOn : GoodIn wsX4_make wsX2_holdsOn := goodIn_r _ [25, 26, 27, 137, 138, 139, 140, 141] (by decide +kernel) (by decide +kernel)
set_option maxRecDepth 20000 in
theorem gX4_make_X2_holdsOn : GoodIn wsX4_make (wsV RX4 65 RX2 yX2_holdsOn wsX2_holdsOn) := goodIn_app (goodIn_of _ (by decide +kernel)) ggX4_make_X2_holdsOn
set_option maxRecDepth 20000 in
theorem ggX4_make_X1_joined : GoodIn wsX4_make wsX1_joined := goodIn_r _ [31] (by decide +kernel) (by decide +kernel)
set_option maxRecDepth 20000 in
theorem gX4_make_X1_joined : GoodIn wsX4_make (va_wsS RX4 71 yX1_joined wsX1_joined) := goodIn_app (goodIn_of _ (by decide +kernel)) ggX4_make_X1_joined
set_option maxRecDepth 20000 in
theorem ggX4_make_X2_close : GoodIn wsX4_make wsX2_close := goodIn_r _ [35, 36, 137, 138, 139, 140, 141] (by decide +kernel) (by decide +kernel)
set_option maxRecDepth 20000 in
theorem gX4_make_X2_close : GoodIn wsX4_make (wsV RX4 77 RX2 yX2_close wsX2_close) := goodIn_app (goodIn_of _ (by decide +kernel)) ggX4_make_X2_close
set_option maxRecDepth 20000 in
theorem ggX4_make_X0_reckon : GoodIn wsX4_make wsX0_reckon := goodIn_ca (goodIn_r _ [41, 42, 43, 44, 45, 46, 47, 40, 48, 49, 50, 51, 52, 53, 54, 24, 55, 56, 57, 58, 59, 60, 61, 62, 63, 64, 65, 66, 67, 68, 69, 70, 71, 72, 73, 142, 143, 144, 137, 138, 139, 140, 141] (by decide +kernel) (by decide +kernel)) (goodIn_sub (fun _ h => List.mem_cons_of_mem _ (List.mem_append_right _ h)) (by decide +kernel))
set_option maxRecDepth 20000 in
theorem gX4_make_X0_reckon : GoodIn wsX4_make (wsV RX4 80 RX0 yX0_reckon wsX0_reckon) := goodIn_app (goodIn_of _ (by decide +kernel)) ggX4_make_X0_reckon
set_option maxRecDepth 20000 in
theorem ggX4_make_X0_firstBits : GoodIn wsX4_make wsX0_firstBits := goodIn_ca (goodIn_r _ [77, 43, 142, 143, 144] (by decide +kernel) (by decide +kernel)) (goodIn_sub (fun _ h => List.mem_cons_of_mem _ (List.mem_append_right _ h)) (by decide +kernel))
set_option maxRecDepth 20000 in
theorem gX4_make_X0_firstBits : GoodIn wsX4_make (wsV RX4 84 RX0 yX0_firstBits wsX0_firstBits) := goodIn_app (goodIn_of _ (by decide +kernel)) ggX4_make_X0_firstBits
set_option maxRecDepth 20000 in
theorem ggX4_make_X4_writeLetters : GoodIn wsX4_make wsX4_writeLetters := goodIn_ca (goodIn_r _ [81, 82, 83, 84, 6, 85, 86, 87, 88, 89, 90, 91, 92, 93, 94, 95, 96, 97, 98, 99, 100, 101, 102, 103, 104, 105, 106, 107, 108, 109, 110, 111, 112, 113, 114, 115, 116, 117, 118, 119, 120, 121, 122, 123, 124, 125, 126, 127, 128, 129, 130, 131, 132, 133, 134, 135, 136, 145, 146] (by decide +kernel) (by decide +kernel)) (goodIn_sub (fun _ h => List.mem_cons_of_mem _ (List.mem_append_right _ h)) (by decide +kernel))
set_option maxRecDepth 20000 in
theorem gX4_make_X4_writeLetters : GoodIn wsX4_make (wsV RX4 88 RX4 yX4_writeLetters wsX4_writeLetters) := goodIn_app (goodIn_of _ (by decide +kernel)) ggX4_make_X4_writeLetters
theorem dX4_make_0 : decode cX4_make 0 = .ok (.aload_n 0, 1) := by decide +kernel
theorem dX4_make_1 : decode cX4_make 1 = .ok (.iload_n 1, 1) := by decide +kernel
theorem dX4_make_2 : decode cX4_make 2 = .ok (.invokevirtual 50, 3) := by decide +kernel
theorem dX4_make_5 : decode cX4_make 5 = .ok (.astore 6, 2) := by decide +kernel
theorem dX4_make_7 : decode cX4_make 7 = .ok (.aload 6, 2) := by decide +kernel
theorem dX4_make_9 : decode cX4_make 9 = .ok (.ifnonnull 6, 3) := by decide +kernel
theorem dX4_make_12 : decode cX4_make 12 = .ok (.bipush (-21), 2) := by decide +kernel
theorem dX4_make_14 : decode cX4_make 14 = .ok (.ireturn, 1) := by decide +kernel
theorem dX4_make_15 : decode cX4_make 15 = .ok (.iload_n 2, 1) := by decide +kernel
theorem dX4_make_16 : decode cX4_make 16 = .ok (.invokestatic 58, 3) := by decide +kernel
theorem dX4_make_19 : decode cX4_make 19 = .ok (.ifCond .eq 18, 3) := by decide +kernel
theorem dX4_make_22 : decode cX4_make 22 = .ok (.iload_n 3, 1) := by decide +kernel
theorem dX4_make_23 : decode cX4_make 23 = .ok (.invokestatic 62, 3) := by decide +kernel
theorem dX4_make_26 : decode cX4_make 26 = .ok (.ifCond .eq 11, 3) := by decide +kernel
theorem dX4_make_29 : decode cX4_make 29 = .ok (.lload 4, 2) := by decide +kernel
theorem dX4_make_31 : decode cX4_make 31 = .ok (.invokestatic 40, 3) := by decide +kernel
theorem dX4_make_34 : decode cX4_make 34 = .ok (.ifCond .ne 6, 3) := by decide +kernel
theorem dX4_make_37 : decode cX4_make 37 = .ok (.bipush (-22), 2) := by decide +kernel
theorem dX4_make_39 : decode cX4_make 39 = .ok (.ireturn, 1) := by decide +kernel
theorem dX4_make_40 : decode cX4_make 40 = .ok (.aload 6, 2) := by decide +kernel
theorem dX4_make_42 : decode cX4_make 42 = .ok (.lload 4, 2) := by decide +kernel
theorem dX4_make_44 : decode cX4_make 44 = .ok (.invokevirtual 65, 3) := by decide +kernel
theorem dX4_make_47 : decode cX4_make 47 = .ok (.ifCond .ne 6, 3) := by decide +kernel
theorem dX4_make_50 : decode cX4_make 50 = .ok (.bipush (-23), 2) := by decide +kernel
theorem dX4_make_52 : decode cX4_make 52 = .ok (.ireturn, 1) := by decide +kernel
theorem dX4_make_53 : decode cX4_make 53 = .ok (.aload_n 0, 1) := by decide +kernel
theorem dX4_make_54 : decode cX4_make 54 = .ok (.getfield 68, 3) := by decide +kernel
theorem dX4_make_57 : decode cX4_make 57 = .ok (.sipush 16384, 3) := by decide +kernel
theorem dX4_make_60 : decode cX4_make 60 = .ok (.if_icmp .lt 6, 3) := by decide +kernel
theorem dX4_make_63 : decode cX4_make 63 = .ok (.bipush (-24), 2) := by decide +kernel
theorem dX4_make_65 : decode cX4_make 65 = .ok (.ireturn, 1) := by decide +kernel
theorem dX4_make_66 : decode cX4_make 66 = .ok (.iload_n 1, 1) := by decide +kernel
theorem dX4_make_67 : decode cX4_make 67 = .ok (.iload_n 3, 1) := by decide +kernel
theorem dX4_make_68 : decode cX4_make 68 = .ok (.iload_n 2, 1) := by decide +kernel
theorem dX4_make_69 : decode cX4_make 69 = .ok (.lload 4, 2) := by decide +kernel
theorem dX4_make_71 : decode cX4_make 71 = .ok (.l2i, 1) := by decide +kernel
theorem dX4_make_72 : decode cX4_make 72 = .ok (.aload_n 0, 1) := by decide +kernel
theorem dX4_make_73 : decode cX4_make 73 = .ok (.getfield 68, 3) := by decide +kernel
theorem dX4_make_76 : decode cX4_make 76 = .ok (.invokestatic 71, 3) := by decide +kernel
theorem dX4_make_79 : decode cX4_make 79 = .ok (.lstore 7, 2) := by decide +kernel
theorem dX4_make_81 : decode cX4_make 81 = .ok (.aload_n 0, 1) := by decide +kernel
theorem dX4_make_82 : decode cX4_make 82 = .ok (.dup, 1) := by decide +kernel
theorem dX4_make_83 : decode cX4_make 83 = .ok (.getfield 68, 3) := by decide +kernel
theorem dX4_make_86 : decode cX4_make 86 = .ok (.iconst 1, 1) := by decide +kernel
theorem dX4_make_87 : decode cX4_make 87 = .ok (.iadd, 1) := by decide +kernel
theorem dX4_make_88 : decode cX4_make 88 = .ok (.putfield 68, 3) := by decide +kernel
theorem dX4_make_91 : decode cX4_make 91 = .ok (.aload 6, 2) := by decide +kernel
theorem dX4_make_93 : decode cX4_make 93 = .ok (.invokevirtual 77, 3) := by decide +kernel
theorem dX4_make_96 : decode cX4_make 96 = .ok (.aload_n 0, 1) := by decide +kernel
theorem dX4_make_97 : decode cX4_make 97 = .ok (.getfield 36, 3) := by decide +kernel
theorem dX4_make_100 : decode cX4_make 100 = .ok (.aload 6, 2) := by decide +kernel
theorem dX4_make_102 : decode cX4_make 102 = .ok (.lload 7, 2) := by decide +kernel
theorem dX4_make_104 : decode cX4_make 104 = .ok (.invokevirtual 80, 3) := by decide +kernel
theorem dX4_make_107 : decode cX4_make 107 = .ok (.aload_n 0, 1) := by decide +kernel
theorem dX4_make_108 : decode cX4_make 108 = .ok (.lload 7, 2) := by decide +kernel
theorem dX4_make_110 : decode cX4_make 110 = .ok (.aload_n 0, 1) := by decide +kernel
theorem dX4_make_111 : decode cX4_make 111 = .ok (.getfield 36, 3) := by decide +kernel
theorem dX4_make_114 : decode cX4_make 114 = .ok (.invokevirtual 84, 3) := by decide +kernel
theorem dX4_make_117 : decode cX4_make 117 = .ok (.invokevirtual 88, 3) := by decide +kernel
theorem dX4_make_120 : decode cX4_make 120 = .ok (.bipush 16, 2) := by decide +kernel
theorem dX4_make_122 : decode cX4_make 122 = .ok (.ireturn, 1) := by decide +kernel
theorem dX4_letter_0 : decode cX4_letter 0 = .ok (.iload_n 1, 1) := by decide +kernel
theorem dX4_letter_1 : decode cX4_letter 1 = .ok (.ifCond .lt 18, 3) := by decide +kernel
theorem dX4_letter_4 : decode cX4_letter 4 = .ok (.iload_n 1, 1) := by decide +kernel
theorem dX4_letter_5 : decode cX4_letter 5 = .ok (.bipush 16, 2) := by decide +kernel
theorem dX4_letter_7 : decode cX4_letter 7 = .ok (.if_icmp .ge 12, 3) := by decide +kernel
theorem dX4_letter_10 : decode cX4_letter 10 = .ok (.aload_n 0, 1) := by decide +kernel
theorem dX4_letter_11 : decode cX4_letter 11 = .ok (.getfield 15, 3) := by decide +kernel
theorem dX4_letter_14 : decode cX4_letter 14 = .ok (.iload_n 1, 1) := by decide +kernel
theorem dX4_letter_15 : decode cX4_letter 15 = .ok (.iaload, 1) := by decide +kernel
theorem dX4_letter_16 : decode cX4_letter 16 = .ok (.goto 4, 3) := by decide +kernel
theorem dX4_letter_19 : decode cX4_letter 19 = .ok (.iconst 0, 1) := by decide +kernel
theorem dX4_letter_20 : decode cX4_letter 20 = .ok (.ireturn, 1) := by decide +kernel
theorem dX4_type_0 : decode cX4_type 0 = .ok (.aload_n 0, 1) := by decide +kernel
theorem dX4_type_1 : decode cX4_type 1 = .ok (.getfield 92, 3) := by decide +kernel
theorem dX4_type_4 : decode cX4_type 4 = .ok (.bipush 40, 2) := by decide +kernel
theorem dX4_type_6 : decode cX4_type 6 = .ok (.if_icmp .lt 4, 3) := by decide +kernel
theorem dX4_type_9 : decode cX4_type 9 = .ok (.return_, 1) := by decide +kernel
theorem dX4_type_10 : decode cX4_type 10 = .ok (.aload_n 0, 1) := by decide +kernel
theorem dX4_type_11 : decode cX4_type 11 = .ok (.getfield 19, 3) := by decide +kernel
theorem dX4_type_14 : decode cX4_type 14 = .ok (.aload_n 0, 1) := by decide +kernel
theorem dX4_type_15 : decode cX4_type 15 = .ok (.getfield 92, 3) := by decide +kernel
theorem dX4_type_18 : decode cX4_type 18 = .ok (.iload_n 1, 1) := by decide +kernel
theorem dX4_type_19 : decode cX4_type 19 = .ok (.iastore, 1) := by decide +kernel
theorem dX4_type_20 : decode cX4_type 20 = .ok (.aload_n 0, 1) := by decide +kernel
theorem dX4_type_21 : decode cX4_type 21 = .ok (.dup, 1) := by decide +kernel
theorem dX4_type_22 : decode cX4_type 22 = .ok (.getfield 92, 3) := by decide +kernel
theorem dX4_type_25 : decode cX4_type 25 = .ok (.iconst 1, 1) := by decide +kernel
theorem dX4_type_26 : decode cX4_type 26 = .ok (.iadd, 1) := by decide +kernel
theorem dX4_type_27 : decode cX4_type 27 = .ok (.putfield 92, 3) := by decide +kernel
theorem dX4_type_30 : decode cX4_type 30 = .ok (.return_, 1) := by decide +kernel
set_option maxRecDepth 20000 in
theorem ggX4_check_X4_isDay : GoodIn wsX4_check wsX4_isDay := goodIn_r _ [6, 7] (by decide +kernel) (by decide +kernel)
set_option maxRecDepth 20000 in
theorem gX4_check_X4_isDay : GoodIn wsX4_check (va_wsS RX4 40 yX4_isDay wsX4_isDay) := goodIn_app (goodIn_of _ (by decide +kernel)) ggX4_check_X4_isDay
set_option maxRecDepth 20000 in
theorem ggX4_check_X4_typedBits : GoodIn wsX4_check wsX4_typedBits := goodIn_ca (goodIn_r _ [11, 12, 13, 14, 15, 5, 16, 17, 18, 19, 20, 21, 22, 23, 24, 25, 26, 27, 28, 29, 30, 31, 32, 33, 34, 35, 36, 37, 38, 39, 40, 41, 42, 43, 44, 45, 46, 47, 48, 49, 50, 51, 52, 53, 54, 55, 56, 57, 58, 59, 60, 61, 62, 63, 64, 65, 172, 173, 174, 175, 176, 177, 178, 179, 180, 181, 182, 183] (by decide +kernel) (by decide +kernel)) (goodIn_sub (fun _ h => List.mem_cons_of_mem _ (List.mem_append_right _ h)) (by decide +kernel))
set_option maxRecDepth 20000 in
theorem gX4_check_X4_typedBits : GoodIn wsX4_check (wsV RX4 98 RX4 yX4_typedBits wsX4_typedBits) := goodIn_app (goodIn_of _ (by decide +kernel)) ggX4_check_X4_typedBits
set_option maxRecDepth 20000 in
theorem ggX4_check_X4_reasonAgainst : GoodIn wsX4_check wsX4_reasonAgainst := goodIn_ca (goodIn_r _ [69, 70, 71, 72, 73, 74, 75, 76, 77, 5, 78, 79, 80, 81, 82, 83, 84, 85, 86, 87, 88, 89, 90, 91, 92, 93, 94, 95, 96, 97, 98, 99, 100, 101, 102, 103, 104, 105, 106, 107, 108, 109, 110, 111, 112, 113, 114, 115, 116, 117, 118, 119, 120, 121, 122, 123, 124, 125, 126, 127, 128, 129, 130, 131, 132, 133, 134, 135, 136, 137, 138, 139, 140, 141, 142, 143, 144, 145, 146, 172, 173, 174, 175, 176, 177, 178, 179, 180, 181, 184, 185, 186, 187, 188, 189, 190, 191] (by decide +kernel) (by decide +kernel)) (goodIn_sub (fun _ h => List.mem_cons_of_mem _ (List.mem_append_right _ h)) (by decide +kernel))
set_option maxRecDepth 20000 in
theorem gX4_check_X4_reasonAgainst : GoodIn wsX4_check (wsV RX4 102 RX4 yX4_reasonAgainst wsX4_reasonAgainst) := goodIn_app (goodIn_of _ (by decide +kernel)) ggX4_check_X4_reasonAgainst
set_option maxRecDepth 20000 in
theorem ggX4_check_X1_serialOf : GoodIn wsX4_check wsX1_serialOf := goodIn_r _ [149] (by decide +kernel) (by decide +kernel)
set_option maxRecDepth 20000 in
theorem gX4_check_X1_serialOf : GoodIn wsX4_check (va_wsS RX4 106 yX1_serialOf wsX1_serialOf) := goodIn_app (goodIn_of _ (by decide +kernel)) ggX4_check_X1_serialOf
set_option maxRecDepth 20000 in
theorem ggX4_check_X4_accepted : GoodIn wsX4_check wsX4_accepted := goodIn_ca (goodIn_r _ [153, 154, 155, 1, 156, 157, 158, 159, 160, 161, 162, 163, 164, 165, 166, 167, 168, 169, 170, 171, 172, 173, 174, 175, 176, 177, 178, 179, 180, 181, 192, 193, 194] (by decide +kernel) (by decide +kernel)) (goodIn_sub (fun _ h => List.mem_cons_of_mem _ (List.mem_append_right _ h)) (by decide +kernel))
set_option maxRecDepth 20000 in
theorem gX4_check_X4_accepted : GoodIn wsX4_check (wsV RX4 110 RX4 yX4_accepted wsX4_accepted) := goodIn_app (goodIn_of _ (by decide +kernel)) ggX4_check_X4_accepted
theorem dX4_check_0 : decode cX4_check 0 = .ok (.lload_n 1, 1) := by decide +kernel
theorem dX4_check_1 : decode cX4_check 1 = .ok (.invokestatic 40, 3) := by decide +kernel
theorem dX4_check_4 : decode cX4_check 4 = .ok (.ifCond .ne 6, 3) := by decide +kernel
theorem dX4_check_7 : decode cX4_check 7 = .ok (.bipush (-22), 2) := by decide +kernel
theorem dX4_check_9 : decode cX4_check 9 = .ok (.ireturn, 1) := by decide +kernel
theorem dX4_check_10 : decode cX4_check 10 = .ok (.aload_n 0, 1) := by decide +kernel
theorem dX4_check_11 : decode cX4_check 11 = .ok (.dup, 1) := by decide +kernel
theorem dX4_check_12 : decode cX4_check 12 = .ok (.getfield 95, 3) := by decide +kernel
theorem dX4_check_15 : decode cX4_check 15 = .ok (.iconst 1, 1) := by decide +kernel
theorem dX4_check_16 : decode cX4_check 16 = .ok (.iadd, 1) := by decide +kernel
theorem dX4_check_17 : decode cX4_check 17 = .ok (.putfield 95, 3) := by decide +kernel
theorem dX4_check_20 : decode cX4_check 20 = .ok (.aload_n 0, 1) := by decide +kernel
theorem dX4_check_21 : decode cX4_check 21 = .ok (.getfield 92, 3) := by decide +kernel
theorem dX4_check_24 : decode cX4_check 24 = .ok (.istore_n 3, 1) := by decide +kernel
theorem dX4_check_25 : decode cX4_check 25 = .ok (.aload_n 0, 1) := by decide +kernel
theorem dX4_check_26 : decode cX4_check 26 = .ok (.iconst 0, 1) := by decide +kernel
theorem dX4_check_27 : decode cX4_check 27 = .ok (.putfield 92, 3) := by decide +kernel
theorem dX4_check_30 : decode cX4_check 30 = .ok (.iload_n 3, 1) := by decide +kernel
theorem dX4_check_31 : decode cX4_check 31 = .ok (.bipush 16, 2) := by decide +kernel
theorem dX4_check_33 : decode cX4_check 33 = .ok (.if_icmp .eq 6, 3) := by decide +kernel
theorem dX4_check_36 : decode cX4_check 36 = .ok (.bipush (-2), 2) := by decide +kernel
theorem dX4_check_38 : decode cX4_check 38 = .ok (.ireturn, 1) := by decide +kernel
theorem dX4_check_39 : decode cX4_check 39 = .ok (.aload_n 0, 1) := by decide +kernel
theorem dX4_check_40 : decode cX4_check 40 = .ok (.iconst 0, 1) := by decide +kernel
theorem dX4_check_41 : decode cX4_check 41 = .ok (.bipush 11, 2) := by decide +kernel
theorem dX4_check_43 : decode cX4_check 43 = .ok (.invokevirtual 98, 3) := by decide +kernel
theorem dX4_check_46 : decode cX4_check 46 = .ok (.lstore 4, 2) := by decide +kernel
theorem dX4_check_48 : decode cX4_check 48 = .ok (.aload_n 0, 1) := by decide +kernel
theorem dX4_check_49 : decode cX4_check 49 = .ok (.bipush 11, 2) := by decide +kernel
theorem dX4_check_51 : decode cX4_check 51 = .ok (.bipush 16, 2) := by decide +kernel
theorem dX4_check_53 : decode cX4_check 53 = .ok (.invokevirtual 98, 3) := by decide +kernel
theorem dX4_check_56 : decode cX4_check 56 = .ok (.lstore 6, 2) := by decide +kernel
theorem dX4_check_58 : decode cX4_check 58 = .ok (.lload 4, 2) := by decide +kernel
theorem dX4_check_60 : decode cX4_check 60 = .ok (.lconst 0, 1) := by decide +kernel
theorem dX4_check_61 : decode cX4_check 61 = .ok (.lcmp, 1) := by decide +kernel
theorem dX4_check_62 : decode cX4_check 62 = .ok (.ifCond .lt 10, 3) := by decide +kernel
theorem dX4_check_65 : decode cX4_check 65 = .ok (.lload 6, 2) := by decide +kernel
theorem dX4_check_67 : decode cX4_check 67 = .ok (.lconst 0, 1) := by decide +kernel
theorem dX4_check_68 : decode cX4_check 68 = .ok (.lcmp, 1) := by decide +kernel
theorem dX4_check_69 : decode cX4_check 69 = .ok (.ifCond .ge 6, 3) := by decide +kernel
theorem dX4_check_72 : decode cX4_check 72 = .ok (.bipush (-3), 2) := by decide +kernel
theorem dX4_check_74 : decode cX4_check 74 = .ok (.ireturn, 1) := by decide +kernel
theorem dX4_check_75 : decode cX4_check 75 = .ok (.aload_n 0, 1) := by decide +kernel
theorem dX4_check_76 : decode cX4_check 76 = .ok (.lload 4, 2) := by decide +kernel
theorem dX4_check_78 : decode cX4_check 78 = .ok (.lload 6, 2) := by decide +kernel
theorem dX4_check_80 : decode cX4_check 80 = .ok (.lload_n 1, 1) := by decide +kernel
theorem dX4_check_81 : decode cX4_check 81 = .ok (.l2i, 1) := by decide +kernel
theorem dX4_check_82 : decode cX4_check 82 = .ok (.invokevirtual 102, 3) := by decide +kernel
theorem dX4_check_85 : decode cX4_check 85 = .ok (.istore 8, 2) := by decide +kernel
theorem dX4_check_87 : decode cX4_check 87 = .ok (.iload 8, 2) := by decide +kernel
theorem dX4_check_89 : decode cX4_check 89 = .ok (.ifCond .eq 10, 3) := by decide +kernel
theorem dX4_check_92 : decode cX4_check 92 = .ok (.iconst (-1), 1) := by decide +kernel
theorem dX4_check_93 : decode cX4_check 93 = .ok (.iload 8, 2) := by decide +kernel
theorem dX4_check_95 : decode cX4_check 95 = .ok (.isub, 1) := by decide +kernel
theorem dX4_check_96 : decode cX4_check 96 = .ok (.goto 14, 3) := by decide +kernel
theorem dX4_check_99 : decode cX4_check 99 = .ok (.aload_n 0, 1) := by decide +kernel
theorem dX4_check_100 : decode cX4_check 100 = .ok (.lload 4, 2) := by decide +kernel
theorem dX4_check_102 : decode cX4_check 102 = .ok (.invokestatic 106, 3) := by decide +kernel
theorem dX4_check_105 : decode cX4_check 105 = .ok (.lload_n 1, 1) := by decide +kernel
theorem dX4_check_106 : decode cX4_check 106 = .ok (.l2i, 1) := by decide +kernel
theorem dX4_check_107 : decode cX4_check 107 = .ok (.invokevirtual 110, 3) := by decide +kernel
theorem dX4_check_110 : decode cX4_check 110 = .ok (.ireturn, 1) := by decide +kernel
set_option maxRecDepth 20000 in
theorem ggX4_first_X3_dayOf : GoodIn wsX4_first wsX3_dayOf := goodIn_ca (goodIn_r _ [7, 8, 9, 10, 6, 11, 12, 28, 29, 30] (by decide +kernel) (by decide +kernel)) (goodIn_sub (fun _ h => List.mem_cons_of_mem _ (List.mem_append_right _ h)) (by decide +kernel))
set_option maxRecDepth 20000 in
theorem gX4_first_X3_dayOf : GoodIn wsX4_first (wsV RX4 114 RX3 yX3_dayOf wsX3_dayOf) := goodIn_app (goodIn_of _ (by decide +kernel)) ggX4_first_X3_dayOf
set_option maxRecDepth 20000 in
theorem ggX4_first_X3_checkOf : GoodIn wsX4_first wsX3_checkOf := goodIn_ca (goodIn_r _ [16, 17, 9, 10, 6, 11, 12, 28, 29, 30] (by decide +kernel) (by decide +kernel)) (goodIn_sub (fun _ h => List.mem_cons_of_mem _ (List.mem_append_right _ h)) (by decide +kernel))
set_option maxRecDepth 20000 in
theorem gX4_first_X3_checkOf : GoodIn wsX4_first (wsV RX4 118 RX3 yX3_checkOf wsX3_checkOf) := goodIn_app (goodIn_of _ (by decide +kernel)) ggX4_first_X3_checkOf
theorem dX4_first_0 : decode cX4_first 0 = .ok (.iload_n 1, 1) := by decide +kernel
theorem dX4_first_1 : decode cX4_first 1 = .ok (.ifCond .lt 8, 3) := by decide +kernel
theorem dX4_first_4 : decode cX4_first 4 = .ok (.iload_n 1, 1) := by decide +kernel
theorem dX4_first_5 : decode cX4_first 5 = .ok (.iconst 2, 1) := by decide +kernel
theorem dX4_first_6 : decode cX4_first 6 = .ok (.if_icmp .le 6, 3) := by decide +kernel
theorem dX4_first_9 : decode cX4_first 9 = .ok (.bipush (-22), 2) := by decide +kernel
theorem dX4_first_11 : decode cX4_first 11 = .ok (.ireturn, 1) := by decide +kernel
theorem dX4_first_12 : decode cX4_first 12 = .ok (.aload_n 0, 1) := by decide +kernel
theorem dX4_first_13 : decode cX4_first 13 = .ok (.getfield 22, 3) := by decide +kernel
theorem dX4_first_16 : decode cX4_first 16 = .ok (.ifCond .ge 5, 3) := by decide +kernel
theorem dX4_first_19 : decode cX4_first 19 = .ok (.iconst (-1), 1) := by decide +kernel
theorem dX4_first_20 : decode cX4_first 20 = .ok (.ireturn, 1) := by decide +kernel
theorem dX4_first_21 : decode cX4_first 21 = .ok (.iload_n 1, 1) := by decide +kernel
theorem dX4_first_22 : decode cX4_first 22 = .ok (.ifCond .ne 8, 3) := by decide +kernel
theorem dX4_first_25 : decode cX4_first 25 = .ok (.aload_n 0, 1) := by decide +kernel
theorem dX4_first_26 : decode cX4_first 26 = .ok (.getfield 22, 3) := by decide +kernel
theorem dX4_first_29 : decode cX4_first 29 = .ok (.ireturn, 1) := by decide +kernel
theorem dX4_first_30 : decode cX4_first 30 = .ok (.iload_n 1, 1) := by decide +kernel
theorem dX4_first_31 : decode cX4_first 31 = .ok (.iconst 1, 1) := by decide +kernel
theorem dX4_first_32 : decode cX4_first 32 = .ok (.if_icmp .ne 17, 3) := by decide +kernel
theorem dX4_first_35 : decode cX4_first 35 = .ok (.aload_n 0, 1) := by decide +kernel
theorem dX4_first_36 : decode cX4_first 36 = .ok (.getfield 29, 3) := by decide +kernel
theorem dX4_first_39 : decode cX4_first 39 = .ok (.aload_n 0, 1) := by decide +kernel
theorem dX4_first_40 : decode cX4_first 40 = .ok (.getfield 22, 3) := by decide +kernel
theorem dX4_first_43 : decode cX4_first 43 = .ok (.invokevirtual 114, 3) := by decide +kernel
theorem dX4_first_46 : decode cX4_first 46 = .ok (.goto 14, 3) := by decide +kernel
theorem dX4_first_49 : decode cX4_first 49 = .ok (.aload_n 0, 1) := by decide +kernel
theorem dX4_first_50 : decode cX4_first 50 = .ok (.getfield 29, 3) := by decide +kernel
theorem dX4_first_53 : decode cX4_first 53 = .ok (.aload_n 0, 1) := by decide +kernel
theorem dX4_first_54 : decode cX4_first 54 = .ok (.getfield 22, 3) := by decide +kernel
theorem dX4_first_57 : decode cX4_first 57 = .ok (.invokevirtual 118, 3) := by decide +kernel
theorem dX4_first_60 : decode cX4_first 60 = .ok (.ireturn, 1) := by decide +kernel
set_option maxRecDepth 20000 in
theorem ggX4_refund_X3_fateOf : GoodIn wsX4_refund wsX3_fateOf := goodIn_ca (goodIn_r _ [7, 8, 9, 10, 6, 11, 12, 27, 28, 29] (by decide +kernel) (by decide +kernel)) (goodIn_sub (fun _ h => List.mem_cons_of_mem _ (List.mem_append_right _ h)) (by decide +kernel))
set_option maxRecDepth 20000 in
theorem gX4_refund_X3_fateOf : GoodIn wsX4_refund (wsV RX4 121 RX3 yX3_fateOf wsX3_fateOf) := goodIn_app (goodIn_of _ (by decide +kernel)) ggX4_refund_X3_fateOf
set_option maxRecDepth 20000 in
theorem ggX4_refund_X3_giveBack : GoodIn wsX4_refund wsX3_giveBack := goodIn_ca (goodIn_r _ [16, 8, 9, 10, 6, 11, 12, 27, 28, 29] (by decide +kernel) (by decide +kernel)) (goodIn_sub (fun _ h => List.mem_cons_of_mem _ (List.mem_append_right _ h)) (by decide +kernel))
set_option maxRecDepth 20000 in
theorem gX4_refund_X3_giveBack : GoodIn wsX4_refund (wsV RX4 124 RX3 yX3_giveBack wsX3_giveBack) := goodIn_app (goodIn_of _ (by decide +kernel)) ggX4_refund_X3_giveBack
theorem dX4_refund_0 : decode cX4_refund 0 = .ok (.lload_n 1, 1) := by decide +kernel
theorem dX4_refund_1 : decode cX4_refund 1 = .ok (.lconst 0, 1) := by decide +kernel
theorem dX4_refund_2 : decode cX4_refund 2 = .ok (.lcmp, 1) := by decide +kernel
theorem dX4_refund_3 : decode cX4_refund 3 = .ok (.ifCond .lt 24, 3) := by decide +kernel
theorem dX4_refund_6 : decode cX4_refund 6 = .ok (.lload_n 1, 1) := by decide +kernel
theorem dX4_refund_7 : decode cX4_refund 7 = .ok (.aload_n 0, 1) := by decide +kernel
theorem dX4_refund_8 : decode cX4_refund 8 = .ok (.getfield 68, 3) := by decide +kernel
theorem dX4_refund_11 : decode cX4_refund 11 = .ok (.i2l, 1) := by decide +kernel
theorem dX4_refund_12 : decode cX4_refund 12 = .ok (.lcmp, 1) := by decide +kernel
theorem dX4_refund_13 : decode cX4_refund 13 = .ok (.ifCond .ge 14, 3) := by decide +kernel
theorem dX4_refund_16 : decode cX4_refund 16 = .ok (.aload_n 0, 1) := by decide +kernel
theorem dX4_refund_17 : decode cX4_refund 17 = .ok (.getfield 29, 3) := by decide +kernel
theorem dX4_refund_20 : decode cX4_refund 20 = .ok (.lload_n 1, 1) := by decide +kernel
theorem dX4_refund_21 : decode cX4_refund 21 = .ok (.invokevirtual 121, 3) := by decide +kernel
theorem dX4_refund_24 : decode cX4_refund 24 = .ok (.ifCond .eq 5, 3) := by decide +kernel
theorem dX4_refund_27 : decode cX4_refund 27 = .ok (.iconst 0, 1) := by decide +kernel
theorem dX4_refund_28 : decode cX4_refund 28 = .ok (.ireturn, 1) := by decide +kernel
theorem dX4_refund_29 : decode cX4_refund 29 = .ok (.aload_n 0, 1) := by decide +kernel
theorem dX4_refund_30 : decode cX4_refund 30 = .ok (.getfield 29, 3) := by decide +kernel
theorem dX4_refund_33 : decode cX4_refund 33 = .ok (.lload_n 1, 1) := by decide +kernel
theorem dX4_refund_34 : decode cX4_refund 34 = .ok (.l2i, 1) := by decide +kernel
theorem dX4_refund_35 : decode cX4_refund 35 = .ok (.invokevirtual 124, 3) := by decide +kernel
theorem dX4_refund_38 : decode cX4_refund 38 = .ok (.iconst 1, 1) := by decide +kernel
theorem dX4_refund_39 : decode cX4_refund 39 = .ok (.ireturn, 1) := by decide +kernel
set_option maxRecDepth 20000 in
theorem ggX4_digest_X0_isReckoned : GoodIn wsX4_digest wsX0_isReckoned := goodIn_r _ [9, 10, 32, 33, 34] (by decide +kernel) (by decide +kernel)
set_option maxRecDepth 20000 in
theorem gX4_digest_X0_isReckoned : GoodIn wsX4_digest (wsV RX4 128 RX0 yX0_isReckoned wsX0_isReckoned) := goodIn_app (goodIn_of _ (by decide +kernel)) ggX4_digest_X0_isReckoned
set_option maxRecDepth 20000 in
theorem ggX4_digest_X0_octetAt : GoodIn wsX4_digest wsX0_octetAt := goodIn_ca (goodIn_r _ [14, 15, 32, 33, 34] (by decide +kernel) (by decide +kernel)) (goodIn_sub (fun _ h => List.mem_cons_of_mem _ (List.mem_append_right _ h)) (by decide +kernel))
set_option maxRecDepth 20000 in
theorem gX4_digest_X0_octetAt : GoodIn wsX4_digest (wsV RX4 135 RX0 yX0_octetAt wsX0_octetAt) := goodIn_app (goodIn_of _ (by decide +kernel)) ggX4_digest_X0_octetAt
theorem dX4_digest_0 : decode cX4_digest 0 = .ok (.aload_n 0, 1) := by decide +kernel
theorem dX4_digest_1 : decode cX4_digest 1 = .ok (.getfield 36, 3) := by decide +kernel
theorem dX4_digest_4 : decode cX4_digest 4 = .ok (.invokevirtual 128, 3) := by decide +kernel
theorem dX4_digest_7 : decode cX4_digest 7 = .ok (.ifCond .eq 13, 3) := by decide +kernel
theorem dX4_digest_10 : decode cX4_digest 10 = .ok (.iload_n 1, 1) := by decide +kernel
theorem dX4_digest_11 : decode cX4_digest 11 = .ok (.ifCond .lt 9, 3) := by decide +kernel
theorem dX4_digest_14 : decode cX4_digest 14 = .ok (.iload_n 1, 1) := by decide +kernel
theorem dX4_digest_15 : decode cX4_digest 15 = .ok (.bipush 32, 2) := by decide +kernel
theorem dX4_digest_17 : decode cX4_digest 17 = .ok (.if_icmp .lt 11, 3) := by decide +kernel
theorem dX4_digest_20 : decode cX4_digest 20 = .ok (.new 132, 3) := by decide +kernel
theorem dX4_digest_23 : decode cX4_digest 23 = .ok (.dup, 1) := by decide +kernel
theorem dX4_digest_24 : decode cX4_digest 24 = .ok (.invokespecial 134, 3) := by decide +kernel
theorem dX4_digest_27 : decode cX4_digest 27 = .ok (.athrow, 1) := by decide +kernel
theorem dX4_digest_28 : decode cX4_digest 28 = .ok (.aload_n 0, 1) := by decide +kernel
theorem dX4_digest_29 : decode cX4_digest 29 = .ok (.getfield 36, 3) := by decide +kernel
theorem dX4_digest_32 : decode cX4_digest 32 = .ok (.iload_n 1, 1) := by decide +kernel
theorem dX4_digest_33 : decode cX4_digest 33 = .ok (.invokevirtual 135, 3) := by decide +kernel
theorem dX4_digest_36 : decode cX4_digest 36 = .ok (.ireturn, 1) := by decide +kernel
end
section
set_option maxRecDepth 20000 in
theorem ggX4_spent_X3_fateOf : GoodIn wsX4_spent wsX3_fateOf := goodIn_ca (goodIn_r _ [6, 7, 8, 9, 5, 10, 11, 22, 23, 24] (by decide +kernel) (by decide +kernel)) (goodIn_sub (fun _ h => List.mem_cons_of_mem _ (List.mem_append_right _ h)) (by decide +kernel))
set_option maxRecDepth 20000 in
theorem gX4_spent_X3_fateOf : GoodIn wsX4_spent (wsV RX4 121 RX3 yX3_fateOf wsX3_fateOf) := goodIn_app (goodIn_of _ (by decide +kernel)) ggX4_spent_X3_fateOf
theorem dX4_spent_0 : decode cX4_spent 0 = .ok (.aload_n 0, 1) := by decide +kernel
theorem dX4_spent_1 : decode cX4_spent 1 = .ok (.getfield 29, 3) := by decide +kernel
theorem dX4_spent_4 : decode cX4_spent 4 = .ok (.lload_n 1, 1) := by decide +kernel
theorem dX4_spent_5 : decode cX4_spent 5 = .ok (.invokevirtual 121, 3) := by decide +kernel
theorem dX4_spent_8 : decode cX4_spent 8 = .ok (.ireturn, 1) := by decide +kernel
theorem dX4_serial_0 : decode cX4_serial 0 = .ok (.aload_n 0, 1) := by decide +kernel
theorem dX4_serial_1 : decode cX4_serial 1 = .ok (.getfield 68, 3) := by decide +kernel
theorem dX4_serial_4 : decode cX4_serial 4 = .ok (.i2l, 1) := by decide +kernel
theorem dX4_serial_5 : decode cX4_serial 5 = .ok (.lreturn, 1) := by decide +kernel
theorem dX4_keyNumbered_0 : decode cX4_keyNumbered 0 = .ok (.iload_n 1, 1) := by decide +kernel
theorem dX4_keyNumbered_1 : decode cX4_keyNumbered 1 = .ok (.ifCond .lt 26, 3) := by decide +kernel
theorem dX4_keyNumbered_4 : decode cX4_keyNumbered 4 = .ok (.iload_n 1, 1) := by decide +kernel
theorem dX4_keyNumbered_5 : decode cX4_keyNumbered 5 = .ok (.aload_n 0, 1) := by decide +kernel
theorem dX4_keyNumbered_6 : decode cX4_keyNumbered 6 = .ok (.getfield 44, 3) := by decide +kernel
theorem dX4_keyNumbered_9 : decode cX4_keyNumbered 9 = .ok (.if_icmp .ge 18, 3) := by decide +kernel
theorem dX4_keyNumbered_12 : decode cX4_keyNumbered 12 = .ok (.iload_n 1, 1) := by decide +kernel
theorem dX4_keyNumbered_13 : decode cX4_keyNumbered 13 = .ok (.bipush 15, 2) := by decide +kernel
theorem dX4_keyNumbered_15 : decode cX4_keyNumbered 15 = .ok (.if_icmp .ge 12, 3) := by decide +kernel
theorem dX4_keyNumbered_18 : decode cX4_keyNumbered 18 = .ok (.aload_n 0, 1) := by decide +kernel
theorem dX4_keyNumbered_19 : decode cX4_keyNumbered 19 = .ok (.getfield 11, 3) := by decide +kernel
theorem dX4_keyNumbered_22 : decode cX4_keyNumbered 22 = .ok (.iload_n 1, 1) := by decide +kernel
theorem dX4_keyNumbered_23 : decode cX4_keyNumbered 23 = .ok (.aaload, 1) := by decide +kernel
theorem dX4_keyNumbered_24 : decode cX4_keyNumbered 24 = .ok (.goto 4, 3) := by decide +kernel
theorem dX4_keyNumbered_27 : decode cX4_keyNumbered 27 = .ok (.aconst_null, 1) := by decide +kernel
theorem dX4_keyNumbered_28 : decode cX4_keyNumbered 28 = .ok (.areturn, 1) := by decide +kernel
theorem dX4_isDay_0 : decode cX4_isDay 0 = .ok (.lload_n 0, 1) := by decide +kernel
theorem dX4_isDay_1 : decode cX4_isDay 1 = .ok (.lconst 0, 1) := by decide +kernel
theorem dX4_isDay_2 : decode cX4_isDay 2 = .ok (.lcmp, 1) := by decide +kernel
theorem dX4_isDay_3 : decode cX4_isDay 3 = .ok (.ifCond .lt 15, 3) := by decide +kernel
theorem dX4_isDay_6 : decode cX4_isDay 6 = .ok (.lload_n 0, 1) := by decide +kernel
theorem dX4_isDay_7 : decode cX4_isDay 7 = .ok (.ldc2_w 139, 3) := by decide +kernel
theorem dX4_isDay_10 : decode cX4_isDay 10 = .ok (.lcmp, 1) := by decide +kernel
theorem dX4_isDay_11 : decode cX4_isDay 11 = .ok (.ifCond .gt 7, 3) := by decide +kernel
theorem dX4_isDay_14 : decode cX4_isDay 14 = .ok (.iconst 1, 1) := by decide +kernel
theorem dX4_isDay_15 : decode cX4_isDay 15 = .ok (.goto 4, 3) := by decide +kernel
theorem dX4_isDay_18 : decode cX4_isDay 18 = .ok (.iconst 0, 1) := by decide +kernel
theorem dX4_isDay_19 : decode cX4_isDay 19 = .ok (.ireturn, 1) := by decide +kernel
theorem dX4_isValue_0 : decode cX4_isValue 0 = .ok (.iload_n 0, 1) := by decide +kernel
theorem dX4_isValue_1 : decode cX4_isValue 1 = .ok (.iconst 1, 1) := by decide +kernel
theorem dX4_isValue_2 : decode cX4_isValue 2 = .ok (.if_icmp .lt 13, 3) := by decide +kernel
theorem dX4_isValue_5 : decode cX4_isValue 5 = .ok (.iload_n 0, 1) := by decide +kernel
theorem dX4_isValue_6 : decode cX4_isValue 6 = .ok (.ldc 141, 2) := by decide +kernel
theorem dX4_isValue_8 : decode cX4_isValue 8 = .ok (.if_icmp .gt 7, 3) := by decide +kernel
theorem dX4_isValue_11 : decode cX4_isValue 11 = .ok (.iconst 1, 1) := by decide +kernel
theorem dX4_isValue_12 : decode cX4_isValue 12 = .ok (.goto 4, 3) := by decide +kernel
theorem dX4_isValue_15 : decode cX4_isValue 15 = .ok (.iconst 0, 1) := by decide +kernel
theorem dX4_isValue_16 : decode cX4_isValue 16 = .ok (.ireturn, 1) := by decide +kernel
theorem dX4_isKind_0 : decode cX4_isKind 0 = .ok (.iload_n 0, 1) := by decide +kernel
theorem dX4_isKind_1 : decode cX4_isKind 1 = .ok (.ifCond .lt 13, 3) := by decide +kernel
theorem dX4_isKind_4 : decode cX4_isKind 4 = .ok (.iload_n 0, 1) := by decide +kernel
theorem dX4_isKind_5 : decode cX4_isKind 5 = .ok (.bipush 9, 2) := by decide +kernel
theorem dX4_isKind_7 : decode cX4_isKind 7 = .ok (.if_icmp .gt 7, 3) := by decide +kernel
theorem dX4_isKind_10 : decode cX4_isKind 10 = .ok (.iconst 1, 1) := by decide +kernel
theorem dX4_isKind_11 : decode cX4_isKind 11 = .ok (.goto 4, 3) := by decide +kernel
theorem dX4_isKind_14 : decode cX4_isKind 14 = .ok (.iconst 0, 1) := by decide +kernel
theorem dX4_isKind_15 : decode cX4_isKind 15 = .ok (.ireturn, 1) := by decide +kernel
set_option maxRecDepth 20000 in
theorem ggX4_writeLetters_X4_letterFor : GoodIn wsX4_writeLetters wsX4_letterFor := goodIn_r _ [5, 6, 7, 8, 9, 10, 11, 12, 13, 14, 15, 16, 17, 18, 19, 20, 21, 22, 23, 24, 25, 26, 27, 28, 29, 30, 31, 32, 33, 34, 35, 36, 37, 38, 39, 40, 41, 42, 43, 44, 45, 46, 57, 58] (by decide +kernel) (by decide +kernel)
set_option maxRecDepth 20000 in
theorem gX4_writeLetters_X4_letterFor : GoodIn wsX4_writeLetters (va_wsS RX4 142 yX4_letterFor wsX4_letterFor) := goodIn_app (goodIn_of _ (by decide +kernel)) ggX4_writeLetters_X4_letterFor
theorem dX4_writeLetters_0 : decode cX4_writeLetters 0 = .ok (.iconst 0, 1) := by decide +kernel
theorem dX4_writeLetters_1 : decode cX4_writeLetters 1 = .ok (.istore 4, 2) := by decide +kernel
theorem dX4_writeLetters_3 : decode cX4_writeLetters 3 = .ok (.iload 4, 2) := by decide +kernel
theorem dX4_writeLetters_5 : decode cX4_writeLetters 5 = .ok (.bipush 11, 2) := by decide +kernel
theorem dX4_writeLetters_7 : decode cX4_writeLetters 7 = .ok (.if_icmp .ge 29, 3) := by decide +kernel
theorem dX4_writeLetters_10 : decode cX4_writeLetters 10 = .ok (.aload_n 0, 1) := by decide +kernel
theorem dX4_writeLetters_11 : decode cX4_writeLetters 11 = .ok (.getfield 15, 3) := by decide +kernel
theorem dX4_writeLetters_14 : decode cX4_writeLetters 14 = .ok (.iload 4, 2) := by decide +kernel
theorem dX4_writeLetters_16 : decode cX4_writeLetters 16 = .ok (.lload_n 1, 1) := by decide +kernel
theorem dX4_writeLetters_17 : decode cX4_writeLetters 17 = .ok (.bipush 50, 2) := by decide +kernel
theorem dX4_writeLetters_19 : decode cX4_writeLetters 19 = .ok (.iconst 5, 1) := by decide +kernel
theorem dX4_writeLetters_20 : decode cX4_writeLetters 20 = .ok (.iload 4, 2) := by decide +kernel
theorem dX4_writeLetters_22 : decode cX4_writeLetters 22 = .ok (.imul, 1) := by decide +kernel
theorem dX4_writeLetters_23 : decode cX4_writeLetters 23 = .ok (.isub, 1) := by decide +kernel
theorem dX4_writeLetters_24 : decode cX4_writeLetters 24 = .ok (.lushr, 1) := by decide +kernel
theorem dX4_writeLetters_25 : decode cX4_writeLetters 25 = .ok (.l2i, 1) := by decide +kernel
theorem dX4_writeLetters_26 : decode cX4_writeLetters 26 = .ok (.invokestatic 142, 3) := by decide +kernel
theorem dX4_writeLetters_29 : decode cX4_writeLetters 29 = .ok (.iastore, 1) := by decide +kernel
theorem dX4_writeLetters_30 : decode cX4_writeLetters 30 = .ok (.iinc 4 1, 3) := by decide +kernel
theorem dX4_writeLetters_33 : decode cX4_writeLetters 33 = .ok (.goto (-30), 3) := by decide +kernel
theorem dX4_writeLetters_36 : decode cX4_writeLetters 36 = .ok (.bipush 11, 2) := by decide +kernel
theorem dX4_writeLetters_38 : decode cX4_writeLetters 38 = .ok (.istore 4, 2) := by decide +kernel
theorem dX4_writeLetters_40 : decode cX4_writeLetters 40 = .ok (.iload 4, 2) := by decide +kernel
theorem dX4_writeLetters_42 : decode cX4_writeLetters 42 = .ok (.bipush 16, 2) := by decide +kernel
theorem dX4_writeLetters_44 : decode cX4_writeLetters 44 = .ok (.if_icmp .ge 28, 3) := by decide +kernel
theorem dX4_writeLetters_47 : decode cX4_writeLetters 47 = .ok (.aload_n 0, 1) := by decide +kernel
theorem dX4_writeLetters_48 : decode cX4_writeLetters 48 = .ok (.getfield 15, 3) := by decide +kernel
theorem dX4_writeLetters_51 : decode cX4_writeLetters 51 = .ok (.iload 4, 2) := by decide +kernel
theorem dX4_writeLetters_53 : decode cX4_writeLetters 53 = .ok (.iload_n 3, 1) := by decide +kernel
theorem dX4_writeLetters_54 : decode cX4_writeLetters 54 = .ok (.bipush 75, 2) := by decide +kernel
theorem dX4_writeLetters_56 : decode cX4_writeLetters 56 = .ok (.iconst 5, 1) := by decide +kernel
theorem dX4_writeLetters_57 : decode cX4_writeLetters 57 = .ok (.iload 4, 2) := by decide +kernel
theorem dX4_writeLetters_59 : decode cX4_writeLetters 59 = .ok (.imul, 1) := by decide +kernel
theorem dX4_writeLetters_60 : decode cX4_writeLetters 60 = .ok (.isub, 1) := by decide +kernel
theorem dX4_writeLetters_61 : decode cX4_writeLetters 61 = .ok (.iushr, 1) := by decide +kernel
theorem dX4_writeLetters_62 : decode cX4_writeLetters 62 = .ok (.invokestatic 142, 3) := by decide +kernel
theorem dX4_writeLetters_65 : decode cX4_writeLetters 65 = .ok (.iastore, 1) := by decide +kernel
theorem dX4_writeLetters_66 : decode cX4_writeLetters 66 = .ok (.iinc 4 1, 3) := by decide +kernel
theorem dX4_writeLetters_69 : decode cX4_writeLetters 69 = .ok (.goto (-29), 3) := by decide +kernel
theorem dX4_writeLetters_72 : decode cX4_writeLetters 72 = .ok (.return_, 1) := by decide +kernel
set_option maxRecDepth 20000 in
theorem ggX4_letterFor_J0_charAt_5068e : GoodIn wsX4_letterFor wsJ0_charAt_5068e := goodIn_r _ [5, 6, 7, 8, 9, 4, 10, 11, 12, 13, 14, 15, 16, 17, 18, 19, 20, 21, 22, 23, 24, 25, 26, 27, 28, 29, 30, 31, 32, 33, 34, 35, 36, 37, 38, 39, 40, 41, 42, 43] (by decide +kernel) (by decide +kernel)
set_option maxRecDepth 20000 in
theorem gX4_letterFor_J0_charAt_5068e : GoodIn wsX4_letterFor (wsV RX4 147 RJ0 yJ0_charAt_5068e wsJ0_charAt_5068e) := goodIn_app (goodIn_of _ (by decide +kernel)) ggX4_letterFor_J0_charAt_5068e
theorem dX4_letterFor_0 : decode cX4_letterFor 0 = .ok (.ldc 145, 2) := by decide +kernel
theorem dX4_letterFor_2 : decode cX4_letterFor 2 = .ok (.iload_n 0, 1) := by decide +kernel
theorem dX4_letterFor_3 : decode cX4_letterFor 3 = .ok (.bipush 31, 2) := by decide +kernel
theorem dX4_letterFor_5 : decode cX4_letterFor 5 = .ok (.iand, 1) := by decide +kernel
theorem dX4_letterFor_6 : decode cX4_letterFor 6 = .ok (.invokevirtual 147, 3) := by decide +kernel
theorem dX4_letterFor_9 : decode cX4_letterFor 9 = .ok (.ireturn, 1) := by decide +kernel
set_option maxRecDepth 20000 in
theorem ggX4_typedBits_X4_worthOf : GoodIn wsX4_typedBits wsX4_worthOf := goodIn_r _ [6, 7, 8, 9, 10, 11, 12, 13, 14, 15, 16, 17, 18, 19, 20, 21, 22, 23, 24, 25, 26, 27, 28, 29, 30, 31, 32, 33, 34, 35, 36, 37, 38, 39, 40, 41, 42, 43, 44, 45, 46, 47, 48, 49, 50, 51, 52, 53, 54, 55, 66, 67] (by decide +kernel) (by decide +kernel)
set_option maxRecDepth 20000 in
theorem gX4_typedBits_X4_worthOf : GoodIn wsX4_typedBits (va_wsS RX4 153 yX4_worthOf wsX4_worthOf) := goodIn_app (goodIn_of _ (by decide +kernel)) ggX4_typedBits_X4_worthOf
theorem dX4_typedBits_0 : decode cX4_typedBits 0 = .ok (.lconst 0, 1) := by decide +kernel
theorem dX4_typedBits_1 : decode cX4_typedBits 1 = .ok (.lstore_n 3, 1) := by decide +kernel
theorem dX4_typedBits_2 : decode cX4_typedBits 2 = .ok (.iload_n 1, 1) := by decide +kernel
theorem dX4_typedBits_3 : decode cX4_typedBits 3 = .ok (.istore 5, 2) := by decide +kernel
theorem dX4_typedBits_5 : decode cX4_typedBits 5 = .ok (.iload 5, 2) := by decide +kernel
theorem dX4_typedBits_7 : decode cX4_typedBits 7 = .ok (.iload_n 2, 1) := by decide +kernel
theorem dX4_typedBits_8 : decode cX4_typedBits 8 = .ok (.if_icmp .ge 38, 3) := by decide +kernel
theorem dX4_typedBits_11 : decode cX4_typedBits 11 = .ok (.aload_n 0, 1) := by decide +kernel
theorem dX4_typedBits_12 : decode cX4_typedBits 12 = .ok (.getfield 19, 3) := by decide +kernel
theorem dX4_typedBits_15 : decode cX4_typedBits 15 = .ok (.iload 5, 2) := by decide +kernel
theorem dX4_typedBits_17 : decode cX4_typedBits 17 = .ok (.iaload, 1) := by decide +kernel
theorem dX4_typedBits_18 : decode cX4_typedBits 18 = .ok (.invokestatic 153, 3) := by decide +kernel
theorem dX4_typedBits_21 : decode cX4_typedBits 21 = .ok (.istore 6, 2) := by decide +kernel
theorem dX4_typedBits_23 : decode cX4_typedBits 23 = .ok (.iload 6, 2) := by decide +kernel
theorem dX4_typedBits_25 : decode cX4_typedBits 25 = .ok (.ifCond .ge 7, 3) := by decide +kernel
theorem dX4_typedBits_28 : decode cX4_typedBits 28 = .ok (.ldc2_w 156, 3) := by decide +kernel
theorem dX4_typedBits_31 : decode cX4_typedBits 31 = .ok (.lreturn, 1) := by decide +kernel
theorem dX4_typedBits_32 : decode cX4_typedBits 32 = .ok (.lload_n 3, 1) := by decide +kernel
theorem dX4_typedBits_33 : decode cX4_typedBits 33 = .ok (.iconst 5, 1) := by decide +kernel
theorem dX4_typedBits_34 : decode cX4_typedBits 34 = .ok (.lshl, 1) := by decide +kernel
theorem dX4_typedBits_35 : decode cX4_typedBits 35 = .ok (.iload 6, 2) := by decide +kernel
theorem dX4_typedBits_37 : decode cX4_typedBits 37 = .ok (.i2l, 1) := by decide +kernel
theorem dX4_typedBits_38 : decode cX4_typedBits 38 = .ok (.lor, 1) := by decide +kernel
theorem dX4_typedBits_39 : decode cX4_typedBits 39 = .ok (.lstore_n 3, 1) := by decide +kernel
theorem dX4_typedBits_40 : decode cX4_typedBits 40 = .ok (.iinc 5 1, 3) := by decide +kernel
theorem dX4_typedBits_43 : decode cX4_typedBits 43 = .ok (.goto (-38), 3) := by decide +kernel
theorem dX4_typedBits_46 : decode cX4_typedBits 46 = .ok (.lload_n 3, 1) := by decide +kernel
theorem dX4_typedBits_47 : decode cX4_typedBits 47 = .ok (.lreturn, 1) := by decide +kernel
set_option maxRecDepth 20000 in
theorem ggX4_worthOf_J0_length_8abf5 : GoodIn wsX4_worthOf wsJ0_length_8abf5 := goodIn_r _ [5, 6, 7, 8, 9, 4, 10, 11, 12, 50, 51] (by decide +kernel) (by decide +kernel)
set_option maxRecDepth 20000 in
theorem gX4_worthOf_J0_length_8abf5 : GoodIn wsX4_worthOf (wsV RX4 158 RJ0 yJ0_length_8abf5 wsJ0_length_8abf5) := goodIn_app (goodIn_of _ (by decide +kernel)) ggX4_worthOf_J0_length_8abf5
set_option maxRecDepth 20000 in
theorem ggX4_worthOf_J0_charAt_5068e : GoodIn wsX4_worthOf wsJ0_charAt_5068e := goodIn_r _ [16, 6, 17, 18, 19, 4, 20, 11, 12, 21, 22, 23, 24, 25, 26, 27, 28, 29, 30, 31, 32, 33, 34, 35, 36, 37, 38, 39, 40, 41, 42, 43, 44, 45, 46, 47, 48, 49, 50, 51] (by decide +kernel) (by decide +kernel)
set_option maxRecDepth 20000 in
theorem gX4_worthOf_J0_charAt_5068e : GoodIn wsX4_worthOf (wsV RX4 147 RJ0 yJ0_charAt_5068e wsJ0_charAt_5068e) := goodIn_app (goodIn_of _ (by decide +kernel)) ggX4_worthOf_J0_charAt_5068e
theorem dX4_worthOf_0 : decode cX4_worthOf 0 = .ok (.iconst 0, 1) := by decide +kernel
theorem dX4_worthOf_1 : decode cX4_worthOf 1 = .ok (.istore_n 1, 1) := by decide +kernel
theorem dX4_worthOf_2 : decode cX4_worthOf 2 = .ok (.iload_n 1, 1) := by decide +kernel
theorem dX4_worthOf_3 : decode cX4_worthOf 3 = .ok (.ldc 145, 2) := by decide +kernel
theorem dX4_worthOf_5 : decode cX4_worthOf 5 = .ok (.invokevirtual 158, 3) := by decide +kernel
theorem dX4_worthOf_8 : decode cX4_worthOf 8 = .ok (.if_icmp .ge 21, 3) := by decide +kernel
theorem dX4_worthOf_11 : decode cX4_worthOf 11 = .ok (.ldc 145, 2) := by decide +kernel
theorem dX4_worthOf_13 : decode cX4_worthOf 13 = .ok (.iload_n 1, 1) := by decide +kernel
theorem dX4_worthOf_14 : decode cX4_worthOf 14 = .ok (.invokevirtual 147, 3) := by decide +kernel
theorem dX4_worthOf_17 : decode cX4_worthOf 17 = .ok (.iload_n 0, 1) := by decide +kernel
theorem dX4_worthOf_18 : decode cX4_worthOf 18 = .ok (.if_icmp .ne 5, 3) := by decide +kernel
theorem dX4_worthOf_21 : decode cX4_worthOf 21 = .ok (.iload_n 1, 1) := by decide +kernel
theorem dX4_worthOf_22 : decode cX4_worthOf 22 = .ok (.ireturn, 1) := by decide +kernel
theorem dX4_worthOf_23 : decode cX4_worthOf 23 = .ok (.iinc 1 1, 3) := by decide +kernel
theorem dX4_worthOf_26 : decode cX4_worthOf 26 = .ok (.goto (-24), 3) := by decide +kernel
theorem dX4_worthOf_29 : decode cX4_worthOf 29 = .ok (.iconst (-1), 1) := by decide +kernel
theorem dX4_worthOf_30 : decode cX4_worthOf 30 = .ok (.ireturn, 1) := by decide +kernel
set_option maxRecDepth 20000 in
theorem ggX4_reasonAgainst_X1_keyOf : GoodIn wsX4_reasonAgainst wsX1_keyOf := goodIn_r _ [5] (by decide +kernel) (by decide +kernel)
set_option maxRecDepth 20000 in
theorem gX4_reasonAgainst_X1_keyOf : GoodIn wsX4_reasonAgainst (va_wsS RX4 161 yX1_keyOf wsX1_keyOf) := goodIn_app (goodIn_of _ (by decide +kernel)) ggX4_reasonAgainst_X1_keyOf
set_option maxRecDepth 20000 in
theorem ggX4_reasonAgainst_X4_keyNumbered : GoodIn wsX4_reasonAgainst wsX4_keyNumbered := goodIn_r _ [10, 11, 12, 79, 80, 81, 82, 83, 84, 85, 86, 87, 88] (by decide +kernel) (by decide +kernel)
set_option maxRecDepth 20000 in
theorem gX4_reasonAgainst_X4_keyNumbered : GoodIn wsX4_reasonAgainst (wsV RX4 50 RX4 yX4_keyNumbered wsX4_keyNumbered) := goodIn_app (goodIn_of _ (by decide +kernel)) ggX4_reasonAgainst_X4_keyNumbered
set_option maxRecDepth 20000 in
theorem ggX4_reasonAgainst_X1_kindOf : GoodIn wsX4_reasonAgainst wsX1_kindOf := goodIn_r _ [15] (by decide +kernel) (by decide +kernel)
set_option maxRecDepth 20000 in
theorem gX4_reasonAgainst_X1_kindOf : GoodIn wsX4_reasonAgainst (va_wsS RX4 164 yX1_kindOf wsX1_kindOf) := goodIn_app (goodIn_of _ (by decide +kernel)) ggX4_reasonAgainst_X1_kindOf
set_option maxRecDepth 20000 in
theorem ggX4_reasonAgainst_X4_isKind : GoodIn wsX4_reasonAgainst wsX4_isKind := goodIn_r _ [18] (by decide +kernel) (by decide +kernel)
set_option maxRecDepth 20000 in
theorem gX4_reasonAgainst_X4_isKind : GoodIn wsX4_reasonAgainst (va_wsS RX4 62 yX4_isKind wsX4_isKind) := goodIn_app (goodIn_of _ (by decide +kernel)) ggX4_reasonAgainst_X4_isKind
set_option maxRecDepth 20000 in
theorem ggX4_reasonAgainst_X1_valueOf : GoodIn wsX4_reasonAgainst wsX1_valueOf := goodIn_r _ [21, 22] (by decide +kernel) (by decide +kernel)
set_option maxRecDepth 20000 in
theorem gX4_reasonAgainst_X1_valueOf : GoodIn wsX4_reasonAgainst (va_wsS RX4 167 yX1_valueOf wsX1_valueOf) := goodIn_app (goodIn_of _ (by decide +kernel)) ggX4_reasonAgainst_X1_valueOf
set_option maxRecDepth 20000 in
theorem ggX4_reasonAgainst_X4_isValue : GoodIn wsX4_reasonAgainst wsX4_isValue := goodIn_r _ [25, 26] (by decide +kernel) (by decide +kernel)
set_option maxRecDepth 20000 in
theorem gX4_reasonAgainst_X4_isValue : GoodIn wsX4_reasonAgainst (va_wsS RX4 58 yX4_isValue wsX4_isValue) := goodIn_app (goodIn_of _ (by decide +kernel)) ggX4_reasonAgainst_X4_isValue
set_option maxRecDepth 20000 in
theorem ggX4_reasonAgainst_X0_reckon : GoodIn wsX4_reasonAgainst wsX0_reckon := goodIn_ca (goodIn_r _ [31, 32, 33, 34, 35, 36, 37, 30, 38, 39, 40, 41, 42, 43, 44, 45, 46, 47, 48, 49, 50, 51, 52, 53, 54, 55, 56, 57, 58, 59, 60, 61, 62, 63, 64, 89, 90, 91, 92, 93, 94, 95, 96] (by decide +kernel) (by decide +kernel)) (goodIn_sub (fun _ h => List.mem_cons_of_mem _ (List.mem_append_right _ h)) (by decide +kernel))
set_option maxRecDepth 20000 in
theorem gX4_reasonAgainst_X0_reckon : GoodIn wsX4_reasonAgainst (wsV RX4 80 RX0 yX0_reckon wsX0_reckon) := goodIn_app (goodIn_of _ (by decide +kernel)) ggX4_reasonAgainst_X0_reckon
set_option maxRecDepth 20000 in
theorem ggX4_reasonAgainst_X0_firstBits : GoodIn wsX4_reasonAgainst wsX0_firstBits := goodIn_ca (goodIn_r _ [68, 33, 89, 90, 91] (by decide +kernel) (by decide +kernel)) (goodIn_sub (fun _ h => List.mem_cons_of_mem _ (List.mem_append_right _ h)) (by decide +kernel))
set_option maxRecDepth 20000 in
theorem gX4_reasonAgainst_X0_firstBits : GoodIn wsX4_reasonAgainst (wsV RX4 84 RX0 yX0_firstBits wsX0_firstBits) := goodIn_app (goodIn_of _ (by decide +kernel)) ggX4_reasonAgainst_X0_firstBits
set_option maxRecDepth 20000 in
theorem ggX4_reasonAgainst_X1_dayOf : GoodIn wsX4_reasonAgainst wsX1_dayOf := goodIn_r _ [71, 72] (by decide +kernel) (by decide +kernel)
set_option maxRecDepth 20000 in
theorem gX4_reasonAgainst_X1_dayOf : GoodIn wsX4_reasonAgainst (va_wsS RX4 170 yX1_dayOf wsX1_dayOf) := goodIn_app (goodIn_of _ (by decide +kernel)) ggX4_reasonAgainst_X1_dayOf
set_option maxRecDepth 20000 in
theorem ggX4_reasonAgainst_X2_holdsOn : GoodIn wsX4_reasonAgainst wsX2_holdsOn := goodIn_r _ [76, 77, 78, 92, 93, 94, 95, 96] (by decide +kernel) (by decide +kernel)
set_option maxRecDepth 20000 in
theorem gX4_reasonAgainst_X2_holdsOn : GoodIn wsX4_reasonAgainst (wsV RX4 65 RX2 yX2_holdsOn wsX2_holdsOn) := goodIn_app (goodIn_of _ (by decide +kernel)) ggX4_reasonAgainst_X2_holdsOn
theorem dX4_reasonAgainst_0 : decode cX4_reasonAgainst 0 = .ok (.aload_n 0, 1) := by decide +kernel
theorem dX4_reasonAgainst_1 : decode cX4_reasonAgainst 1 = .ok (.lload_n 1, 1) := by decide +kernel
theorem dX4_reasonAgainst_2 : decode cX4_reasonAgainst 2 = .ok (.invokestatic 161, 3) := by decide +kernel
theorem dX4_reasonAgainst_5 : decode cX4_reasonAgainst 5 = .ok (.invokevirtual 50, 3) := by decide +kernel
theorem dX4_reasonAgainst_8 : decode cX4_reasonAgainst 8 = .ok (.astore 6, 2) := by decide +kernel
theorem dX4_reasonAgainst_10 : decode cX4_reasonAgainst 10 = .ok (.aload 6, 2) := by decide +kernel
theorem dX4_reasonAgainst_12 : decode cX4_reasonAgainst 12 = .ok (.ifnull 23, 3) := by decide +kernel
theorem dX4_reasonAgainst_15 : decode cX4_reasonAgainst 15 = .ok (.lload_n 1, 1) := by decide +kernel
theorem dX4_reasonAgainst_16 : decode cX4_reasonAgainst 16 = .ok (.invokestatic 164, 3) := by decide +kernel
theorem dX4_reasonAgainst_19 : decode cX4_reasonAgainst 19 = .ok (.invokestatic 62, 3) := by decide +kernel
theorem dX4_reasonAgainst_22 : decode cX4_reasonAgainst 22 = .ok (.ifCond .eq 13, 3) := by decide +kernel
theorem dX4_reasonAgainst_25 : decode cX4_reasonAgainst 25 = .ok (.lload_n 1, 1) := by decide +kernel
theorem dX4_reasonAgainst_26 : decode cX4_reasonAgainst 26 = .ok (.invokestatic 167, 3) := by decide +kernel
theorem dX4_reasonAgainst_29 : decode cX4_reasonAgainst 29 = .ok (.invokestatic 58, 3) := by decide +kernel
theorem dX4_reasonAgainst_32 : decode cX4_reasonAgainst 32 = .ok (.ifCond .ne 5, 3) := by decide +kernel
theorem dX4_reasonAgainst_35 : decode cX4_reasonAgainst 35 = .ok (.iconst 3, 1) := by decide +kernel
theorem dX4_reasonAgainst_36 : decode cX4_reasonAgainst 36 = .ok (.ireturn, 1) := by decide +kernel
theorem dX4_reasonAgainst_37 : decode cX4_reasonAgainst 37 = .ok (.aload_n 0, 1) := by decide +kernel
theorem dX4_reasonAgainst_38 : decode cX4_reasonAgainst 38 = .ok (.getfield 36, 3) := by decide +kernel
theorem dX4_reasonAgainst_41 : decode cX4_reasonAgainst 41 = .ok (.aload 6, 2) := by decide +kernel
theorem dX4_reasonAgainst_43 : decode cX4_reasonAgainst 43 = .ok (.lload_n 1, 1) := by decide +kernel
theorem dX4_reasonAgainst_44 : decode cX4_reasonAgainst 44 = .ok (.invokevirtual 80, 3) := by decide +kernel
theorem dX4_reasonAgainst_47 : decode cX4_reasonAgainst 47 = .ok (.lload_n 3, 1) := by decide +kernel
theorem dX4_reasonAgainst_48 : decode cX4_reasonAgainst 48 = .ok (.aload_n 0, 1) := by decide +kernel
theorem dX4_reasonAgainst_49 : decode cX4_reasonAgainst 49 = .ok (.getfield 36, 3) := by decide +kernel
theorem dX4_reasonAgainst_52 : decode cX4_reasonAgainst 52 = .ok (.invokevirtual 84, 3) := by decide +kernel
theorem dX4_reasonAgainst_55 : decode cX4_reasonAgainst 55 = .ok (.i2l, 1) := by decide +kernel
theorem dX4_reasonAgainst_56 : decode cX4_reasonAgainst 56 = .ok (.lcmp, 1) := by decide +kernel
theorem dX4_reasonAgainst_57 : decode cX4_reasonAgainst 57 = .ok (.ifCond .eq 5, 3) := by decide +kernel
theorem dX4_reasonAgainst_60 : decode cX4_reasonAgainst 60 = .ok (.iconst 4, 1) := by decide +kernel
theorem dX4_reasonAgainst_61 : decode cX4_reasonAgainst 61 = .ok (.ireturn, 1) := by decide +kernel
theorem dX4_reasonAgainst_62 : decode cX4_reasonAgainst 62 = .ok (.iload 5, 2) := by decide +kernel
theorem dX4_reasonAgainst_64 : decode cX4_reasonAgainst 64 = .ok (.lload_n 1, 1) := by decide +kernel
theorem dX4_reasonAgainst_65 : decode cX4_reasonAgainst 65 = .ok (.invokestatic 170, 3) := by decide +kernel
theorem dX4_reasonAgainst_68 : decode cX4_reasonAgainst 68 = .ok (.isub, 1) := by decide +kernel
theorem dX4_reasonAgainst_69 : decode cX4_reasonAgainst 69 = .ok (.istore 7, 2) := by decide +kernel
theorem dX4_reasonAgainst_71 : decode cX4_reasonAgainst 71 = .ok (.iload 7, 2) := by decide +kernel
theorem dX4_reasonAgainst_73 : decode cX4_reasonAgainst 73 = .ok (.ifCond .lt 21, 3) := by decide +kernel
theorem dX4_reasonAgainst_76 : decode cX4_reasonAgainst 76 = .ok (.iload 7, 2) := by decide +kernel
theorem dX4_reasonAgainst_78 : decode cX4_reasonAgainst 78 = .ok (.bipush 100, 2) := by decide +kernel
theorem dX4_reasonAgainst_80 : decode cX4_reasonAgainst 80 = .ok (.if_icmp .gt 14, 3) := by decide +kernel
theorem dX4_reasonAgainst_83 : decode cX4_reasonAgainst 83 = .ok (.aload 6, 2) := by decide +kernel
theorem dX4_reasonAgainst_85 : decode cX4_reasonAgainst 85 = .ok (.iload 5, 2) := by decide +kernel
theorem dX4_reasonAgainst_87 : decode cX4_reasonAgainst 87 = .ok (.i2l, 1) := by decide +kernel
theorem dX4_reasonAgainst_88 : decode cX4_reasonAgainst 88 = .ok (.invokevirtual 65, 3) := by decide +kernel
theorem dX4_reasonAgainst_91 : decode cX4_reasonAgainst 91 = .ok (.ifCond .ne 7, 3) := by decide +kernel
theorem dX4_reasonAgainst_94 : decode cX4_reasonAgainst 94 = .ok (.iconst 5, 1) := by decide +kernel
theorem dX4_reasonAgainst_95 : decode cX4_reasonAgainst 95 = .ok (.goto 4, 3) := by decide +kernel
theorem dX4_reasonAgainst_98 : decode cX4_reasonAgainst 98 = .ok (.iconst 0, 1) := by decide +kernel
theorem dX4_reasonAgainst_99 : decode cX4_reasonAgainst 99 = .ok (.ireturn, 1) := by decide +kernel
set_option maxRecDepth 20000 in
theorem ggX4_accepted_X3_fateOf : GoodIn wsX4_accepted wsX3_fateOf := goodIn_ca (goodIn_r _ [8, 9, 10, 11, 7, 12, 13, 30, 31, 32] (by decide +kernel) (by decide +kernel)) (goodIn_sub (fun _ h => List.mem_cons_of_mem _ (List.mem_append_right _ h)) (by decide +kernel))
set_option maxRecDepth 20000 in
theorem gX4_accepted_X3_fateOf : GoodIn wsX4_accepted (wsV RX4 121 RX3 yX3_fateOf wsX3_fateOf) := goodIn_app (goodIn_of _ (by decide +kernel)) ggX4_accepted_X3_fateOf
set_option maxRecDepth 20000 in
theorem ggX4_accepted_X3_spend : GoodIn wsX4_accepted wsX3_spend := goodIn_ca (goodIn_r _ [17, 9, 18, 19, 10, 11, 7, 12, 13, 30, 31, 32] (by decide +kernel) (by decide +kernel)) (goodIn_sub (fun _ h => List.mem_cons_of_mem _ (List.mem_append_right _ h)) (by decide +kernel))
set_option maxRecDepth 20000 in
theorem gX4_accepted_X3_spend : GoodIn wsX4_accepted (wsV RX4 172 RX3 yX3_spend wsX3_spend) := goodIn_app (goodIn_of _ (by decide +kernel)) ggX4_accepted_X3_spend
theorem dX4_accepted_0 : decode cX4_accepted 0 = .ok (.aload_n 0, 1) := by decide +kernel
theorem dX4_accepted_1 : decode cX4_accepted 1 = .ok (.getfield 29, 3) := by decide +kernel
theorem dX4_accepted_4 : decode cX4_accepted 4 = .ok (.iload_n 1, 1) := by decide +kernel
theorem dX4_accepted_5 : decode cX4_accepted 5 = .ok (.i2l, 1) := by decide +kernel
theorem dX4_accepted_6 : decode cX4_accepted 6 = .ok (.invokevirtual 121, 3) := by decide +kernel
theorem dX4_accepted_9 : decode cX4_accepted 9 = .ok (.istore_n 3, 1) := by decide +kernel
theorem dX4_accepted_10 : decode cX4_accepted 10 = .ok (.iload_n 3, 1) := by decide +kernel
theorem dX4_accepted_11 : decode cX4_accepted 11 = .ok (.iconst 2, 1) := by decide +kernel
theorem dX4_accepted_12 : decode cX4_accepted 12 = .ok (.if_icmp .ne 6, 3) := by decide +kernel
theorem dX4_accepted_15 : decode cX4_accepted 15 = .ok (.bipush (-8), 2) := by decide +kernel
theorem dX4_accepted_17 : decode cX4_accepted 17 = .ok (.ireturn, 1) := by decide +kernel
theorem dX4_accepted_18 : decode cX4_accepted 18 = .ok (.aload_n 0, 1) := by decide +kernel
theorem dX4_accepted_19 : decode cX4_accepted 19 = .ok (.iload_n 1, 1) := by decide +kernel
theorem dX4_accepted_20 : decode cX4_accepted 20 = .ok (.putfield 22, 3) := by decide +kernel
theorem dX4_accepted_23 : decode cX4_accepted 23 = .ok (.iload_n 3, 1) := by decide +kernel
theorem dX4_accepted_24 : decode cX4_accepted 24 = .ok (.iconst 1, 1) := by decide +kernel
theorem dX4_accepted_25 : decode cX4_accepted 25 = .ok (.if_icmp .ne 6, 3) := by decide +kernel
theorem dX4_accepted_28 : decode cX4_accepted 28 = .ok (.bipush (-7), 2) := by decide +kernel
theorem dX4_accepted_30 : decode cX4_accepted 30 = .ok (.ireturn, 1) := by decide +kernel
theorem dX4_accepted_31 : decode cX4_accepted 31 = .ok (.aload_n 0, 1) := by decide +kernel
theorem dX4_accepted_32 : decode cX4_accepted 32 = .ok (.getfield 29, 3) := by decide +kernel
theorem dX4_accepted_35 : decode cX4_accepted 35 = .ok (.iload_n 1, 1) := by decide +kernel
theorem dX4_accepted_36 : decode cX4_accepted 36 = .ok (.iload_n 2, 1) := by decide +kernel
theorem dX4_accepted_37 : decode cX4_accepted 37 = .ok (.aload_n 0, 1) := by decide +kernel
theorem dX4_accepted_38 : decode cX4_accepted 38 = .ok (.getfield 95, 3) := by decide +kernel
theorem dX4_accepted_41 : decode cX4_accepted 41 = .ok (.invokevirtual 172, 3) := by decide +kernel
theorem dX4_accepted_44 : decode cX4_accepted 44 = .ok (.iconst 1, 1) := by decide +kernel
theorem dX4_accepted_45 : decode cX4_accepted 45 = .ok (.ireturn, 1) := by decide +kernel
theorem dX5_init_0 : decode cX5_init 0 = .ok (.aload_n 0, 1) := by decide +kernel
theorem dX5_init_1 : decode cX5_init 1 = .ok (.invokespecial 1, 3) := by decide +kernel
theorem dX5_init_4 : decode cX5_init 4 = .ok (.aload_n 0, 1) := by decide +kernel
theorem dX5_init_5 : decode cX5_init 5 = .ok (.bipush 15, 2) := by decide +kernel
theorem dX5_init_7 : decode cX5_init 7 = .ok (.newarray .int, 2) := by decide +kernel
theorem dX5_init_9 : decode cX5_init 9 = .ok (.putfield 7, 3) := by decide +kernel
theorem dX5_init_12 : decode cX5_init 12 = .ok (.aload_n 0, 1) := by decide +kernel
theorem dX5_init_13 : decode cX5_init 13 = .ok (.bipush 15, 2) := by decide +kernel
theorem dX5_init_15 : decode cX5_init 15 = .ok (.newarray .int, 2) := by decide +kernel
theorem dX5_init_17 : decode cX5_init 17 = .ok (.putfield 13, 3) := by decide +kernel
theorem dX5_init_20 : decode cX5_init 20 = .ok (.aload_n 0, 1) := by decide +kernel
theorem dX5_init_21 : decode cX5_init 21 = .ok (.bipush 15, 2) := by decide +kernel
theorem dX5_init_23 : decode cX5_init 23 = .ok (.newarray .int, 2) := by decide +kernel
theorem dX5_init_25 : decode cX5_init 25 = .ok (.putfield 16, 3) := by decide +kernel
theorem dX5_init_28 : decode cX5_init 28 = .ok (.aload_n 0, 1) := by decide +kernel
theorem dX5_init_29 : decode cX5_init 29 = .ok (.bipush 15, 2) := by decide +kernel
theorem dX5_init_31 : decode cX5_init 31 = .ok (.newarray .boolean, 2) := by decide +kernel
theorem dX5_init_33 : decode cX5_init 33 = .ok (.putfield 19, 3) := by decide +kernel
theorem dX5_init_36 : decode cX5_init 36 = .ok (.aload_n 0, 1) := by decide +kernel
theorem dX5_init_37 : decode cX5_init 37 = .ok (.sipush 480, 3) := by decide +kernel
theorem dX5_init_40 : decode cX5_init 40 = .ok (.newarray .byte, 2) := by decide +kernel
theorem dX5_init_42 : decode cX5_init 42 = .ok (.putfield 23, 3) := by decide +kernel
theorem dX5_init_45 : decode cX5_init 45 = .ok (.aload_n 0, 1) := by decide +kernel
theorem dX5_init_46 : decode cX5_init 46 = .ok (.bipush 16, 2) := by decide +kernel
theorem dX5_init_48 : decode cX5_init 48 = .ok (.newarray .int, 2) := by decide +kernel
theorem dX5_init_50 : decode cX5_init 50 = .ok (.putfield 27, 3) := by decide +kernel
theorem dX5_init_53 : decode cX5_init 53 = .ok (.aload_n 0, 1) := by decide +kernel
theorem dX5_init_54 : decode cX5_init 54 = .ok (.bipush 40, 2) := by decide +kernel
theorem dX5_init_56 : decode cX5_init 56 = .ok (.newarray .int, 2) := by decide +kernel
theorem dX5_init_58 : decode cX5_init 58 = .ok (.putfield 30, 3) := by decide +kernel
theorem dX5_init_61 : decode cX5_init 61 = .ok (.aload_n 0, 1) := by decide +kernel
theorem dX5_init_62 : decode cX5_init 62 = .ok (.sipush 16384, 3) := by decide +kernel
theorem dX5_init_65 : decode cX5_init 65 = .ok (.newarray .byte, 2) := by decide +kernel
theorem dX5_init_67 : decode cX5_init 67 = .ok (.putfield 33, 3) := by decide +kernel
theorem dX5_init_70 : decode cX5_init 70 = .ok (.aload_n 0, 1) := by decide +kernel
theorem dX5_init_71 : decode cX5_init 71 = .ok (.sipush 16384, 3) := by decide +kernel
theorem dX5_init_74 : decode cX5_init 74 = .ok (.newarray .int, 2) := by decide +kernel
theorem dX5_init_76 : decode cX5_init 76 = .ok (.putfield 36, 3) := by decide +kernel
theorem dX5_init_79 : decode cX5_init 79 = .ok (.aload_n 0, 1) := by decide +kernel
theorem dX5_init_80 : decode cX5_init 80 = .ok (.sipush 16384, 3) := by decide +kernel
theorem dX5_init_83 : decode cX5_init 83 = .ok (.newarray .int, 2) := by decide +kernel
theorem dX5_init_85 : decode cX5_init 85 = .ok (.putfield 39, 3) := by decide +kernel
theorem dX5_init_88 : decode cX5_init 88 = .ok (.aload_n 0, 1) := by decide +kernel
theorem dX5_init_89 : decode cX5_init 89 = .ok (.iconst (-1), 1) := by decide +kernel
theorem dX5_init_90 : decode cX5_init 90 = .ok (.putfield 42, 3) := by decide +kernel
theorem dX5_init_93 : decode cX5_init 93 = .ok (.aload_n 0, 1) := by decide +kernel
theorem dX5_init_94 : decode cX5_init 94 = .ok (.bipush 32, 2) := by decide +kernel
theorem dX5_init_96 : decode cX5_init 96 = .ok (.newarray .byte, 2) := by decide +kernel
theorem dX5_init_98 : decode cX5_init 98 = .ok (.putfield 46, 3) := by decide +kernel
theorem dX5_init_101 : decode cX5_init 101 = .ok (.aload_n 0, 1) := by decide +kernel
theorem dX5_init_102 : decode cX5_init 102 = .ok (.bipush 64, 2) := by decide +kernel
theorem dX5_init_104 : decode cX5_init 104 = .ok (.newarray .int, 2) := by decide +kernel
theorem dX5_init_106 : decode cX5_init 106 = .ok (.putfield 49, 3) := by decide +kernel
theorem dX5_init_109 : decode cX5_init 109 = .ok (.aload_n 0, 1) := by decide +kernel
theorem dX5_init_110 : decode cX5_init 110 = .ok (.bipush 8, 2) := by decide +kernel
theorem dX5_init_112 : decode cX5_init 112 = .ok (.newarray .int, 2) := by decide +kernel
theorem dX5_init_114 : decode cX5_init 114 = .ok (.putfield 52, 3) := by decide +kernel
theorem dX5_init_117 : decode cX5_init 117 = .ok (.aload_n 0, 1) := by decide +kernel
theorem dX5_init_118 : decode cX5_init 118 = .ok (.bipush 64, 2) := by decide +kernel
theorem dX5_init_120 : decode cX5_init 120 = .ok (.newarray .int, 2) := by decide +kernel
theorem dX5_init_122 : decode cX5_init 122 = .ok (.dup, 1) := by decide +kernel
theorem dX5_init_123 : decode cX5_init 123 = .ok (.iconst 0, 1) := by decide +kernel
theorem dX5_init_124 : decode cX5_init 124 = .ok (.ldc 55, 2) := by decide +kernel
theorem dX5_init_126 : decode cX5_init 126 = .ok (.iastore, 1) := by decide +kernel
theorem dX5_init_127 : decode cX5_init 127 = .ok (.dup, 1) := by decide +kernel
theorem dX5_init_128 : decode cX5_init 128 = .ok (.iconst 1, 1) := by decide +kernel
theorem dX5_init_129 : decode cX5_init 129 = .ok (.ldc 56, 2) := by decide +kernel
theorem dX5_init_131 : decode cX5_init 131 = .ok (.iastore, 1) := by decide +kernel
theorem dX5_init_132 : decode cX5_init 132 = .ok (.dup, 1) := by decide +kernel
theorem dX5_init_133 : decode cX5_init 133 = .ok (.iconst 2, 1) := by decide +kernel
theorem dX5_init_134 : decode cX5_init 134 = .ok (.ldc 57, 2) := by decide +kernel
theorem dX5_init_136 : decode cX5_init 136 = .ok (.iastore, 1) := by decide +kernel
theorem dX5_init_137 : decode cX5_init 137 = .ok (.dup, 1) := by decide +kernel
theorem dX5_init_138 : decode cX5_init 138 = .ok (.iconst 3, 1) := by decide +kernel
theorem dX5_init_139 : decode cX5_init 139 = .ok (.ldc 58, 2) := by decide +kernel
theorem dX5_init_141 : decode cX5_init 141 = .ok (.iastore, 1) := by decide +kernel
theorem dX5_init_142 : decode cX5_init 142 = .ok (.dup, 1) := by decide +kernel
theorem dX5_init_143 : decode cX5_init 143 = .ok (.iconst 4, 1) := by decide +kernel
theorem dX5_init_144 : decode cX5_init 144 = .ok (.ldc 59, 2) := by decide +kernel
theorem dX5_init_146 : decode cX5_init 146 = .ok (.iastore, 1) := by decide +kernel
theorem dX5_init_147 : decode cX5_init 147 = .ok (.dup, 1) := by decide +kernel
theorem dX5_init_148 : decode cX5_init 148 = .ok (.iconst 5, 1) := by decide +kernel
theorem dX5_init_149 : decode cX5_init 149 = .ok (.ldc 60, 2) := by decide +kernel
theorem dX5_init_151 : decode cX5_init 151 = .ok (.iastore, 1) := by decide +kernel
theorem dX5_init_152 : decode cX5_init 152 = .ok (.dup, 1) := by decide +kernel
theorem dX5_init_153 : decode cX5_init 153 = .ok (.bipush 6, 2) := by decide +kernel
theorem dX5_init_155 : decode cX5_init 155 = .ok (.ldc 61, 2) := by decide +kernel
theorem dX5_init_157 : decode cX5_init 157 = .ok (.iastore, 1) := by decide +kernel
theorem dX5_init_158 : decode cX5_init 158 = .ok (.dup, 1) := by decide +kernel
theorem dX5_init_159 : decode cX5_init 159 = .ok (.bipush 7, 2) := by decide +kernel
theorem dX5_init_161 : decode cX5_init 161 = .ok (.ldc 62, 2) := by decide +kernel
theorem dX5_init_163 : decode cX5_init 163 = .ok (.iastore, 1) := by decide +kernel
theorem dX5_init_164 : decode cX5_init 164 = .ok (.dup, 1) := by decide +kernel
theorem dX5_init_165 : decode cX5_init 165 = .ok (.bipush 8, 2) := by decide +kernel
theorem dX5_init_167 : decode cX5_init 167 = .ok (.ldc 63, 2) := by decide +kernel
theorem dX5_init_169 : decode cX5_init 169 = .ok (.iastore, 1) := by decide +kernel
theorem dX5_init_170 : decode cX5_init 170 = .ok (.dup, 1) := by decide +kernel
theorem dX5_init_171 : decode cX5_init 171 = .ok (.bipush 9, 2) := by decide +kernel
theorem dX5_init_173 : decode cX5_init 173 = .ok (.ldc 64, 2) := by decide +kernel
theorem dX5_init_175 : decode cX5_init 175 = .ok (.iastore, 1) := by decide +kernel
theorem dX5_init_176 : decode cX5_init 176 = .ok (.dup, 1) := by decide +kernel
theorem dX5_init_177 : decode cX5_init 177 = .ok (.bipush 10, 2) := by decide +kernel
theorem dX5_init_179 : decode cX5_init 179 = .ok (.ldc 65, 2) := by decide +kernel
theorem dX5_init_181 : decode cX5_init 181 = .ok (.iastore, 1) := by decide +kernel
theorem dX5_init_182 : decode cX5_init 182 = .ok (.dup, 1) := by decide +kernel
theorem dX5_init_183 : decode cX5_init 183 = .ok (.bipush 11, 2) := by decide +kernel
theorem dX5_init_185 : decode cX5_init 185 = .ok (.ldc 66, 2) := by decide +kernel
theorem dX5_init_187 : decode cX5_init 187 = .ok (.iastore, 1) := by decide +kernel
theorem dX5_init_188 : decode cX5_init 188 = .ok (.dup, 1) := by decide +kernel
theorem dX5_init_189 : decode cX5_init 189 = .ok (.bipush 12, 2) := by decide +kernel
theorem dX5_init_191 : decode cX5_init 191 = .ok (.ldc 67, 2) := by decide +kernel
theorem dX5_init_193 : decode cX5_init 193 = .ok (.iastore, 1) := by decide +kernel
theorem dX5_init_194 : decode cX5_init 194 = .ok (.dup, 1) := by decide +kernel
theorem dX5_init_195 : decode cX5_init 195 = .ok (.bipush 13, 2) := by decide +kernel
theorem dX5_init_197 : decode cX5_init 197 = .ok (.ldc 68, 2) := by decide +kernel
theorem dX5_init_199 : decode cX5_init 199 = .ok (.iastore, 1) := by decide +kernel
theorem dX5_init_200 : decode cX5_init 200 = .ok (.dup, 1) := by decide +kernel
theorem dX5_init_201 : decode cX5_init 201 = .ok (.bipush 14, 2) := by decide +kernel
theorem dX5_init_203 : decode cX5_init 203 = .ok (.ldc 69, 2) := by decide +kernel
theorem dX5_init_205 : decode cX5_init 205 = .ok (.iastore, 1) := by decide +kernel
theorem dX5_init_206 : decode cX5_init 206 = .ok (.dup, 1) := by decide +kernel
theorem dX5_init_207 : decode cX5_init 207 = .ok (.bipush 15, 2) := by decide +kernel
theorem dX5_init_209 : decode cX5_init 209 = .ok (.ldc 70, 2) := by decide +kernel
theorem dX5_init_211 : decode cX5_init 211 = .ok (.iastore, 1) := by decide +kernel
theorem dX5_init_212 : decode cX5_init 212 = .ok (.dup, 1) := by decide +kernel
theorem dX5_init_213 : decode cX5_init 213 = .ok (.bipush 16, 2) := by decide +kernel
theorem dX5_init_215 : decode cX5_init 215 = .ok (.ldc 71, 2) := by decide +kernel
theorem dX5_init_217 : decode cX5_init 217 = .ok (.iastore, 1) := by decide +kernel
theorem dX5_init_218 : decode cX5_init 218 = .ok (.dup, 1) := by decide +kernel
theorem dX5_init_219 : decode cX5_init 219 = .ok (.bipush 17, 2) := by decide +kernel
theorem dX5_init_221 : decode cX5_init 221 = .ok (.ldc 72, 2) := by decide +kernel
theorem dX5_init_223 : decode cX5_init 223 = .ok (.iastore, 1) := by decide +kernel
theorem dX5_init_224 : decode cX5_init 224 = .ok (.dup, 1) := by decide +kernel
theorem dX5_init_225 : decode cX5_init 225 = .ok (.bipush 18, 2) := by decide +kernel
theorem dX5_init_227 : decode cX5_init 227 = .ok (.ldc 73, 2) := by decide +kernel
theorem dX5_init_229 : decode cX5_init 229 = .ok (.iastore, 1) := by decide +kernel
theorem dX5_init_230 : decode cX5_init 230 = .ok (.dup, 1) := by decide +kernel
theorem dX5_init_231 : decode cX5_init 231 = .ok (.bipush 19, 2) := by decide +kernel
theorem dX5_init_233 : decode cX5_init 233 = .ok (.ldc 74, 2) := by decide +kernel
theorem dX5_init_235 : decode cX5_init 235 = .ok (.iastore, 1) := by decide +kernel
theorem dX5_init_236 : decode cX5_init 236 = .ok (.dup, 1) := by decide +kernel
theorem dX5_init_237 : decode cX5_init 237 = .ok (.bipush 20, 2) := by decide +kernel
theorem dX5_init_239 : decode cX5_init 239 = .ok (.ldc 75, 2) := by decide +kernel
theorem dX5_init_241 : decode cX5_init 241 = .ok (.iastore, 1) := by decide +kernel
theorem dX5_init_242 : decode cX5_init 242 = .ok (.dup, 1) := by decide +kernel
theorem dX5_init_243 : decode cX5_init 243 = .ok (.bipush 21, 2) := by decide +kernel
theorem dX5_init_245 : decode cX5_init 245 = .ok (.ldc 76, 2) := by decide +kernel
theorem dX5_init_247 : decode cX5_init 247 = .ok (.iastore, 1) := by decide +kernel
theorem dX5_init_248 : decode cX5_init 248 = .ok (.dup, 1) := by decide +kernel
theorem dX5_init_249 : decode cX5_init 249 = .ok (.bipush 22, 2) := by decide +kernel
theorem dX5_init_251 : decode cX5_init 251 = .ok (.ldc 77, 2) := by decide +kernel
theorem dX5_init_253 : decode cX5_init 253 = .ok (.iastore, 1) := by decide +kernel
theorem dX5_init_254 : decode cX5_init 254 = .ok (.dup, 1) := by decide +kernel
theorem dX5_init_255 : decode cX5_init 255 = .ok (.bipush 23, 2) := by decide +kernel
theorem dX5_init_257 : decode cX5_init 257 = .ok (.ldc 78, 2) := by decide +kernel
theorem dX5_init_259 : decode cX5_init 259 = .ok (.iastore, 1) := by decide +kernel
theorem dX5_init_260 : decode cX5_init 260 = .ok (.dup, 1) := by decide +kernel
theorem dX5_init_261 : decode cX5_init 261 = .ok (.bipush 24, 2) := by decide +kernel
theorem dX5_init_263 : decode cX5_init 263 = .ok (.ldc 79, 2) := by decide +kernel
theorem dX5_init_265 : decode cX5_init 265 = .ok (.iastore, 1) := by decide +kernel
theorem dX5_init_266 : decode cX5_init 266 = .ok (.dup, 1) := by decide +kernel
theorem dX5_init_267 : decode cX5_init 267 = .ok (.bipush 25, 2) := by decide +kernel
theorem dX5_init_269 : decode cX5_init 269 = .ok (.ldc 80, 2) := by decide +kernel
theorem dX5_init_271 : decode cX5_init 271 = .ok (.iastore, 1) := by decide +kernel
theorem dX5_init_272 : decode cX5_init 272 = .ok (.dup, 1) := by decide +kernel
theorem dX5_init_273 : decode cX5_init 273 = .ok (.bipush 26, 2) := by decide +kernel
theorem dX5_init_275 : decode cX5_init 275 = .ok (.ldc 81, 2) := by decide +kernel
theorem dX5_init_277 : decode cX5_init 277 = .ok (.iastore, 1) := by decide +kernel
theorem dX5_init_278 : decode cX5_init 278 = .ok (.dup, 1) := by decide +kernel
theorem dX5_init_279 : decode cX5_init 279 = .ok (.bipush 27, 2) := by decide +kernel
theorem dX5_init_281 : decode cX5_init 281 = .ok (.ldc 82, 2) := by decide +kernel
theorem dX5_init_283 : decode cX5_init 283 = .ok (.iastore, 1) := by decide +kernel
theorem dX5_init_284 : decode cX5_init 284 = .ok (.dup, 1) := by decide +kernel
theorem dX5_init_285 : decode cX5_init 285 = .ok (.bipush 28, 2) := by decide +kernel
theorem dX5_init_287 : decode cX5_init 287 = .ok (.ldc 83, 2) := by decide +kernel
theorem dX5_init_289 : decode cX5_init 289 = .ok (.iastore, 1) := by decide +kernel
theorem dX5_init_290 : decode cX5_init 290 = .ok (.dup, 1) := by decide +kernel
theorem dX5_init_291 : decode cX5_init 291 = .ok (.bipush 29, 2) := by decide +kernel
theorem dX5_init_293 : decode cX5_init 293 = .ok (.ldc 84, 2) := by decide +kernel
theorem dX5_init_295 : decode cX5_init 295 = .ok (.iastore, 1) := by decide +kernel
theorem dX5_init_296 : decode cX5_init 296 = .ok (.dup, 1) := by decide +kernel
theorem dX5_init_297 : decode cX5_init 297 = .ok (.bipush 30, 2) := by decide +kernel
theorem dX5_init_299 : decode cX5_init 299 = .ok (.ldc 85, 2) := by decide +kernel
theorem dX5_init_301 : decode cX5_init 301 = .ok (.iastore, 1) := by decide +kernel
theorem dX5_init_302 : decode cX5_init 302 = .ok (.dup, 1) := by decide +kernel
theorem dX5_init_303 : decode cX5_init 303 = .ok (.bipush 31, 2) := by decide +kernel
theorem dX5_init_305 : decode cX5_init 305 = .ok (.ldc 86, 2) := by decide +kernel
theorem dX5_init_307 : decode cX5_init 307 = .ok (.iastore, 1) := by decide +kernel
theorem dX5_init_308 : decode cX5_init 308 = .ok (.dup, 1) := by decide +kernel
theorem dX5_init_309 : decode cX5_init 309 = .ok (.bipush 32, 2) := by decide +kernel
theorem dX5_init_311 : decode cX5_init 311 = .ok (.ldc 87, 2) := by decide +kernel
theorem dX5_init_313 : decode cX5_init 313 = .ok (.iastore, 1) := by decide +kernel
theorem dX5_init_314 : decode cX5_init 314 = .ok (.dup, 1) := by decide +kernel
theorem dX5_init_315 : decode cX5_init 315 = .ok (.bipush 33, 2) := by decide +kernel
theorem dX5_init_317 : decode cX5_init 317 = .ok (.ldc 88, 2) := by decide +kernel
theorem dX5_init_319 : decode cX5_init 319 = .ok (.iastore, 1) := by decide +kernel
theorem dX5_init_320 : decode cX5_init 320 = .ok (.dup, 1) := by decide +kernel
theorem dX5_init_321 : decode cX5_init 321 = .ok (.bipush 34, 2) := by decide +kernel
theorem dX5_init_323 : decode cX5_init 323 = .ok (.ldc 89, 2) := by decide +kernel
theorem dX5_init_325 : decode cX5_init 325 = .ok (.iastore, 1) := by decide +kernel
theorem dX5_init_326 : decode cX5_init 326 = .ok (.dup, 1) := by decide +kernel
theorem dX5_init_327 : decode cX5_init 327 = .ok (.bipush 35, 2) := by decide +kernel
theorem dX5_init_329 : decode cX5_init 329 = .ok (.ldc 90, 2) := by decide +kernel
theorem dX5_init_331 : decode cX5_init 331 = .ok (.iastore, 1) := by decide +kernel
theorem dX5_init_332 : decode cX5_init 332 = .ok (.dup, 1) := by decide +kernel
theorem dX5_init_333 : decode cX5_init 333 = .ok (.bipush 36, 2) := by decide +kernel
theorem dX5_init_335 : decode cX5_init 335 = .ok (.ldc 91, 2) := by decide +kernel
theorem dX5_init_337 : decode cX5_init 337 = .ok (.iastore, 1) := by decide +kernel
theorem dX5_init_338 : decode cX5_init 338 = .ok (.dup, 1) := by decide +kernel
theorem dX5_init_339 : decode cX5_init 339 = .ok (.bipush 37, 2) := by decide +kernel
theorem dX5_init_341 : decode cX5_init 341 = .ok (.ldc 92, 2) := by decide +kernel
theorem dX5_init_343 : decode cX5_init 343 = .ok (.iastore, 1) := by decide +kernel
theorem dX5_init_344 : decode cX5_init 344 = .ok (.dup, 1) := by decide +kernel
theorem dX5_init_345 : decode cX5_init 345 = .ok (.bipush 38, 2) := by decide +kernel
theorem dX5_init_347 : decode cX5_init 347 = .ok (.ldc 93, 2) := by decide +kernel
theorem dX5_init_349 : decode cX5_init 349 = .ok (.iastore, 1) := by decide +kernel
theorem dX5_init_350 : decode cX5_init 350 = .ok (.dup, 1) := by decide +kernel
theorem dX5_init_351 : decode cX5_init 351 = .ok (.bipush 39, 2) := by decide +kernel
theorem dX5_init_353 : decode cX5_init 353 = .ok (.ldc 94, 2) := by decide +kernel
theorem dX5_init_355 : decode cX5_init 355 = .ok (.iastore, 1) := by decide +kernel
theorem dX5_init_356 : decode cX5_init 356 = .ok (.dup, 1) := by decide +kernel
theorem dX5_init_357 : decode cX5_init 357 = .ok (.bipush 40, 2) := by decide +kernel
theorem dX5_init_359 : decode cX5_init 359 = .ok (.ldc 95, 2) := by decide +kernel
theorem dX5_init_361 : decode cX5_init 361 = .ok (.iastore, 1) := by decide +kernel
theorem dX5_init_362 : decode cX5_init 362 = .ok (.dup, 1) := by decide +kernel
theorem dX5_init_363 : decode cX5_init 363 = .ok (.bipush 41, 2) := by decide +kernel
theorem dX5_init_365 : decode cX5_init 365 = .ok (.ldc 96, 2) := by decide +kernel
theorem dX5_init_367 : decode cX5_init 367 = .ok (.iastore, 1) := by decide +kernel
theorem dX5_init_368 : decode cX5_init 368 = .ok (.dup, 1) := by decide +kernel
theorem dX5_init_369 : decode cX5_init 369 = .ok (.bipush 42, 2) := by decide +kernel
theorem dX5_init_371 : decode cX5_init 371 = .ok (.ldc 97, 2) := by decide +kernel
theorem dX5_init_373 : decode cX5_init 373 = .ok (.iastore, 1) := by decide +kernel
theorem dX5_init_374 : decode cX5_init 374 = .ok (.dup, 1) := by decide +kernel
theorem dX5_init_375 : decode cX5_init 375 = .ok (.bipush 43, 2) := by decide +kernel
theorem dX5_init_377 : decode cX5_init 377 = .ok (.ldc 98, 2) := by decide +kernel
theorem dX5_init_379 : decode cX5_init 379 = .ok (.iastore, 1) := by decide +kernel
theorem dX5_init_380 : decode cX5_init 380 = .ok (.dup, 1) := by decide +kernel
theorem dX5_init_381 : decode cX5_init 381 = .ok (.bipush 44, 2) := by decide +kernel
theorem dX5_init_383 : decode cX5_init 383 = .ok (.ldc 99, 2) := by decide +kernel
theorem dX5_init_385 : decode cX5_init 385 = .ok (.iastore, 1) := by decide +kernel
theorem dX5_init_386 : decode cX5_init 386 = .ok (.dup, 1) := by decide +kernel
theorem dX5_init_387 : decode cX5_init 387 = .ok (.bipush 45, 2) := by decide +kernel
theorem dX5_init_389 : decode cX5_init 389 = .ok (.ldc 100, 2) := by decide +kernel
theorem dX5_init_391 : decode cX5_init 391 = .ok (.iastore, 1) := by decide +kernel
theorem dX5_init_392 : decode cX5_init 392 = .ok (.dup, 1) := by decide +kernel
theorem dX5_init_393 : decode cX5_init 393 = .ok (.bipush 46, 2) := by decide +kernel
theorem dX5_init_395 : decode cX5_init 395 = .ok (.ldc 101, 2) := by decide +kernel
theorem dX5_init_397 : decode cX5_init 397 = .ok (.iastore, 1) := by decide +kernel
theorem dX5_init_398 : decode cX5_init 398 = .ok (.dup, 1) := by decide +kernel
theorem dX5_init_399 : decode cX5_init 399 = .ok (.bipush 47, 2) := by decide +kernel
theorem dX5_init_401 : decode cX5_init 401 = .ok (.ldc 102, 2) := by decide +kernel
theorem dX5_init_403 : decode cX5_init 403 = .ok (.iastore, 1) := by decide +kernel
theorem dX5_init_404 : decode cX5_init 404 = .ok (.dup, 1) := by decide +kernel
theorem dX5_init_405 : decode cX5_init 405 = .ok (.bipush 48, 2) := by decide +kernel
theorem dX5_init_407 : decode cX5_init 407 = .ok (.ldc 103, 2) := by decide +kernel
theorem dX5_init_409 : decode cX5_init 409 = .ok (.iastore, 1) := by decide +kernel
theorem dX5_init_410 : decode cX5_init 410 = .ok (.dup, 1) := by decide +kernel
theorem dX5_init_411 : decode cX5_init 411 = .ok (.bipush 49, 2) := by decide +kernel
theorem dX5_init_413 : decode cX5_init 413 = .ok (.ldc 104, 2) := by decide +kernel
theorem dX5_init_415 : decode cX5_init 415 = .ok (.iastore, 1) := by decide +kernel
theorem dX5_init_416 : decode cX5_init 416 = .ok (.dup, 1) := by decide +kernel
theorem dX5_init_417 : decode cX5_init 417 = .ok (.bipush 50, 2) := by decide +kernel
theorem dX5_init_419 : decode cX5_init 419 = .ok (.ldc 105, 2) := by decide +kernel
theorem dX5_init_421 : decode cX5_init 421 = .ok (.iastore, 1) := by decide +kernel
theorem dX5_init_422 : decode cX5_init 422 = .ok (.dup, 1) := by decide +kernel
theorem dX5_init_423 : decode cX5_init 423 = .ok (.bipush 51, 2) := by decide +kernel
theorem dX5_init_425 : decode cX5_init 425 = .ok (.ldc 106, 2) := by decide +kernel
theorem dX5_init_427 : decode cX5_init 427 = .ok (.iastore, 1) := by decide +kernel
theorem dX5_init_428 : decode cX5_init 428 = .ok (.dup, 1) := by decide +kernel
theorem dX5_init_429 : decode cX5_init 429 = .ok (.bipush 52, 2) := by decide +kernel
theorem dX5_init_431 : decode cX5_init 431 = .ok (.ldc 107, 2) := by decide +kernel
theorem dX5_init_433 : decode cX5_init 433 = .ok (.iastore, 1) := by decide +kernel
theorem dX5_init_434 : decode cX5_init 434 = .ok (.dup, 1) := by decide +kernel
theorem dX5_init_435 : decode cX5_init 435 = .ok (.bipush 53, 2) := by decide +kernel
theorem dX5_init_437 : decode cX5_init 437 = .ok (.ldc 108, 2) := by decide +kernel
theorem dX5_init_439 : decode cX5_init 439 = .ok (.iastore, 1) := by decide +kernel
theorem dX5_init_440 : decode cX5_init 440 = .ok (.dup, 1) := by decide +kernel
theorem dX5_init_441 : decode cX5_init 441 = .ok (.bipush 54, 2) := by decide +kernel
theorem dX5_init_443 : decode cX5_init 443 = .ok (.ldc 109, 2) := by decide +kernel
theorem dX5_init_445 : decode cX5_init 445 = .ok (.iastore, 1) := by decide +kernel
theorem dX5_init_446 : decode cX5_init 446 = .ok (.dup, 1) := by decide +kernel
theorem dX5_init_447 : decode cX5_init 447 = .ok (.bipush 55, 2) := by decide +kernel
theorem dX5_init_449 : decode cX5_init 449 = .ok (.ldc 110, 2) := by decide +kernel
theorem dX5_init_451 : decode cX5_init 451 = .ok (.iastore, 1) := by decide +kernel
theorem dX5_init_452 : decode cX5_init 452 = .ok (.dup, 1) := by decide +kernel
theorem dX5_init_453 : decode cX5_init 453 = .ok (.bipush 56, 2) := by decide +kernel
theorem dX5_init_455 : decode cX5_init 455 = .ok (.ldc 111, 2) := by decide +kernel
theorem dX5_init_457 : decode cX5_init 457 = .ok (.iastore, 1) := by decide +kernel
theorem dX5_init_458 : decode cX5_init 458 = .ok (.dup, 1) := by decide +kernel
theorem dX5_init_459 : decode cX5_init 459 = .ok (.bipush 57, 2) := by decide +kernel
theorem dX5_init_461 : decode cX5_init 461 = .ok (.ldc 112, 2) := by decide +kernel
theorem dX5_init_463 : decode cX5_init 463 = .ok (.iastore, 1) := by decide +kernel
theorem dX5_init_464 : decode cX5_init 464 = .ok (.dup, 1) := by decide +kernel
theorem dX5_init_465 : decode cX5_init 465 = .ok (.bipush 58, 2) := by decide +kernel
theorem dX5_init_467 : decode cX5_init 467 = .ok (.ldc 113, 2) := by decide +kernel
theorem dX5_init_469 : decode cX5_init 469 = .ok (.iastore, 1) := by decide +kernel
theorem dX5_init_470 : decode cX5_init 470 = .ok (.dup, 1) := by decide +kernel
theorem dX5_init_471 : decode cX5_init 471 = .ok (.bipush 59, 2) := by decide +kernel
theorem dX5_init_473 : decode cX5_init 473 = .ok (.ldc 114, 2) := by decide +kernel
theorem dX5_init_475 : decode cX5_init 475 = .ok (.iastore, 1) := by decide +kernel
theorem dX5_init_476 : decode cX5_init 476 = .ok (.dup, 1) := by decide +kernel
theorem dX5_init_477 : decode cX5_init 477 = .ok (.bipush 60, 2) := by decide +kernel
theorem dX5_init_479 : decode cX5_init 479 = .ok (.ldc 115, 2) := by decide +kernel
theorem dX5_init_481 : decode cX5_init 481 = .ok (.iastore, 1) := by decide +kernel
theorem dX5_init_482 : decode cX5_init 482 = .ok (.dup, 1) := by decide +kernel
theorem dX5_init_483 : decode cX5_init 483 = .ok (.bipush 61, 2) := by decide +kernel
theorem dX5_init_485 : decode cX5_init 485 = .ok (.ldc 116, 2) := by decide +kernel
theorem dX5_init_487 : decode cX5_init 487 = .ok (.iastore, 1) := by decide +kernel
theorem dX5_init_488 : decode cX5_init 488 = .ok (.dup, 1) := by decide +kernel
theorem dX5_init_489 : decode cX5_init 489 = .ok (.bipush 62, 2) := by decide +kernel
theorem dX5_init_491 : decode cX5_init 491 = .ok (.ldc 117, 2) := by decide +kernel
theorem dX5_init_493 : decode cX5_init 493 = .ok (.iastore, 1) := by decide +kernel
theorem dX5_init_494 : decode cX5_init 494 = .ok (.dup, 1) := by decide +kernel
theorem dX5_init_495 : decode cX5_init 495 = .ok (.bipush 63, 2) := by decide +kernel
theorem dX5_init_497 : decode cX5_init 497 = .ok (.ldc 118, 2) := by decide +kernel
theorem dX5_init_499 : decode cX5_init 499 = .ok (.iastore, 1) := by decide +kernel
theorem dX5_init_500 : decode cX5_init 500 = .ok (.putfield 119, 3) := by decide +kernel
theorem dX5_init_503 : decode cX5_init 503 = .ok (.aload_n 0, 1) := by decide +kernel
theorem dX5_init_504 : decode cX5_init 504 = .ok (.bipush 8, 2) := by decide +kernel
theorem dX5_init_506 : decode cX5_init 506 = .ok (.newarray .int, 2) := by decide +kernel
theorem dX5_init_508 : decode cX5_init 508 = .ok (.dup, 1) := by decide +kernel
theorem dX5_init_509 : decode cX5_init 509 = .ok (.iconst 0, 1) := by decide +kernel
theorem dX5_init_510 : decode cX5_init 510 = .ok (.ldc 122, 2) := by decide +kernel
theorem dX5_init_512 : decode cX5_init 512 = .ok (.iastore, 1) := by decide +kernel
theorem dX5_init_513 : decode cX5_init 513 = .ok (.dup, 1) := by decide +kernel
theorem dX5_init_514 : decode cX5_init 514 = .ok (.iconst 1, 1) := by decide +kernel
theorem dX5_init_515 : decode cX5_init 515 = .ok (.ldc 123, 2) := by decide +kernel
theorem dX5_init_517 : decode cX5_init 517 = .ok (.iastore, 1) := by decide +kernel
theorem dX5_init_518 : decode cX5_init 518 = .ok (.dup, 1) := by decide +kernel
theorem dX5_init_519 : decode cX5_init 519 = .ok (.iconst 2, 1) := by decide +kernel
theorem dX5_init_520 : decode cX5_init 520 = .ok (.ldc 124, 2) := by decide +kernel
theorem dX5_init_522 : decode cX5_init 522 = .ok (.iastore, 1) := by decide +kernel
theorem dX5_init_523 : decode cX5_init 523 = .ok (.dup, 1) := by decide +kernel
theorem dX5_init_524 : decode cX5_init 524 = .ok (.iconst 3, 1) := by decide +kernel
theorem dX5_init_525 : decode cX5_init 525 = .ok (.ldc 125, 2) := by decide +kernel
theorem dX5_init_527 : decode cX5_init 527 = .ok (.iastore, 1) := by decide +kernel
theorem dX5_init_528 : decode cX5_init 528 = .ok (.dup, 1) := by decide +kernel
theorem dX5_init_529 : decode cX5_init 529 = .ok (.iconst 4, 1) := by decide +kernel
theorem dX5_init_530 : decode cX5_init 530 = .ok (.ldc 126, 2) := by decide +kernel
theorem dX5_init_532 : decode cX5_init 532 = .ok (.iastore, 1) := by decide +kernel
theorem dX5_init_533 : decode cX5_init 533 = .ok (.dup, 1) := by decide +kernel
theorem dX5_init_534 : decode cX5_init 534 = .ok (.iconst 5, 1) := by decide +kernel
theorem dX5_init_535 : decode cX5_init 535 = .ok (.ldc 127, 2) := by decide +kernel
theorem dX5_init_537 : decode cX5_init 537 = .ok (.iastore, 1) := by decide +kernel
theorem dX5_init_538 : decode cX5_init 538 = .ok (.dup, 1) := by decide +kernel
theorem dX5_init_539 : decode cX5_init 539 = .ok (.bipush 6, 2) := by decide +kernel
theorem dX5_init_541 : decode cX5_init 541 = .ok (.ldc 128, 2) := by decide +kernel
theorem dX5_init_543 : decode cX5_init 543 = .ok (.iastore, 1) := by decide +kernel
theorem dX5_init_544 : decode cX5_init 544 = .ok (.dup, 1) := by decide +kernel
theorem dX5_init_545 : decode cX5_init 545 = .ok (.bipush 7, 2) := by decide +kernel
theorem dX5_init_547 : decode cX5_init 547 = .ok (.ldc 129, 2) := by decide +kernel
theorem dX5_init_549 : decode cX5_init 549 = .ok (.iastore, 1) := by decide +kernel
theorem dX5_init_550 : decode cX5_init 550 = .ok (.putfield 130, 3) := by decide +kernel
theorem dX5_init_553 : decode cX5_init 553 = .ok (.aload_n 0, 1) := by decide +kernel
theorem dX5_init_554 : decode cX5_init 554 = .ok (.iconst 0, 1) := by decide +kernel
theorem dX5_init_555 : decode cX5_init 555 = .ok (.putfield 133, 3) := by decide +kernel
theorem dX5_init_558 : decode cX5_init 558 = .ok (.return_, 1) := by decide +kernel
theorem dX5_thrown_0 : decode cX5_thrown 0 = .ok (.aload_n 0, 1) := by decide +kernel
theorem dX5_thrown_1 : decode cX5_thrown 1 = .ok (.getfield 136, 3) := by decide +kernel
theorem dX5_thrown_4 : decode cX5_thrown 4 = .ok (.ireturn, 1) := by decide +kernel
theorem dX5_within_0 : decode cX5_within 0 = .ok (.lload_n 0, 1) := by decide +kernel
theorem dX5_within_1 : decode cX5_within 1 = .ok (.lload_n 2, 1) := by decide +kernel
theorem dX5_within_2 : decode cX5_within 2 = .ok (.lcmp, 1) := by decide +kernel
theorem dX5_within_3 : decode cX5_within 3 = .ok (.ifCond .lt 14, 3) := by decide +kernel
theorem dX5_within_6 : decode cX5_within 6 = .ok (.lload_n 0, 1) := by decide +kernel
theorem dX5_within_7 : decode cX5_within 7 = .ok (.lload 4, 2) := by decide +kernel
theorem dX5_within_9 : decode cX5_within 9 = .ok (.lcmp, 1) := by decide +kernel
theorem dX5_within_10 : decode cX5_within 10 = .ok (.ifCond .gt 7, 3) := by decide +kernel
theorem dX5_within_13 : decode cX5_within 13 = .ok (.iconst 1, 1) := by decide +kernel
theorem dX5_within_14 : decode cX5_within 14 = .ok (.goto 4, 3) := by decide +kernel
theorem dX5_within_17 : decode cX5_within 17 = .ok (.iconst 0, 1) := by decide +kernel
theorem dX5_within_18 : decode cX5_within 18 = .ok (.ireturn, 1) := by decide +kernel
end
section
set_option maxRecDepth 20000 in
theorem ggX5_isKey_X5_within : GoodIn wsX5_isKey wsX5_within := goodIn_r _ [5] (by decide +kernel) (by decide +kernel)
set_option maxRecDepth 20000 in
theorem gX5_isKey_X5_within : GoodIn wsX5_isKey (va_wsS RX5 139 yX5_within wsX5_within) := goodIn_app (goodIn_of _ (by decide +kernel)) ggX5_isKey_X5_within
theorem dX5_isKey_0 : decode cX5_isKey 0 = .ok (.iload_n 1, 1) := by decide +kernel
theorem dX5_isKey_1 : decode cX5_isKey 1 = .ok (.i2l, 1) := by decide +kernel
theorem dX5_isKey_2 : decode cX5_isKey 2 = .ok (.lconst 0, 1) := by decide +kernel
theorem dX5_isKey_3 : decode cX5_isKey 3 = .ok (.aload_n 0, 1) := by decide +kernel
theorem dX5_isKey_4 : decode cX5_isKey 4 = .ok (.getfield 133, 3) := by decide +kernel
theorem dX5_isKey_7 : decode cX5_isKey 7 = .ok (.iconst 1, 1) := by decide +kernel
theorem dX5_isKey_8 : decode cX5_isKey 8 = .ok (.isub, 1) := by decide +kernel
theorem dX5_isKey_9 : decode cX5_isKey 9 = .ok (.i2l, 1) := by decide +kernel
theorem dX5_isKey_10 : decode cX5_isKey 10 = .ok (.invokestatic 139, 3) := by decide +kernel
theorem dX5_isKey_13 : decode cX5_isKey 13 = .ok (.ireturn, 1) := by decide +kernel
theorem dX5_key_0 : decode cX5_key 0 = .ok (.aload_n 0, 1) := by decide +kernel
theorem dX5_key_1 : decode cX5_key 1 = .ok (.iconst 0, 1) := by decide +kernel
theorem dX5_key_2 : decode cX5_key 2 = .ok (.putfield 136, 3) := by decide +kernel
theorem dX5_key_5 : decode cX5_key 5 = .ok (.lload_n 1, 1) := by decide +kernel
theorem dX5_key_6 : decode cX5_key 6 = .ok (.lconst 0, 1) := by decide +kernel
theorem dX5_key_7 : decode cX5_key 7 = .ok (.lcmp, 1) := by decide +kernel
theorem dX5_key_8 : decode cX5_key 8 = .ok (.ifCond .lt 17, 3) := by decide +kernel
theorem dX5_key_11 : decode cX5_key 11 = .ok (.lload_n 3, 1) := by decide +kernel
theorem dX5_key_12 : decode cX5_key 12 = .ok (.lload_n 1, 1) := by decide +kernel
theorem dX5_key_13 : decode cX5_key 13 = .ok (.lcmp, 1) := by decide +kernel
theorem dX5_key_14 : decode cX5_key 14 = .ok (.ifCond .lt 11, 3) := by decide +kernel
theorem dX5_key_17 : decode cX5_key 17 = .ok (.lload_n 3, 1) := by decide +kernel
theorem dX5_key_18 : decode cX5_key 18 = .ok (.ldc2_w 143, 3) := by decide +kernel
theorem dX5_key_21 : decode cX5_key 21 = .ok (.lcmp, 1) := by decide +kernel
theorem dX5_key_22 : decode cX5_key 22 = .ok (.ifCond .le 6, 3) := by decide +kernel
theorem dX5_key_25 : decode cX5_key 25 = .ok (.bipush (-22), 2) := by decide +kernel
theorem dX5_key_27 : decode cX5_key 27 = .ok (.ireturn, 1) := by decide +kernel
theorem dX5_key_28 : decode cX5_key 28 = .ok (.aload_n 0, 1) := by decide +kernel
theorem dX5_key_29 : decode cX5_key 29 = .ok (.getfield 133, 3) := by decide +kernel
theorem dX5_key_32 : decode cX5_key 32 = .ok (.bipush 15, 2) := by decide +kernel
theorem dX5_key_34 : decode cX5_key 34 = .ok (.if_icmp .ne 6, 3) := by decide +kernel
theorem dX5_key_37 : decode cX5_key 37 = .ok (.bipush (-24), 2) := by decide +kernel
theorem dX5_key_39 : decode cX5_key 39 = .ok (.ireturn, 1) := by decide +kernel
theorem dX5_key_40 : decode cX5_key 40 = .ok (.aload_n 0, 1) := by decide +kernel
theorem dX5_key_41 : decode cX5_key 41 = .ok (.getfield 7, 3) := by decide +kernel
theorem dX5_key_44 : decode cX5_key 44 = .ok (.aload_n 0, 1) := by decide +kernel
theorem dX5_key_45 : decode cX5_key 45 = .ok (.getfield 133, 3) := by decide +kernel
theorem dX5_key_48 : decode cX5_key 48 = .ok (.lload_n 1, 1) := by decide +kernel
theorem dX5_key_49 : decode cX5_key 49 = .ok (.l2i, 1) := by decide +kernel
theorem dX5_key_50 : decode cX5_key 50 = .ok (.iastore, 1) := by decide +kernel
theorem dX5_key_51 : decode cX5_key 51 = .ok (.aload_n 0, 1) := by decide +kernel
theorem dX5_key_52 : decode cX5_key 52 = .ok (.getfield 13, 3) := by decide +kernel
theorem dX5_key_55 : decode cX5_key 55 = .ok (.aload_n 0, 1) := by decide +kernel
theorem dX5_key_56 : decode cX5_key 56 = .ok (.getfield 133, 3) := by decide +kernel
theorem dX5_key_59 : decode cX5_key 59 = .ok (.lload_n 3, 1) := by decide +kernel
theorem dX5_key_60 : decode cX5_key 60 = .ok (.l2i, 1) := by decide +kernel
theorem dX5_key_61 : decode cX5_key 61 = .ok (.iastore, 1) := by decide +kernel
theorem dX5_key_62 : decode cX5_key 62 = .ok (.aload_n 0, 1) := by decide +kernel
theorem dX5_key_63 : decode cX5_key 63 = .ok (.dup, 1) := by decide +kernel
theorem dX5_key_64 : decode cX5_key 64 = .ok (.getfield 133, 3) := by decide +kernel
theorem dX5_key_67 : decode cX5_key 67 = .ok (.iconst 1, 1) := by decide +kernel
theorem dX5_key_68 : decode cX5_key 68 = .ok (.iadd, 1) := by decide +kernel
theorem dX5_key_69 : decode cX5_key 69 = .ok (.putfield 133, 3) := by decide +kernel
theorem dX5_key_72 : decode cX5_key 72 = .ok (.aload_n 0, 1) := by decide +kernel
theorem dX5_key_73 : decode cX5_key 73 = .ok (.getfield 133, 3) := by decide +kernel
theorem dX5_key_76 : decode cX5_key 76 = .ok (.iconst 1, 1) := by decide +kernel
theorem dX5_key_77 : decode cX5_key 77 = .ok (.isub, 1) := by decide +kernel
theorem dX5_key_78 : decode cX5_key 78 = .ok (.ireturn, 1) := by decide +kernel
set_option maxRecDepth 20000 in
theorem ggX5_octet_X5_isKey : GoodIn wsX5_octet wsX5_isKey := goodIn_r _ [9, 10, 11, 12, 8, 13, 14, 15, 16, 17, 18, 19, 20, 21, 22, 23, 24, 25, 26, 27, 28, 29, 30, 31, 32, 33, 34, 35, 36] (by decide +kernel) (by decide +kernel)
set_option maxRecDepth 20000 in
theorem gX5_octet_X5_isKey : GoodIn wsX5_octet (wsV RX5 145 RX5 yX5_isKey wsX5_isKey) := goodIn_app (goodIn_of _ (by decide +kernel)) ggX5_octet_X5_isKey
theorem dX5_octet_0 : decode cX5_octet 0 = .ok (.aload_n 0, 1) := by decide +kernel
theorem dX5_octet_1 : decode cX5_octet 1 = .ok (.iconst 0, 1) := by decide +kernel
theorem dX5_octet_2 : decode cX5_octet 2 = .ok (.putfield 136, 3) := by decide +kernel
theorem dX5_octet_5 : decode cX5_octet 5 = .ok (.aload_n 0, 1) := by decide +kernel
theorem dX5_octet_6 : decode cX5_octet 6 = .ok (.iload_n 1, 1) := by decide +kernel
theorem dX5_octet_7 : decode cX5_octet 7 = .ok (.invokevirtual 145, 3) := by decide +kernel
theorem dX5_octet_10 : decode cX5_octet 10 = .ok (.ifCond .eq 50, 3) := by decide +kernel
theorem dX5_octet_13 : decode cX5_octet 13 = .ok (.aload_n 0, 1) := by decide +kernel
theorem dX5_octet_14 : decode cX5_octet 14 = .ok (.getfield 16, 3) := by decide +kernel
theorem dX5_octet_17 : decode cX5_octet 17 = .ok (.iload_n 1, 1) := by decide +kernel
theorem dX5_octet_18 : decode cX5_octet 18 = .ok (.iaload, 1) := by decide +kernel
theorem dX5_octet_19 : decode cX5_octet 19 = .ok (.bipush 32, 2) := by decide +kernel
theorem dX5_octet_21 : decode cX5_octet 21 = .ok (.if_icmp .ge 39, 3) := by decide +kernel
theorem dX5_octet_24 : decode cX5_octet 24 = .ok (.aload_n 0, 1) := by decide +kernel
theorem dX5_octet_25 : decode cX5_octet 25 = .ok (.getfield 19, 3) := by decide +kernel
theorem dX5_octet_28 : decode cX5_octet 28 = .ok (.iload_n 1, 1) := by decide +kernel
theorem dX5_octet_29 : decode cX5_octet 29 = .ok (.baload, 1) := by decide +kernel
theorem dX5_octet_30 : decode cX5_octet 30 = .ok (.ifCond .ne 30, 3) := by decide +kernel
theorem dX5_octet_33 : decode cX5_octet 33 = .ok (.aload_n 0, 1) := by decide +kernel
theorem dX5_octet_34 : decode cX5_octet 34 = .ok (.getfield 23, 3) := by decide +kernel
theorem dX5_octet_37 : decode cX5_octet 37 = .ok (.bipush 32, 2) := by decide +kernel
theorem dX5_octet_39 : decode cX5_octet 39 = .ok (.iload_n 1, 1) := by decide +kernel
theorem dX5_octet_40 : decode cX5_octet 40 = .ok (.imul, 1) := by decide +kernel
theorem dX5_octet_41 : decode cX5_octet 41 = .ok (.aload_n 0, 1) := by decide +kernel
theorem dX5_octet_42 : decode cX5_octet 42 = .ok (.getfield 16, 3) := by decide +kernel
theorem dX5_octet_45 : decode cX5_octet 45 = .ok (.iload_n 1, 1) := by decide +kernel
theorem dX5_octet_46 : decode cX5_octet 46 = .ok (.iaload, 1) := by decide +kernel
theorem dX5_octet_47 : decode cX5_octet 47 = .ok (.iadd, 1) := by decide +kernel
theorem dX5_octet_48 : decode cX5_octet 48 = .ok (.iload_n 2, 1) := by decide +kernel
theorem dX5_octet_49 : decode cX5_octet 49 = .ok (.bastore, 1) := by decide +kernel
theorem dX5_octet_50 : decode cX5_octet 50 = .ok (.aload_n 0, 1) := by decide +kernel
theorem dX5_octet_51 : decode cX5_octet 51 = .ok (.getfield 16, 3) := by decide +kernel
theorem dX5_octet_54 : decode cX5_octet 54 = .ok (.iload_n 1, 1) := by decide +kernel
theorem dX5_octet_55 : decode cX5_octet 55 = .ok (.dup2, 1) := by decide +kernel
theorem dX5_octet_56 : decode cX5_octet 56 = .ok (.iaload, 1) := by decide +kernel
theorem dX5_octet_57 : decode cX5_octet 57 = .ok (.iconst 1, 1) := by decide +kernel
theorem dX5_octet_58 : decode cX5_octet 58 = .ok (.iadd, 1) := by decide +kernel
theorem dX5_octet_59 : decode cX5_octet 59 = .ok (.iastore, 1) := by decide +kernel
theorem dX5_octet_60 : decode cX5_octet 60 = .ok (.return_, 1) := by decide +kernel
theorem dX5_turn_0 : decode cX5_turn 0 = .ok (.iload_n 0, 1) := by decide +kernel
theorem dX5_turn_1 : decode cX5_turn 1 = .ok (.iload_n 1, 1) := by decide +kernel
theorem dX5_turn_2 : decode cX5_turn 2 = .ok (.iushr, 1) := by decide +kernel
theorem dX5_turn_3 : decode cX5_turn 3 = .ok (.iload_n 0, 1) := by decide +kernel
theorem dX5_turn_4 : decode cX5_turn 4 = .ok (.bipush 32, 2) := by decide +kernel
theorem dX5_turn_6 : decode cX5_turn 6 = .ok (.iload_n 1, 1) := by decide +kernel
theorem dX5_turn_7 : decode cX5_turn 7 = .ok (.isub, 1) := by decide +kernel
theorem dX5_turn_8 : decode cX5_turn 8 = .ok (.ishl, 1) := by decide +kernel
theorem dX5_turn_9 : decode cX5_turn 9 = .ok (.ior, 1) := by decide +kernel
theorem dX5_turn_10 : decode cX5_turn 10 = .ok (.ireturn, 1) := by decide +kernel
theorem dX5_bitAt_0 : decode cX5_bitAt 0 = .ok (.bipush 8, 2) := by decide +kernel
theorem dX5_bitAt_2 : decode cX5_bitAt 2 = .ok (.aload_n 0, 1) := by decide +kernel
theorem dX5_bitAt_3 : decode cX5_bitAt 3 = .ok (.getfield 16, 3) := by decide +kernel
theorem dX5_bitAt_6 : decode cX5_bitAt 6 = .ok (.iload_n 1, 1) := by decide +kernel
theorem dX5_bitAt_7 : decode cX5_bitAt 7 = .ok (.iaload, 1) := by decide +kernel
theorem dX5_bitAt_8 : decode cX5_bitAt 8 = .ok (.imul, 1) := by decide +kernel
theorem dX5_bitAt_9 : decode cX5_bitAt 9 = .ok (.istore 5, 2) := by decide +kernel
theorem dX5_bitAt_11 : decode cX5_bitAt 11 = .ok (.iload 4, 2) := by decide +kernel
theorem dX5_bitAt_13 : decode cX5_bitAt 13 = .ok (.iload 5, 2) := by decide +kernel
theorem dX5_bitAt_15 : decode cX5_bitAt 15 = .ok (.if_icmp .ge 30, 3) := by decide +kernel
theorem dX5_bitAt_18 : decode cX5_bitAt 18 = .ok (.aload_n 0, 1) := by decide +kernel
theorem dX5_bitAt_19 : decode cX5_bitAt 19 = .ok (.getfield 23, 3) := by decide +kernel
theorem dX5_bitAt_22 : decode cX5_bitAt 22 = .ok (.bipush 32, 2) := by decide +kernel
theorem dX5_bitAt_24 : decode cX5_bitAt 24 = .ok (.iload_n 1, 1) := by decide +kernel
theorem dX5_bitAt_25 : decode cX5_bitAt 25 = .ok (.imul, 1) := by decide +kernel
theorem dX5_bitAt_26 : decode cX5_bitAt 26 = .ok (.iload 4, 2) := by decide +kernel
theorem dX5_bitAt_28 : decode cX5_bitAt 28 = .ok (.bipush 8, 2) := by decide +kernel
theorem dX5_bitAt_30 : decode cX5_bitAt 30 = .ok (.idiv, 1) := by decide +kernel
theorem dX5_bitAt_31 : decode cX5_bitAt 31 = .ok (.iadd, 1) := by decide +kernel
theorem dX5_bitAt_32 : decode cX5_bitAt 32 = .ok (.baload, 1) := by decide +kernel
theorem dX5_bitAt_33 : decode cX5_bitAt 33 = .ok (.bipush 7, 2) := by decide +kernel
theorem dX5_bitAt_35 : decode cX5_bitAt 35 = .ok (.iload 4, 2) := by decide +kernel
theorem dX5_bitAt_37 : decode cX5_bitAt 37 = .ok (.bipush 8, 2) := by decide +kernel
theorem dX5_bitAt_39 : decode cX5_bitAt 39 = .ok (.irem, 1) := by decide +kernel
theorem dX5_bitAt_40 : decode cX5_bitAt 40 = .ok (.isub, 1) := by decide +kernel
theorem dX5_bitAt_41 : decode cX5_bitAt 41 = .ok (.ishr, 1) := by decide +kernel
theorem dX5_bitAt_42 : decode cX5_bitAt 42 = .ok (.iconst 1, 1) := by decide +kernel
theorem dX5_bitAt_43 : decode cX5_bitAt 43 = .ok (.iand, 1) := by decide +kernel
theorem dX5_bitAt_44 : decode cX5_bitAt 44 = .ok (.ireturn, 1) := by decide +kernel
theorem dX5_bitAt_45 : decode cX5_bitAt 45 = .ok (.iload 4, 2) := by decide +kernel
theorem dX5_bitAt_47 : decode cX5_bitAt 47 = .ok (.iload 5, 2) := by decide +kernel
theorem dX5_bitAt_49 : decode cX5_bitAt 49 = .ok (.bipush 55, 2) := by decide +kernel
theorem dX5_bitAt_51 : decode cX5_bitAt 51 = .ok (.iadd, 1) := by decide +kernel
theorem dX5_bitAt_52 : decode cX5_bitAt 52 = .ok (.if_icmp .ge 17, 3) := by decide +kernel
theorem dX5_bitAt_55 : decode cX5_bitAt 55 = .ok (.lload_n 2, 1) := by decide +kernel
theorem dX5_bitAt_56 : decode cX5_bitAt 56 = .ok (.bipush 54, 2) := by decide +kernel
theorem dX5_bitAt_58 : decode cX5_bitAt 58 = .ok (.iload 4, 2) := by decide +kernel
theorem dX5_bitAt_60 : decode cX5_bitAt 60 = .ok (.iload 5, 2) := by decide +kernel
theorem dX5_bitAt_62 : decode cX5_bitAt 62 = .ok (.isub, 1) := by decide +kernel
theorem dX5_bitAt_63 : decode cX5_bitAt 63 = .ok (.isub, 1) := by decide +kernel
theorem dX5_bitAt_64 : decode cX5_bitAt 64 = .ok (.lshr, 1) := by decide +kernel
theorem dX5_bitAt_65 : decode cX5_bitAt 65 = .ok (.lconst 1, 1) := by decide +kernel
theorem dX5_bitAt_66 : decode cX5_bitAt 66 = .ok (.land, 1) := by decide +kernel
theorem dX5_bitAt_67 : decode cX5_bitAt 67 = .ok (.l2i, 1) := by decide +kernel
theorem dX5_bitAt_68 : decode cX5_bitAt 68 = .ok (.ireturn, 1) := by decide +kernel
theorem dX5_bitAt_69 : decode cX5_bitAt 69 = .ok (.iload 4, 2) := by decide +kernel
theorem dX5_bitAt_71 : decode cX5_bitAt 71 = .ok (.iload 5, 2) := by decide +kernel
theorem dX5_bitAt_73 : decode cX5_bitAt 73 = .ok (.bipush 56, 2) := by decide +kernel
theorem dX5_bitAt_75 : decode cX5_bitAt 75 = .ok (.iadd, 1) := by decide +kernel
theorem dX5_bitAt_76 : decode cX5_bitAt 76 = .ok (.if_icmp .ne 5, 3) := by decide +kernel
theorem dX5_bitAt_79 : decode cX5_bitAt 79 = .ok (.iconst 1, 1) := by decide +kernel
theorem dX5_bitAt_80 : decode cX5_bitAt 80 = .ok (.ireturn, 1) := by decide +kernel
theorem dX5_bitAt_81 : decode cX5_bitAt 81 = .ok (.iload 4, 2) := by decide +kernel
theorem dX5_bitAt_83 : decode cX5_bitAt 83 = .ok (.sipush 448, 3) := by decide +kernel
theorem dX5_bitAt_86 : decode cX5_bitAt 86 = .ok (.if_icmp .ge 7, 3) := by decide +kernel
theorem dX5_bitAt_89 : decode cX5_bitAt 89 = .ok (.iconst 0, 1) := by decide +kernel
theorem dX5_bitAt_90 : decode cX5_bitAt 90 = .ok (.goto 19, 3) := by decide +kernel
theorem dX5_bitAt_93 : decode cX5_bitAt 93 = .ok (.iload 5, 2) := by decide +kernel
theorem dX5_bitAt_95 : decode cX5_bitAt 95 = .ok (.bipush 56, 2) := by decide +kernel
theorem dX5_bitAt_97 : decode cX5_bitAt 97 = .ok (.iadd, 1) := by decide +kernel
theorem dX5_bitAt_98 : decode cX5_bitAt 98 = .ok (.i2l, 1) := by decide +kernel
theorem dX5_bitAt_99 : decode cX5_bitAt 99 = .ok (.sipush 511, 3) := by decide +kernel
theorem dX5_bitAt_102 : decode cX5_bitAt 102 = .ok (.iload 4, 2) := by decide +kernel
theorem dX5_bitAt_104 : decode cX5_bitAt 104 = .ok (.isub, 1) := by decide +kernel
theorem dX5_bitAt_105 : decode cX5_bitAt 105 = .ok (.lshr, 1) := by decide +kernel
theorem dX5_bitAt_106 : decode cX5_bitAt 106 = .ok (.lconst 1, 1) := by decide +kernel
theorem dX5_bitAt_107 : decode cX5_bitAt 107 = .ok (.land, 1) := by decide +kernel
theorem dX5_bitAt_108 : decode cX5_bitAt 108 = .ok (.l2i, 1) := by decide +kernel
theorem dX5_bitAt_109 : decode cX5_bitAt 109 = .ok (.ireturn, 1) := by decide +kernel
set_option maxRecDepth 20000 in
theorem ggX5_reckon_X5_bitAt : GoodIn wsX5_reckon wsX5_bitAt := goodIn_ca (goodIn_r _ [11, 12, 13, 17, 18, 19, 20, 21, 22, 23, 24, 25, 26, 27, 28, 29, 30, 31, 32, 33, 34, 35, 36, 37, 38, 39] (by decide +kernel) (by decide +kernel)) (goodIn_sub (fun _ h => List.mem_cons_of_mem _ (List.mem_append_right _ h)) (by decide +kernel))
set_option maxRecDepth 20000 in
theorem gX5_reckon_X5_bitAt : GoodIn wsX5_reckon (wsV RX5 149 RX5 yX5_bitAt wsX5_bitAt) := goodIn_app (goodIn_of _ (by decide +kernel)) ggX5_reckon_X5_bitAt
set_option maxRecDepth 20000 in
theorem ggX5_reckon_X5_turn : GoodIn wsX5_reckon wsX5_turn := goodIn_r _ [16] (by decide +kernel) (by decide +kernel)
set_option maxRecDepth 20000 in
theorem gX5_reckon_X5_turn : GoodIn wsX5_reckon (va_wsS RX5 153 yX5_turn wsX5_turn) := goodIn_app (goodIn_of _ (by decide +kernel)) ggX5_reckon_X5_turn
theorem dX5_reckon_0 : decode cX5_reckon 0 = .ok (.iconst 0, 1) := by decide +kernel
theorem dX5_reckon_1 : decode cX5_reckon 1 = .ok (.istore 4, 2) := by decide +kernel
theorem dX5_reckon_3 : decode cX5_reckon 3 = .ok (.iload 4, 2) := by decide +kernel
theorem dX5_reckon_5 : decode cX5_reckon 5 = .ok (.bipush 64, 2) := by decide +kernel
theorem dX5_reckon_7 : decode cX5_reckon 7 = .ok (.if_icmp .ge 172, 3) := by decide +kernel
theorem dX5_reckon_10 : decode cX5_reckon 10 = .ok (.aload_n 0, 1) := by decide +kernel
theorem dX5_reckon_11 : decode cX5_reckon 11 = .ok (.getfield 49, 3) := by decide +kernel
theorem dX5_reckon_14 : decode cX5_reckon 14 = .ok (.iload 4, 2) := by decide +kernel
theorem dX5_reckon_16 : decode cX5_reckon 16 = .ok (.iconst 0, 1) := by decide +kernel
theorem dX5_reckon_17 : decode cX5_reckon 17 = .ok (.iastore, 1) := by decide +kernel
theorem dX5_reckon_18 : decode cX5_reckon 18 = .ok (.iconst 0, 1) := by decide +kernel
theorem dX5_reckon_19 : decode cX5_reckon 19 = .ok (.istore 5, 2) := by decide +kernel
theorem dX5_reckon_21 : decode cX5_reckon 21 = .ok (.iload 5, 2) := by decide +kernel
theorem dX5_reckon_23 : decode cX5_reckon 23 = .ok (.bipush 32, 2) := by decide +kernel
theorem dX5_reckon_25 : decode cX5_reckon 25 = .ok (.if_icmp .ge 47, 3) := by decide +kernel
theorem dX5_reckon_28 : decode cX5_reckon 28 = .ok (.iload 4, 2) := by decide +kernel
theorem dX5_reckon_30 : decode cX5_reckon 30 = .ok (.bipush 16, 2) := by decide +kernel
theorem dX5_reckon_32 : decode cX5_reckon 32 = .ok (.if_icmp .ge 40, 3) := by decide +kernel
theorem dX5_reckon_35 : decode cX5_reckon 35 = .ok (.aload_n 0, 1) := by decide +kernel
theorem dX5_reckon_36 : decode cX5_reckon 36 = .ok (.getfield 49, 3) := by decide +kernel
theorem dX5_reckon_39 : decode cX5_reckon 39 = .ok (.iload 4, 2) := by decide +kernel
theorem dX5_reckon_41 : decode cX5_reckon 41 = .ok (.iconst 2, 1) := by decide +kernel
theorem dX5_reckon_42 : decode cX5_reckon 42 = .ok (.aload_n 0, 1) := by decide +kernel
theorem dX5_reckon_43 : decode cX5_reckon 43 = .ok (.getfield 49, 3) := by decide +kernel
theorem dX5_reckon_46 : decode cX5_reckon 46 = .ok (.iload 4, 2) := by decide +kernel
theorem dX5_reckon_48 : decode cX5_reckon 48 = .ok (.iaload, 1) := by decide +kernel
theorem dX5_reckon_49 : decode cX5_reckon 49 = .ok (.imul, 1) := by decide +kernel
theorem dX5_reckon_50 : decode cX5_reckon 50 = .ok (.aload_n 0, 1) := by decide +kernel
theorem dX5_reckon_51 : decode cX5_reckon 51 = .ok (.iload_n 1, 1) := by decide +kernel
theorem dX5_reckon_52 : decode cX5_reckon 52 = .ok (.lload_n 2, 1) := by decide +kernel
theorem dX5_reckon_53 : decode cX5_reckon 53 = .ok (.bipush 32, 2) := by decide +kernel
theorem dX5_reckon_55 : decode cX5_reckon 55 = .ok (.iload 4, 2) := by decide +kernel
theorem dX5_reckon_57 : decode cX5_reckon 57 = .ok (.imul, 1) := by decide +kernel
theorem dX5_reckon_58 : decode cX5_reckon 58 = .ok (.iload 5, 2) := by decide +kernel
theorem dX5_reckon_60 : decode cX5_reckon 60 = .ok (.iadd, 1) := by decide +kernel
theorem dX5_reckon_61 : decode cX5_reckon 61 = .ok (.invokevirtual 149, 3) := by decide +kernel
theorem dX5_reckon_64 : decode cX5_reckon 64 = .ok (.iadd, 1) := by decide +kernel
theorem dX5_reckon_65 : decode cX5_reckon 65 = .ok (.iastore, 1) := by decide +kernel
theorem dX5_reckon_66 : decode cX5_reckon 66 = .ok (.iinc 5 1, 3) := by decide +kernel
theorem dX5_reckon_69 : decode cX5_reckon 69 = .ok (.goto (-48), 3) := by decide +kernel
theorem dX5_reckon_72 : decode cX5_reckon 72 = .ok (.iload 4, 2) := by decide +kernel
theorem dX5_reckon_74 : decode cX5_reckon 74 = .ok (.bipush 15, 2) := by decide +kernel
theorem dX5_reckon_76 : decode cX5_reckon 76 = .ok (.if_icmp .le 97, 3) := by decide +kernel
theorem dX5_reckon_79 : decode cX5_reckon 79 = .ok (.aload_n 0, 1) := by decide +kernel
theorem dX5_reckon_80 : decode cX5_reckon 80 = .ok (.getfield 49, 3) := by decide +kernel
theorem dX5_reckon_83 : decode cX5_reckon 83 = .ok (.iload 4, 2) := by decide +kernel
theorem dX5_reckon_85 : decode cX5_reckon 85 = .ok (.bipush 15, 2) := by decide +kernel
theorem dX5_reckon_87 : decode cX5_reckon 87 = .ok (.isub, 1) := by decide +kernel
theorem dX5_reckon_88 : decode cX5_reckon 88 = .ok (.iaload, 1) := by decide +kernel
theorem dX5_reckon_89 : decode cX5_reckon 89 = .ok (.istore 5, 2) := by decide +kernel
theorem dX5_reckon_91 : decode cX5_reckon 91 = .ok (.aload_n 0, 1) := by decide +kernel
theorem dX5_reckon_92 : decode cX5_reckon 92 = .ok (.getfield 49, 3) := by decide +kernel
theorem dX5_reckon_95 : decode cX5_reckon 95 = .ok (.iload 4, 2) := by decide +kernel
theorem dX5_reckon_97 : decode cX5_reckon 97 = .ok (.iconst 2, 1) := by decide +kernel
theorem dX5_reckon_98 : decode cX5_reckon 98 = .ok (.isub, 1) := by decide +kernel
theorem dX5_reckon_99 : decode cX5_reckon 99 = .ok (.iaload, 1) := by decide +kernel
theorem dX5_reckon_100 : decode cX5_reckon 100 = .ok (.istore 6, 2) := by decide +kernel
theorem dX5_reckon_102 : decode cX5_reckon 102 = .ok (.aload_n 0, 1) := by decide +kernel
theorem dX5_reckon_103 : decode cX5_reckon 103 = .ok (.getfield 49, 3) := by decide +kernel
theorem dX5_reckon_106 : decode cX5_reckon 106 = .ok (.iload 4, 2) := by decide +kernel
theorem dX5_reckon_108 : decode cX5_reckon 108 = .ok (.aload_n 0, 1) := by decide +kernel
theorem dX5_reckon_109 : decode cX5_reckon 109 = .ok (.getfield 49, 3) := by decide +kernel
theorem dX5_reckon_112 : decode cX5_reckon 112 = .ok (.iload 4, 2) := by decide +kernel
theorem dX5_reckon_114 : decode cX5_reckon 114 = .ok (.bipush 16, 2) := by decide +kernel
theorem dX5_reckon_116 : decode cX5_reckon 116 = .ok (.isub, 1) := by decide +kernel
theorem dX5_reckon_117 : decode cX5_reckon 117 = .ok (.iaload, 1) := by decide +kernel
theorem dX5_reckon_118 : decode cX5_reckon 118 = .ok (.iload 5, 2) := by decide +kernel
theorem dX5_reckon_120 : decode cX5_reckon 120 = .ok (.bipush 7, 2) := by decide +kernel
theorem dX5_reckon_122 : decode cX5_reckon 122 = .ok (.invokestatic 153, 3) := by decide +kernel
theorem dX5_reckon_125 : decode cX5_reckon 125 = .ok (.iload 5, 2) := by decide +kernel
theorem dX5_reckon_127 : decode cX5_reckon 127 = .ok (.bipush 18, 2) := by decide +kernel
theorem dX5_reckon_129 : decode cX5_reckon 129 = .ok (.invokestatic 153, 3) := by decide +kernel
theorem dX5_reckon_132 : decode cX5_reckon 132 = .ok (.ixor, 1) := by decide +kernel
theorem dX5_reckon_133 : decode cX5_reckon 133 = .ok (.iload 5, 2) := by decide +kernel
theorem dX5_reckon_135 : decode cX5_reckon 135 = .ok (.iconst 3, 1) := by decide +kernel
theorem dX5_reckon_136 : decode cX5_reckon 136 = .ok (.iushr, 1) := by decide +kernel
theorem dX5_reckon_137 : decode cX5_reckon 137 = .ok (.ixor, 1) := by decide +kernel
theorem dX5_reckon_138 : decode cX5_reckon 138 = .ok (.iadd, 1) := by decide +kernel
theorem dX5_reckon_139 : decode cX5_reckon 139 = .ok (.aload_n 0, 1) := by decide +kernel
theorem dX5_reckon_140 : decode cX5_reckon 140 = .ok (.getfield 49, 3) := by decide +kernel
theorem dX5_reckon_143 : decode cX5_reckon 143 = .ok (.iload 4, 2) := by decide +kernel
theorem dX5_reckon_145 : decode cX5_reckon 145 = .ok (.bipush 7, 2) := by decide +kernel
theorem dX5_reckon_147 : decode cX5_reckon 147 = .ok (.isub, 1) := by decide +kernel
theorem dX5_reckon_148 : decode cX5_reckon 148 = .ok (.iaload, 1) := by decide +kernel
theorem dX5_reckon_149 : decode cX5_reckon 149 = .ok (.iadd, 1) := by decide +kernel
theorem dX5_reckon_150 : decode cX5_reckon 150 = .ok (.iload 6, 2) := by decide +kernel
theorem dX5_reckon_152 : decode cX5_reckon 152 = .ok (.bipush 17, 2) := by decide +kernel
theorem dX5_reckon_154 : decode cX5_reckon 154 = .ok (.invokestatic 153, 3) := by decide +kernel
theorem dX5_reckon_157 : decode cX5_reckon 157 = .ok (.iload 6, 2) := by decide +kernel
theorem dX5_reckon_159 : decode cX5_reckon 159 = .ok (.bipush 19, 2) := by decide +kernel
theorem dX5_reckon_161 : decode cX5_reckon 161 = .ok (.invokestatic 153, 3) := by decide +kernel
theorem dX5_reckon_164 : decode cX5_reckon 164 = .ok (.ixor, 1) := by decide +kernel
theorem dX5_reckon_165 : decode cX5_reckon 165 = .ok (.iload 6, 2) := by decide +kernel
theorem dX5_reckon_167 : decode cX5_reckon 167 = .ok (.bipush 10, 2) := by decide +kernel
theorem dX5_reckon_169 : decode cX5_reckon 169 = .ok (.iushr, 1) := by decide +kernel
theorem dX5_reckon_170 : decode cX5_reckon 170 = .ok (.ixor, 1) := by decide +kernel
theorem dX5_reckon_171 : decode cX5_reckon 171 = .ok (.iadd, 1) := by decide +kernel
theorem dX5_reckon_172 : decode cX5_reckon 172 = .ok (.iastore, 1) := by decide +kernel
theorem dX5_reckon_173 : decode cX5_reckon 173 = .ok (.iinc 4 1, 3) := by decide +kernel
theorem dX5_reckon_176 : decode cX5_reckon 176 = .ok (.goto (-173), 3) := by decide +kernel
theorem dX5_reckon_179 : decode cX5_reckon 179 = .ok (.iconst 0, 1) := by decide +kernel
theorem dX5_reckon_180 : decode cX5_reckon 180 = .ok (.istore 4, 2) := by decide +kernel
theorem dX5_reckon_182 : decode cX5_reckon 182 = .ok (.iload 4, 2) := by decide +kernel
theorem dX5_reckon_184 : decode cX5_reckon 184 = .ok (.bipush 8, 2) := by decide +kernel
theorem dX5_reckon_186 : decode cX5_reckon 186 = .ok (.if_icmp .ge 23, 3) := by decide +kernel
theorem dX5_reckon_189 : decode cX5_reckon 189 = .ok (.aload_n 0, 1) := by decide +kernel
theorem dX5_reckon_190 : decode cX5_reckon 190 = .ok (.getfield 52, 3) := by decide +kernel
theorem dX5_reckon_193 : decode cX5_reckon 193 = .ok (.iload 4, 2) := by decide +kernel
theorem dX5_reckon_195 : decode cX5_reckon 195 = .ok (.aload_n 0, 1) := by decide +kernel
theorem dX5_reckon_196 : decode cX5_reckon 196 = .ok (.getfield 130, 3) := by decide +kernel
theorem dX5_reckon_199 : decode cX5_reckon 199 = .ok (.iload 4, 2) := by decide +kernel
theorem dX5_reckon_201 : decode cX5_reckon 201 = .ok (.iaload, 1) := by decide +kernel
theorem dX5_reckon_202 : decode cX5_reckon 202 = .ok (.iastore, 1) := by decide +kernel
theorem dX5_reckon_203 : decode cX5_reckon 203 = .ok (.iinc 4 1, 3) := by decide +kernel
theorem dX5_reckon_206 : decode cX5_reckon 206 = .ok (.goto (-24), 3) := by decide +kernel
theorem dX5_reckon_209 : decode cX5_reckon 209 = .ok (.iconst 0, 1) := by decide +kernel
theorem dX5_reckon_210 : decode cX5_reckon 210 = .ok (.istore 4, 2) := by decide +kernel
theorem dX5_reckon_212 : decode cX5_reckon 212 = .ok (.iload 4, 2) := by decide +kernel
theorem dX5_reckon_214 : decode cX5_reckon 214 = .ok (.bipush 64, 2) := by decide +kernel
theorem dX5_reckon_216 : decode cX5_reckon 216 = .ok (.if_icmp .ge 212, 3) := by decide +kernel
theorem dX5_reckon_219 : decode cX5_reckon 219 = .ok (.aload_n 0, 1) := by decide +kernel
theorem dX5_reckon_220 : decode cX5_reckon 220 = .ok (.getfield 52, 3) := by decide +kernel
theorem dX5_reckon_223 : decode cX5_reckon 223 = .ok (.iconst 4, 1) := by decide +kernel
theorem dX5_reckon_224 : decode cX5_reckon 224 = .ok (.iaload, 1) := by decide +kernel
theorem dX5_reckon_225 : decode cX5_reckon 225 = .ok (.istore 5, 2) := by decide +kernel
theorem dX5_reckon_227 : decode cX5_reckon 227 = .ok (.aload_n 0, 1) := by decide +kernel
theorem dX5_reckon_228 : decode cX5_reckon 228 = .ok (.getfield 52, 3) := by decide +kernel
theorem dX5_reckon_231 : decode cX5_reckon 231 = .ok (.iconst 0, 1) := by decide +kernel
theorem dX5_reckon_232 : decode cX5_reckon 232 = .ok (.iaload, 1) := by decide +kernel
theorem dX5_reckon_233 : decode cX5_reckon 233 = .ok (.istore 6, 2) := by decide +kernel
theorem dX5_reckon_235 : decode cX5_reckon 235 = .ok (.aload_n 0, 1) := by decide +kernel
theorem dX5_reckon_236 : decode cX5_reckon 236 = .ok (.getfield 52, 3) := by decide +kernel
theorem dX5_reckon_239 : decode cX5_reckon 239 = .ok (.bipush 7, 2) := by decide +kernel
theorem dX5_reckon_241 : decode cX5_reckon 241 = .ok (.iaload, 1) := by decide +kernel
theorem dX5_reckon_242 : decode cX5_reckon 242 = .ok (.iload 5, 2) := by decide +kernel
theorem dX5_reckon_244 : decode cX5_reckon 244 = .ok (.bipush 6, 2) := by decide +kernel
theorem dX5_reckon_246 : decode cX5_reckon 246 = .ok (.invokestatic 153, 3) := by decide +kernel
theorem dX5_reckon_249 : decode cX5_reckon 249 = .ok (.iload 5, 2) := by decide +kernel
theorem dX5_reckon_251 : decode cX5_reckon 251 = .ok (.bipush 11, 2) := by decide +kernel
theorem dX5_reckon_253 : decode cX5_reckon 253 = .ok (.invokestatic 153, 3) := by decide +kernel
theorem dX5_reckon_256 : decode cX5_reckon 256 = .ok (.ixor, 1) := by decide +kernel
theorem dX5_reckon_257 : decode cX5_reckon 257 = .ok (.iload 5, 2) := by decide +kernel
theorem dX5_reckon_259 : decode cX5_reckon 259 = .ok (.bipush 25, 2) := by decide +kernel
theorem dX5_reckon_261 : decode cX5_reckon 261 = .ok (.invokestatic 153, 3) := by decide +kernel
theorem dX5_reckon_264 : decode cX5_reckon 264 = .ok (.ixor, 1) := by decide +kernel
theorem dX5_reckon_265 : decode cX5_reckon 265 = .ok (.iadd, 1) := by decide +kernel
theorem dX5_reckon_266 : decode cX5_reckon 266 = .ok (.iload 5, 2) := by decide +kernel
theorem dX5_reckon_268 : decode cX5_reckon 268 = .ok (.aload_n 0, 1) := by decide +kernel
theorem dX5_reckon_269 : decode cX5_reckon 269 = .ok (.getfield 52, 3) := by decide +kernel
theorem dX5_reckon_272 : decode cX5_reckon 272 = .ok (.iconst 5, 1) := by decide +kernel
theorem dX5_reckon_273 : decode cX5_reckon 273 = .ok (.iaload, 1) := by decide +kernel
theorem dX5_reckon_274 : decode cX5_reckon 274 = .ok (.iand, 1) := by decide +kernel
theorem dX5_reckon_275 : decode cX5_reckon 275 = .ok (.iload 5, 2) := by decide +kernel
theorem dX5_reckon_277 : decode cX5_reckon 277 = .ok (.iconst (-1), 1) := by decide +kernel
theorem dX5_reckon_278 : decode cX5_reckon 278 = .ok (.ixor, 1) := by decide +kernel
theorem dX5_reckon_279 : decode cX5_reckon 279 = .ok (.aload_n 0, 1) := by decide +kernel
theorem dX5_reckon_280 : decode cX5_reckon 280 = .ok (.getfield 52, 3) := by decide +kernel
theorem dX5_reckon_283 : decode cX5_reckon 283 = .ok (.bipush 6, 2) := by decide +kernel
theorem dX5_reckon_285 : decode cX5_reckon 285 = .ok (.iaload, 1) := by decide +kernel
theorem dX5_reckon_286 : decode cX5_reckon 286 = .ok (.iand, 1) := by decide +kernel
theorem dX5_reckon_287 : decode cX5_reckon 287 = .ok (.ixor, 1) := by decide +kernel
theorem dX5_reckon_288 : decode cX5_reckon 288 = .ok (.iadd, 1) := by decide +kernel
theorem dX5_reckon_289 : decode cX5_reckon 289 = .ok (.aload_n 0, 1) := by decide +kernel
theorem dX5_reckon_290 : decode cX5_reckon 290 = .ok (.getfield 119, 3) := by decide +kernel
theorem dX5_reckon_293 : decode cX5_reckon 293 = .ok (.iload 4, 2) := by decide +kernel
theorem dX5_reckon_295 : decode cX5_reckon 295 = .ok (.iaload, 1) := by decide +kernel
theorem dX5_reckon_296 : decode cX5_reckon 296 = .ok (.iadd, 1) := by decide +kernel
theorem dX5_reckon_297 : decode cX5_reckon 297 = .ok (.aload_n 0, 1) := by decide +kernel
theorem dX5_reckon_298 : decode cX5_reckon 298 = .ok (.getfield 49, 3) := by decide +kernel
theorem dX5_reckon_301 : decode cX5_reckon 301 = .ok (.iload 4, 2) := by decide +kernel
theorem dX5_reckon_303 : decode cX5_reckon 303 = .ok (.iaload, 1) := by decide +kernel
theorem dX5_reckon_304 : decode cX5_reckon 304 = .ok (.iadd, 1) := by decide +kernel
theorem dX5_reckon_305 : decode cX5_reckon 305 = .ok (.istore 7, 2) := by decide +kernel
theorem dX5_reckon_307 : decode cX5_reckon 307 = .ok (.iload 6, 2) := by decide +kernel
theorem dX5_reckon_309 : decode cX5_reckon 309 = .ok (.iconst 2, 1) := by decide +kernel
theorem dX5_reckon_310 : decode cX5_reckon 310 = .ok (.invokestatic 153, 3) := by decide +kernel
theorem dX5_reckon_313 : decode cX5_reckon 313 = .ok (.iload 6, 2) := by decide +kernel
theorem dX5_reckon_315 : decode cX5_reckon 315 = .ok (.bipush 13, 2) := by decide +kernel
theorem dX5_reckon_317 : decode cX5_reckon 317 = .ok (.invokestatic 153, 3) := by decide +kernel
theorem dX5_reckon_320 : decode cX5_reckon 320 = .ok (.ixor, 1) := by decide +kernel
theorem dX5_reckon_321 : decode cX5_reckon 321 = .ok (.iload 6, 2) := by decide +kernel
theorem dX5_reckon_323 : decode cX5_reckon 323 = .ok (.bipush 22, 2) := by decide +kernel
theorem dX5_reckon_325 : decode cX5_reckon 325 = .ok (.invokestatic 153, 3) := by decide +kernel
theorem dX5_reckon_328 : decode cX5_reckon 328 = .ok (.ixor, 1) := by decide +kernel
theorem dX5_reckon_329 : decode cX5_reckon 329 = .ok (.iload 6, 2) := by decide +kernel
theorem dX5_reckon_331 : decode cX5_reckon 331 = .ok (.aload_n 0, 1) := by decide +kernel
theorem dX5_reckon_332 : decode cX5_reckon 332 = .ok (.getfield 52, 3) := by decide +kernel
theorem dX5_reckon_335 : decode cX5_reckon 335 = .ok (.iconst 1, 1) := by decide +kernel
theorem dX5_reckon_336 : decode cX5_reckon 336 = .ok (.iaload, 1) := by decide +kernel
theorem dX5_reckon_337 : decode cX5_reckon 337 = .ok (.iand, 1) := by decide +kernel
theorem dX5_reckon_338 : decode cX5_reckon 338 = .ok (.iload 6, 2) := by decide +kernel
theorem dX5_reckon_340 : decode cX5_reckon 340 = .ok (.aload_n 0, 1) := by decide +kernel
theorem dX5_reckon_341 : decode cX5_reckon 341 = .ok (.getfield 52, 3) := by decide +kernel
theorem dX5_reckon_344 : decode cX5_reckon 344 = .ok (.iconst 2, 1) := by decide +kernel
theorem dX5_reckon_345 : decode cX5_reckon 345 = .ok (.iaload, 1) := by decide +kernel
theorem dX5_reckon_346 : decode cX5_reckon 346 = .ok (.iand, 1) := by decide +kernel
theorem dX5_reckon_347 : decode cX5_reckon 347 = .ok (.ixor, 1) := by decide +kernel
theorem dX5_reckon_348 : decode cX5_reckon 348 = .ok (.aload_n 0, 1) := by decide +kernel
theorem dX5_reckon_349 : decode cX5_reckon 349 = .ok (.getfield 52, 3) := by decide +kernel
theorem dX5_reckon_352 : decode cX5_reckon 352 = .ok (.iconst 1, 1) := by decide +kernel
theorem dX5_reckon_353 : decode cX5_reckon 353 = .ok (.iaload, 1) := by decide +kernel
theorem dX5_reckon_354 : decode cX5_reckon 354 = .ok (.aload_n 0, 1) := by decide +kernel
theorem dX5_reckon_355 : decode cX5_reckon 355 = .ok (.getfield 52, 3) := by decide +kernel
theorem dX5_reckon_358 : decode cX5_reckon 358 = .ok (.iconst 2, 1) := by decide +kernel
theorem dX5_reckon_359 : decode cX5_reckon 359 = .ok (.iaload, 1) := by decide +kernel
theorem dX5_reckon_360 : decode cX5_reckon 360 = .ok (.iand, 1) := by decide +kernel
theorem dX5_reckon_361 : decode cX5_reckon 361 = .ok (.ixor, 1) := by decide +kernel
theorem dX5_reckon_362 : decode cX5_reckon 362 = .ok (.iadd, 1) := by decide +kernel
theorem dX5_reckon_363 : decode cX5_reckon 363 = .ok (.istore 8, 2) := by decide +kernel
theorem dX5_reckon_365 : decode cX5_reckon 365 = .ok (.bipush 7, 2) := by decide +kernel
theorem dX5_reckon_367 : decode cX5_reckon 367 = .ok (.istore 9, 2) := by decide +kernel
theorem dX5_reckon_369 : decode cX5_reckon 369 = .ok (.iload 9, 2) := by decide +kernel
theorem dX5_reckon_371 : decode cX5_reckon 371 = .ok (.ifCond .le 25, 3) := by decide +kernel
theorem dX5_reckon_374 : decode cX5_reckon 374 = .ok (.aload_n 0, 1) := by decide +kernel
theorem dX5_reckon_375 : decode cX5_reckon 375 = .ok (.getfield 52, 3) := by decide +kernel
theorem dX5_reckon_378 : decode cX5_reckon 378 = .ok (.iload 9, 2) := by decide +kernel
theorem dX5_reckon_380 : decode cX5_reckon 380 = .ok (.aload_n 0, 1) := by decide +kernel
theorem dX5_reckon_381 : decode cX5_reckon 381 = .ok (.getfield 52, 3) := by decide +kernel
theorem dX5_reckon_384 : decode cX5_reckon 384 = .ok (.iload 9, 2) := by decide +kernel
theorem dX5_reckon_386 : decode cX5_reckon 386 = .ok (.iconst 1, 1) := by decide +kernel
theorem dX5_reckon_387 : decode cX5_reckon 387 = .ok (.isub, 1) := by decide +kernel
theorem dX5_reckon_388 : decode cX5_reckon 388 = .ok (.iaload, 1) := by decide +kernel
theorem dX5_reckon_389 : decode cX5_reckon 389 = .ok (.iastore, 1) := by decide +kernel
theorem dX5_reckon_390 : decode cX5_reckon 390 = .ok (.iinc 9 (-1), 3) := by decide +kernel
theorem dX5_reckon_393 : decode cX5_reckon 393 = .ok (.goto (-24), 3) := by decide +kernel
theorem dX5_reckon_396 : decode cX5_reckon 396 = .ok (.aload_n 0, 1) := by decide +kernel
theorem dX5_reckon_397 : decode cX5_reckon 397 = .ok (.getfield 52, 3) := by decide +kernel
theorem dX5_reckon_400 : decode cX5_reckon 400 = .ok (.iconst 4, 1) := by decide +kernel
theorem dX5_reckon_401 : decode cX5_reckon 401 = .ok (.aload_n 0, 1) := by decide +kernel
theorem dX5_reckon_402 : decode cX5_reckon 402 = .ok (.getfield 52, 3) := by decide +kernel
theorem dX5_reckon_405 : decode cX5_reckon 405 = .ok (.iconst 4, 1) := by decide +kernel
theorem dX5_reckon_406 : decode cX5_reckon 406 = .ok (.iaload, 1) := by decide +kernel
theorem dX5_reckon_407 : decode cX5_reckon 407 = .ok (.iload 7, 2) := by decide +kernel
theorem dX5_reckon_409 : decode cX5_reckon 409 = .ok (.iadd, 1) := by decide +kernel
theorem dX5_reckon_410 : decode cX5_reckon 410 = .ok (.iastore, 1) := by decide +kernel
theorem dX5_reckon_411 : decode cX5_reckon 411 = .ok (.aload_n 0, 1) := by decide +kernel
theorem dX5_reckon_412 : decode cX5_reckon 412 = .ok (.getfield 52, 3) := by decide +kernel
theorem dX5_reckon_415 : decode cX5_reckon 415 = .ok (.iconst 0, 1) := by decide +kernel
theorem dX5_reckon_416 : decode cX5_reckon 416 = .ok (.iload 7, 2) := by decide +kernel
theorem dX5_reckon_418 : decode cX5_reckon 418 = .ok (.iload 8, 2) := by decide +kernel
theorem dX5_reckon_420 : decode cX5_reckon 420 = .ok (.iadd, 1) := by decide +kernel
theorem dX5_reckon_421 : decode cX5_reckon 421 = .ok (.iastore, 1) := by decide +kernel
theorem dX5_reckon_422 : decode cX5_reckon 422 = .ok (.iinc 4 1, 3) := by decide +kernel
theorem dX5_reckon_425 : decode cX5_reckon 425 = .ok (.goto (-213), 3) := by decide +kernel
theorem dX5_reckon_428 : decode cX5_reckon 428 = .ok (.iconst 0, 1) := by decide +kernel
theorem dX5_reckon_429 : decode cX5_reckon 429 = .ok (.istore 4, 2) := by decide +kernel
theorem dX5_reckon_431 : decode cX5_reckon 431 = .ok (.iload 4, 2) := by decide +kernel
theorem dX5_reckon_433 : decode cX5_reckon 433 = .ok (.bipush 32, 2) := by decide +kernel
theorem dX5_reckon_435 : decode cX5_reckon 435 = .ok (.if_icmp .ge 47, 3) := by decide +kernel
theorem dX5_reckon_438 : decode cX5_reckon 438 = .ok (.aload_n 0, 1) := by decide +kernel
theorem dX5_reckon_439 : decode cX5_reckon 439 = .ok (.getfield 46, 3) := by decide +kernel
theorem dX5_reckon_442 : decode cX5_reckon 442 = .ok (.iload 4, 2) := by decide +kernel
theorem dX5_reckon_444 : decode cX5_reckon 444 = .ok (.aload_n 0, 1) := by decide +kernel
theorem dX5_reckon_445 : decode cX5_reckon 445 = .ok (.getfield 52, 3) := by decide +kernel
theorem dX5_reckon_448 : decode cX5_reckon 448 = .ok (.iload 4, 2) := by decide +kernel
theorem dX5_reckon_450 : decode cX5_reckon 450 = .ok (.iconst 4, 1) := by decide +kernel
theorem dX5_reckon_451 : decode cX5_reckon 451 = .ok (.idiv, 1) := by decide +kernel
theorem dX5_reckon_452 : decode cX5_reckon 452 = .ok (.iaload, 1) := by decide +kernel
theorem dX5_reckon_453 : decode cX5_reckon 453 = .ok (.aload_n 0, 1) := by decide +kernel
theorem dX5_reckon_454 : decode cX5_reckon 454 = .ok (.getfield 130, 3) := by decide +kernel
theorem dX5_reckon_457 : decode cX5_reckon 457 = .ok (.iload 4, 2) := by decide +kernel
theorem dX5_reckon_459 : decode cX5_reckon 459 = .ok (.iconst 4, 1) := by decide +kernel
theorem dX5_reckon_460 : decode cX5_reckon 460 = .ok (.idiv, 1) := by decide +kernel
theorem dX5_reckon_461 : decode cX5_reckon 461 = .ok (.iaload, 1) := by decide +kernel
theorem dX5_reckon_462 : decode cX5_reckon 462 = .ok (.iadd, 1) := by decide +kernel
theorem dX5_reckon_463 : decode cX5_reckon 463 = .ok (.bipush 24, 2) := by decide +kernel
theorem dX5_reckon_465 : decode cX5_reckon 465 = .ok (.bipush 8, 2) := by decide +kernel
theorem dX5_reckon_467 : decode cX5_reckon 467 = .ok (.iload 4, 2) := by decide +kernel
theorem dX5_reckon_469 : decode cX5_reckon 469 = .ok (.iconst 4, 1) := by decide +kernel
theorem dX5_reckon_470 : decode cX5_reckon 470 = .ok (.irem, 1) := by decide +kernel
theorem dX5_reckon_471 : decode cX5_reckon 471 = .ok (.imul, 1) := by decide +kernel
theorem dX5_reckon_472 : decode cX5_reckon 472 = .ok (.isub, 1) := by decide +kernel
theorem dX5_reckon_473 : decode cX5_reckon 473 = .ok (.ishr, 1) := by decide +kernel
theorem dX5_reckon_474 : decode cX5_reckon 474 = .ok (.i2b, 1) := by decide +kernel
theorem dX5_reckon_475 : decode cX5_reckon 475 = .ok (.bastore, 1) := by decide +kernel
theorem dX5_reckon_476 : decode cX5_reckon 476 = .ok (.iinc 4 1, 3) := by decide +kernel
theorem dX5_reckon_479 : decode cX5_reckon 479 = .ok (.goto (-48), 3) := by decide +kernel
theorem dX5_reckon_482 : decode cX5_reckon 482 = .ok (.aload_n 0, 1) := by decide +kernel
theorem dX5_reckon_483 : decode cX5_reckon 483 = .ok (.iconst 1, 1) := by decide +kernel
theorem dX5_reckon_484 : decode cX5_reckon 484 = .ok (.putfield 157, 3) := by decide +kernel
theorem dX5_reckon_487 : decode cX5_reckon 487 = .ok (.return_, 1) := by decide +kernel
theorem dX5_five_0 : decode cX5_five 0 = .ok (.iconst 0, 1) := by decide +kernel
theorem dX5_five_1 : decode cX5_five 1 = .ok (.istore_n 2, 1) := by decide +kernel
theorem dX5_five_2 : decode cX5_five 2 = .ok (.iconst 5, 1) := by decide +kernel
theorem dX5_five_3 : decode cX5_five 3 = .ok (.iload_n 1, 1) := by decide +kernel
theorem dX5_five_4 : decode cX5_five 4 = .ok (.imul, 1) := by decide +kernel
theorem dX5_five_5 : decode cX5_five 5 = .ok (.istore_n 3, 1) := by decide +kernel
theorem dX5_five_6 : decode cX5_five 6 = .ok (.iload_n 3, 1) := by decide +kernel
theorem dX5_five_7 : decode cX5_five 7 = .ok (.iconst 5, 1) := by decide +kernel
theorem dX5_five_8 : decode cX5_five 8 = .ok (.iload_n 1, 1) := by decide +kernel
theorem dX5_five_9 : decode cX5_five 9 = .ok (.imul, 1) := by decide +kernel
theorem dX5_five_10 : decode cX5_five 10 = .ok (.iconst 5, 1) := by decide +kernel
theorem dX5_five_11 : decode cX5_five 11 = .ok (.iadd, 1) := by decide +kernel
theorem dX5_five_12 : decode cX5_five 12 = .ok (.if_icmp .ge 33, 3) := by decide +kernel
theorem dX5_five_15 : decode cX5_five 15 = .ok (.iconst 2, 1) := by decide +kernel
theorem dX5_five_16 : decode cX5_five 16 = .ok (.iload_n 2, 1) := by decide +kernel
theorem dX5_five_17 : decode cX5_five 17 = .ok (.imul, 1) := by decide +kernel
theorem dX5_five_18 : decode cX5_five 18 = .ok (.aload_n 0, 1) := by decide +kernel
theorem dX5_five_19 : decode cX5_five 19 = .ok (.getfield 46, 3) := by decide +kernel
theorem dX5_five_22 : decode cX5_five 22 = .ok (.iload_n 3, 1) := by decide +kernel
theorem dX5_five_23 : decode cX5_five 23 = .ok (.bipush 8, 2) := by decide +kernel
theorem dX5_five_25 : decode cX5_five 25 = .ok (.idiv, 1) := by decide +kernel
theorem dX5_five_26 : decode cX5_five 26 = .ok (.baload, 1) := by decide +kernel
theorem dX5_five_27 : decode cX5_five 27 = .ok (.bipush 7, 2) := by decide +kernel
theorem dX5_five_29 : decode cX5_five 29 = .ok (.iload_n 3, 1) := by decide +kernel
theorem dX5_five_30 : decode cX5_five 30 = .ok (.bipush 8, 2) := by decide +kernel
theorem dX5_five_32 : decode cX5_five 32 = .ok (.irem, 1) := by decide +kernel
theorem dX5_five_33 : decode cX5_five 33 = .ok (.isub, 1) := by decide +kernel
theorem dX5_five_34 : decode cX5_five 34 = .ok (.ishr, 1) := by decide +kernel
theorem dX5_five_35 : decode cX5_five 35 = .ok (.iconst 1, 1) := by decide +kernel
theorem dX5_five_36 : decode cX5_five 36 = .ok (.iand, 1) := by decide +kernel
theorem dX5_five_37 : decode cX5_five 37 = .ok (.iadd, 1) := by decide +kernel
theorem dX5_five_38 : decode cX5_five 38 = .ok (.istore_n 2, 1) := by decide +kernel
theorem dX5_five_39 : decode cX5_five 39 = .ok (.iinc 3 1, 3) := by decide +kernel
theorem dX5_five_42 : decode cX5_five 42 = .ok (.goto (-36), 3) := by decide +kernel
theorem dX5_five_45 : decode cX5_five 45 = .ok (.iload_n 2, 1) := by decide +kernel
theorem dX5_five_46 : decode cX5_five 46 = .ok (.ireturn, 1) := by decide +kernel
end
section
set_option maxRecDepth 20000 in
theorem ggX5_sign_J0_charAt_5068e : GoodIn wsX5_sign wsJ0_charAt_5068e := goodIn_r _ [5, 6, 7, 8, 9, 4, 10, 11, 12, 13, 14, 15, 16, 17, 18, 19, 20, 21, 22, 23, 24, 25, 26, 27, 28, 29, 30, 31, 32, 33, 34, 35, 36, 37, 38, 39, 40, 41, 42, 43] (by decide +kernel) (by decide +kernel)
set_option maxRecDepth 20000 in
theorem gX5_sign_J0_charAt_5068e : GoodIn wsX5_sign (wsV RX5 163 RJ0 yJ0_charAt_5068e wsJ0_charAt_5068e) := goodIn_app (goodIn_of _ (by decide +kernel)) ggX5_sign_J0_charAt_5068e
theorem dX5_sign_0 : decode cX5_sign 0 = .ok (.ldc 161, 2) := by decide +kernel
theorem dX5_sign_2 : decode cX5_sign 2 = .ok (.iload_n 0, 1) := by decide +kernel
theorem dX5_sign_3 : decode cX5_sign 3 = .ok (.invokevirtual 163, 3) := by decide +kernel
theorem dX5_sign_6 : decode cX5_sign 6 = .ok (.ireturn, 1) := by decide +kernel
set_option maxRecDepth 20000 in
theorem ggX5_valueOf_X5_sign : GoodIn wsX5_valueOf wsX5_sign := goodIn_r _ [4, 5, 6, 7, 8, 9, 10, 11, 12, 13, 14, 15, 16, 17, 18, 19, 20, 21, 22, 23, 24, 25, 26, 27, 28, 29, 30, 31, 32, 33, 34, 35, 36, 37, 38, 39, 40, 41, 42, 43, 44, 45, 46, 47] (by decide +kernel) (by decide +kernel)
set_option maxRecDepth 20000 in
theorem gX5_valueOf_X5_sign : GoodIn wsX5_valueOf (va_wsS RX5 169 yX5_sign wsX5_sign) := goodIn_app (goodIn_of _ (by decide +kernel)) ggX5_valueOf_X5_sign
theorem dX5_valueOf_0 : decode cX5_valueOf 0 = .ok (.iconst 0, 1) := by decide +kernel
theorem dX5_valueOf_1 : decode cX5_valueOf 1 = .ok (.istore_n 1, 1) := by decide +kernel
theorem dX5_valueOf_2 : decode cX5_valueOf 2 = .ok (.iload_n 1, 1) := by decide +kernel
theorem dX5_valueOf_3 : decode cX5_valueOf 3 = .ok (.bipush 32, 2) := by decide +kernel
theorem dX5_valueOf_5 : decode cX5_valueOf 5 = .ok (.if_icmp .ge 19, 3) := by decide +kernel
theorem dX5_valueOf_8 : decode cX5_valueOf 8 = .ok (.iload_n 1, 1) := by decide +kernel
theorem dX5_valueOf_9 : decode cX5_valueOf 9 = .ok (.invokestatic 169, 3) := by decide +kernel
theorem dX5_valueOf_12 : decode cX5_valueOf 12 = .ok (.iload_n 0, 1) := by decide +kernel
theorem dX5_valueOf_13 : decode cX5_valueOf 13 = .ok (.if_icmp .ne 5, 3) := by decide +kernel
theorem dX5_valueOf_16 : decode cX5_valueOf 16 = .ok (.iload_n 1, 1) := by decide +kernel
theorem dX5_valueOf_17 : decode cX5_valueOf 17 = .ok (.ireturn, 1) := by decide +kernel
theorem dX5_valueOf_18 : decode cX5_valueOf 18 = .ok (.iinc 1 1, 3) := by decide +kernel
theorem dX5_valueOf_21 : decode cX5_valueOf 21 = .ok (.goto (-19), 3) := by decide +kernel
theorem dX5_valueOf_24 : decode cX5_valueOf 24 = .ok (.iconst (-1), 1) := by decide +kernel
theorem dX5_valueOf_25 : decode cX5_valueOf 25 = .ok (.ireturn, 1) := by decide +kernel
set_option maxRecDepth 20000 in
theorem ggX5_make_X5_isKey : GoodIn wsX5_make wsX5_isKey := goodIn_r _ [20, 21, 22, 23, 19, 24, 92, 93, 94, 95, 96, 97, 98, 99, 100, 101, 102, 103, 104, 105, 106, 107, 108, 109, 110, 111, 112, 113, 114] (by decide +kernel) (by decide +kernel)
set_option maxRecDepth 20000 in
theorem gX5_make_X5_isKey : GoodIn wsX5_make (wsV RX5 145 RX5 yX5_isKey wsX5_isKey) := goodIn_app (goodIn_of _ (by decide +kernel)) ggX5_make_X5_isKey
set_option maxRecDepth 20000 in
theorem ggX5_make_X5_within : GoodIn wsX5_make wsX5_within := goodIn_r _ [24] (by decide +kernel) (by decide +kernel)
set_option maxRecDepth 20000 in
theorem gX5_make_X5_within : GoodIn wsX5_make (va_wsS RX5 139 yX5_within wsX5_within) := goodIn_app (goodIn_of _ (by decide +kernel)) ggX5_make_X5_within
set_option maxRecDepth 20000 in
theorem ggX5_make_X5_reckon : GoodIn wsX5_make wsX5_reckon := goodIn_ca (goodIn_r _ [28, 29, 30, 31, 32, 33, 34, 35, 36, 37, 19, 38, 39, 40, 41, 42, 43, 92, 93, 94, 95, 96, 97, 98, 99, 100, 101, 102, 103, 104, 105, 106, 107, 108, 109, 110, 111, 112, 113, 114] (by decide +kernel) (by decide +kernel)) (goodIn_sub (fun _ h => List.mem_cons_of_mem _ (List.mem_append_right _ h)) (by decide +kernel))
set_option maxRecDepth 20000 in
theorem gX5_make_X5_reckon : GoodIn wsX5_make (wsV RX5 188 RX5 yX5_reckon wsX5_reckon) := goodIn_app (goodIn_of _ (by decide +kernel)) ggX5_make_X5_reckon
set_option maxRecDepth 20000 in
theorem ggX5_make_X5_five : GoodIn wsX5_make wsX5_five := goodIn_ca (goodIn_r _ [47, 33, 92, 93, 94, 95, 96, 97, 98, 99, 100, 101, 102, 103, 104, 105, 106, 107, 108, 109, 110, 111, 112, 113, 114] (by decide +kernel) (by decide +kernel)) (goodIn_sub (fun _ h => List.mem_cons_of_mem _ (List.mem_append_right _ h)) (by decide +kernel))
set_option maxRecDepth 20000 in
theorem gX5_make_X5_five : GoodIn wsX5_make (wsV RX5 194 RX5 yX5_five wsX5_five) := goodIn_app (goodIn_of _ (by decide +kernel)) ggX5_make_X5_five
set_option maxRecDepth 20000 in
theorem ggX5_make_X5_sign : GoodIn wsX5_make wsX5_sign := goodIn_r _ [50, 51, 52, 53, 54, 55, 56, 57, 58, 59, 60, 61, 62, 63, 64, 65, 66, 67, 68, 69, 70, 71, 72, 73, 74, 75, 76, 77, 78, 79, 80, 81, 82, 83, 84, 85, 86, 87, 88, 89, 90, 91, 115, 116] (by decide +kernel) (by decide +kernel)
set_option maxRecDepth 20000 in
theorem gX5_make_X5_sign : GoodIn wsX5_make (va_wsS RX5 169 yX5_sign wsX5_sign) := goodIn_app (goodIn_of _ (by decide +kernel)) ggX5_make_X5_sign
theorem dX5_make_0 : decode cX5_make 0 = .ok (.aload_n 0, 1) := by decide +kernel
theorem dX5_make_1 : decode cX5_make 1 = .ok (.iconst 0, 1) := by decide +kernel
theorem dX5_make_2 : decode cX5_make 2 = .ok (.putfield 136, 3) := by decide +kernel
theorem dX5_make_5 : decode cX5_make 5 = .ok (.aload_n 0, 1) := by decide +kernel
theorem dX5_make_6 : decode cX5_make 6 = .ok (.iload_n 1, 1) := by decide +kernel
theorem dX5_make_7 : decode cX5_make 7 = .ok (.invokevirtual 145, 3) := by decide +kernel
theorem dX5_make_10 : decode cX5_make 10 = .ok (.ifCond .ne 6, 3) := by decide +kernel
theorem dX5_make_13 : decode cX5_make 13 = .ok (.bipush (-21), 2) := by decide +kernel
theorem dX5_make_15 : decode cX5_make 15 = .ok (.ireturn, 1) := by decide +kernel
theorem dX5_make_16 : decode cX5_make 16 = .ok (.iload_n 2, 1) := by decide +kernel
theorem dX5_make_17 : decode cX5_make 17 = .ok (.i2l, 1) := by decide +kernel
theorem dX5_make_18 : decode cX5_make 18 = .ok (.lconst 1, 1) := by decide +kernel
theorem dX5_make_19 : decode cX5_make 19 = .ok (.ldc2_w 173, 3) := by decide +kernel
theorem dX5_make_22 : decode cX5_make 22 = .ok (.invokestatic 139, 3) := by decide +kernel
theorem dX5_make_25 : decode cX5_make 25 = .ok (.ifCond .eq 27, 3) := by decide +kernel
theorem dX5_make_28 : decode cX5_make 28 = .ok (.iload_n 3, 1) := by decide +kernel
theorem dX5_make_29 : decode cX5_make 29 = .ok (.i2l, 1) := by decide +kernel
theorem dX5_make_30 : decode cX5_make 30 = .ok (.lconst 0, 1) := by decide +kernel
theorem dX5_make_31 : decode cX5_make 31 = .ok (.ldc2_w 175, 3) := by decide +kernel
theorem dX5_make_34 : decode cX5_make 34 = .ok (.invokestatic 139, 3) := by decide +kernel
theorem dX5_make_37 : decode cX5_make 37 = .ok (.ifCond .eq 15, 3) := by decide +kernel
theorem dX5_make_40 : decode cX5_make 40 = .ok (.lload 4, 2) := by decide +kernel
theorem dX5_make_42 : decode cX5_make 42 = .ok (.lconst 0, 1) := by decide +kernel
theorem dX5_make_43 : decode cX5_make 43 = .ok (.ldc2_w 143, 3) := by decide +kernel
theorem dX5_make_46 : decode cX5_make 46 = .ok (.invokestatic 139, 3) := by decide +kernel
theorem dX5_make_49 : decode cX5_make 49 = .ok (.ifCond .ne 6, 3) := by decide +kernel
theorem dX5_make_52 : decode cX5_make 52 = .ok (.bipush (-22), 2) := by decide +kernel
theorem dX5_make_54 : decode cX5_make 54 = .ok (.ireturn, 1) := by decide +kernel
theorem dX5_make_55 : decode cX5_make 55 = .ok (.lload 4, 2) := by decide +kernel
theorem dX5_make_57 : decode cX5_make 57 = .ok (.aload_n 0, 1) := by decide +kernel
theorem dX5_make_58 : decode cX5_make 58 = .ok (.getfield 7, 3) := by decide +kernel
theorem dX5_make_61 : decode cX5_make 61 = .ok (.iload_n 1, 1) := by decide +kernel
theorem dX5_make_62 : decode cX5_make 62 = .ok (.iaload, 1) := by decide +kernel
theorem dX5_make_63 : decode cX5_make 63 = .ok (.i2l, 1) := by decide +kernel
theorem dX5_make_64 : decode cX5_make 64 = .ok (.aload_n 0, 1) := by decide +kernel
theorem dX5_make_65 : decode cX5_make 65 = .ok (.getfield 13, 3) := by decide +kernel
theorem dX5_make_68 : decode cX5_make 68 = .ok (.iload_n 1, 1) := by decide +kernel
theorem dX5_make_69 : decode cX5_make 69 = .ok (.iaload, 1) := by decide +kernel
theorem dX5_make_70 : decode cX5_make 70 = .ok (.i2l, 1) := by decide +kernel
theorem dX5_make_71 : decode cX5_make 71 = .ok (.invokestatic 139, 3) := by decide +kernel
theorem dX5_make_74 : decode cX5_make 74 = .ok (.ifCond .ne 6, 3) := by decide +kernel
theorem dX5_make_77 : decode cX5_make 77 = .ok (.bipush (-23), 2) := by decide +kernel
theorem dX5_make_79 : decode cX5_make 79 = .ok (.ireturn, 1) := by decide +kernel
theorem dX5_make_80 : decode cX5_make 80 = .ok (.aload_n 0, 1) := by decide +kernel
theorem dX5_make_81 : decode cX5_make 81 = .ok (.getfield 177, 3) := by decide +kernel
theorem dX5_make_84 : decode cX5_make 84 = .ok (.sipush 16384, 3) := by decide +kernel
theorem dX5_make_87 : decode cX5_make 87 = .ok (.if_icmp .ne 6, 3) := by decide +kernel
theorem dX5_make_90 : decode cX5_make 90 = .ok (.bipush (-24), 2) := by decide +kernel
theorem dX5_make_92 : decode cX5_make 92 = .ok (.ireturn, 1) := by decide +kernel
theorem dX5_make_93 : decode cX5_make 93 = .ok (.iload_n 1, 1) := by decide +kernel
theorem dX5_make_94 : decode cX5_make 94 = .ok (.i2l, 1) := by decide +kernel
theorem dX5_make_95 : decode cX5_make 95 = .ok (.ldc2_w 180, 3) := by decide +kernel
theorem dX5_make_98 : decode cX5_make 98 = .ok (.lmul, 1) := by decide +kernel
theorem dX5_make_99 : decode cX5_make 99 = .ok (.iload_n 3, 1) := by decide +kernel
theorem dX5_make_100 : decode cX5_make 100 = .ok (.i2l, 1) := by decide +kernel
theorem dX5_make_101 : decode cX5_make 101 = .ok (.ladd, 1) := by decide +kernel
theorem dX5_make_102 : decode cX5_make 102 = .ok (.ldc2_w 182, 3) := by decide +kernel
theorem dX5_make_105 : decode cX5_make 105 = .ok (.lmul, 1) := by decide +kernel
theorem dX5_make_106 : decode cX5_make 106 = .ok (.iload_n 2, 1) := by decide +kernel
theorem dX5_make_107 : decode cX5_make 107 = .ok (.i2l, 1) := by decide +kernel
theorem dX5_make_108 : decode cX5_make 108 = .ok (.ladd, 1) := by decide +kernel
theorem dX5_make_109 : decode cX5_make 109 = .ok (.ldc2_w 184, 3) := by decide +kernel
theorem dX5_make_112 : decode cX5_make 112 = .ok (.lmul, 1) := by decide +kernel
theorem dX5_make_113 : decode cX5_make 113 = .ok (.lload 4, 2) := by decide +kernel
theorem dX5_make_115 : decode cX5_make 115 = .ok (.ladd, 1) := by decide +kernel
theorem dX5_make_116 : decode cX5_make 116 = .ok (.ldc2_w 186, 3) := by decide +kernel
theorem dX5_make_119 : decode cX5_make 119 = .ok (.lmul, 1) := by decide +kernel
theorem dX5_make_120 : decode cX5_make 120 = .ok (.aload_n 0, 1) := by decide +kernel
theorem dX5_make_121 : decode cX5_make 121 = .ok (.getfield 177, 3) := by decide +kernel
theorem dX5_make_124 : decode cX5_make 124 = .ok (.i2l, 1) := by decide +kernel
theorem dX5_make_125 : decode cX5_make 125 = .ok (.ladd, 1) := by decide +kernel
theorem dX5_make_126 : decode cX5_make 126 = .ok (.lstore 6, 2) := by decide +kernel
theorem dX5_make_128 : decode cX5_make 128 = .ok (.aload_n 0, 1) := by decide +kernel
theorem dX5_make_129 : decode cX5_make 129 = .ok (.iload_n 1, 1) := by decide +kernel
theorem dX5_make_130 : decode cX5_make 130 = .ok (.lload 6, 2) := by decide +kernel
theorem dX5_make_132 : decode cX5_make 132 = .ok (.invokevirtual 188, 3) := by decide +kernel
theorem dX5_make_135 : decode cX5_make 135 = .ok (.iconst 0, 1) := by decide +kernel
theorem dX5_make_136 : decode cX5_make 136 = .ok (.istore 8, 2) := by decide +kernel
theorem dX5_make_138 : decode cX5_make 138 = .ok (.iload 8, 2) := by decide +kernel
theorem dX5_make_140 : decode cX5_make 140 = .ok (.bipush 16, 2) := by decide +kernel
theorem dX5_make_142 : decode cX5_make 142 = .ok (.if_icmp .ge 53, 3) := by decide +kernel
theorem dX5_make_145 : decode cX5_make 145 = .ok (.aload_n 0, 1) := by decide +kernel
theorem dX5_make_146 : decode cX5_make 146 = .ok (.getfield 27, 3) := by decide +kernel
theorem dX5_make_149 : decode cX5_make 149 = .ok (.iload 8, 2) := by decide +kernel
theorem dX5_make_151 : decode cX5_make 151 = .ok (.iload 8, 2) := by decide +kernel
theorem dX5_make_153 : decode cX5_make 153 = .ok (.bipush 11, 2) := by decide +kernel
theorem dX5_make_155 : decode cX5_make 155 = .ok (.if_icmp .ge 21, 3) := by decide +kernel
theorem dX5_make_158 : decode cX5_make 158 = .ok (.lload 6, 2) := by decide +kernel
theorem dX5_make_160 : decode cX5_make 160 = .ok (.bipush 50, 2) := by decide +kernel
theorem dX5_make_162 : decode cX5_make 162 = .ok (.iconst 5, 1) := by decide +kernel
theorem dX5_make_163 : decode cX5_make 163 = .ok (.iload 8, 2) := by decide +kernel
theorem dX5_make_165 : decode cX5_make 165 = .ok (.imul, 1) := by decide +kernel
theorem dX5_make_166 : decode cX5_make 166 = .ok (.isub, 1) := by decide +kernel
theorem dX5_make_167 : decode cX5_make 167 = .ok (.lshr, 1) := by decide +kernel
theorem dX5_make_168 : decode cX5_make 168 = .ok (.ldc2_w 192, 3) := by decide +kernel
theorem dX5_make_171 : decode cX5_make 171 = .ok (.land, 1) := by decide +kernel
theorem dX5_make_172 : decode cX5_make 172 = .ok (.l2i, 1) := by decide +kernel
theorem dX5_make_173 : decode cX5_make 173 = .ok (.goto 12, 3) := by decide +kernel
theorem dX5_make_176 : decode cX5_make 176 = .ok (.aload_n 0, 1) := by decide +kernel
theorem dX5_make_177 : decode cX5_make 177 = .ok (.iload 8, 2) := by decide +kernel
theorem dX5_make_179 : decode cX5_make 179 = .ok (.bipush 11, 2) := by decide +kernel
theorem dX5_make_181 : decode cX5_make 181 = .ok (.isub, 1) := by decide +kernel
theorem dX5_make_182 : decode cX5_make 182 = .ok (.invokevirtual 194, 3) := by decide +kernel
theorem dX5_make_185 : decode cX5_make 185 = .ok (.invokestatic 169, 3) := by decide +kernel
theorem dX5_make_188 : decode cX5_make 188 = .ok (.iastore, 1) := by decide +kernel
theorem dX5_make_189 : decode cX5_make 189 = .ok (.iinc 8 1, 3) := by decide +kernel
theorem dX5_make_192 : decode cX5_make 192 = .ok (.goto (-54), 3) := by decide +kernel
theorem dX5_make_195 : decode cX5_make 195 = .ok (.aload_n 0, 1) := by decide +kernel
theorem dX5_make_196 : decode cX5_make 196 = .ok (.iconst 1, 1) := by decide +kernel
theorem dX5_make_197 : decode cX5_make 197 = .ok (.putfield 197, 3) := by decide +kernel
theorem dX5_make_200 : decode cX5_make 200 = .ok (.aload_n 0, 1) := by decide +kernel
theorem dX5_make_201 : decode cX5_make 201 = .ok (.getfield 19, 3) := by decide +kernel
theorem dX5_make_204 : decode cX5_make 204 = .ok (.iload_n 1, 1) := by decide +kernel
theorem dX5_make_205 : decode cX5_make 205 = .ok (.iconst 1, 1) := by decide +kernel
theorem dX5_make_206 : decode cX5_make 206 = .ok (.bastore, 1) := by decide +kernel
theorem dX5_make_207 : decode cX5_make 207 = .ok (.aload_n 0, 1) := by decide +kernel
theorem dX5_make_208 : decode cX5_make 208 = .ok (.dup, 1) := by decide +kernel
theorem dX5_make_209 : decode cX5_make 209 = .ok (.getfield 177, 3) := by decide +kernel
theorem dX5_make_212 : decode cX5_make 212 = .ok (.iconst 1, 1) := by decide +kernel
theorem dX5_make_213 : decode cX5_make 213 = .ok (.iadd, 1) := by decide +kernel
theorem dX5_make_214 : decode cX5_make 214 = .ok (.putfield 177, 3) := by decide +kernel
theorem dX5_make_217 : decode cX5_make 217 = .ok (.bipush 16, 2) := by decide +kernel
theorem dX5_make_219 : decode cX5_make 219 = .ok (.ireturn, 1) := by decide +kernel
set_option maxRecDepth 20000 in
theorem ggX5_letter_X5_within : GoodIn wsX5_letter wsX5_within := goodIn_r _ [8] (by decide +kernel) (by decide +kernel)
set_option maxRecDepth 20000 in
theorem gX5_letter_X5_within : GoodIn wsX5_letter (va_wsS RX5 139 yX5_within wsX5_within) := goodIn_app (goodIn_of _ (by decide +kernel)) ggX5_letter_X5_within
theorem dX5_letter_0 : decode cX5_letter 0 = .ok (.aload_n 0, 1) := by decide +kernel
theorem dX5_letter_1 : decode cX5_letter 1 = .ok (.iconst 0, 1) := by decide +kernel
theorem dX5_letter_2 : decode cX5_letter 2 = .ok (.putfield 136, 3) := by decide +kernel
theorem dX5_letter_5 : decode cX5_letter 5 = .ok (.aload_n 0, 1) := by decide +kernel
theorem dX5_letter_6 : decode cX5_letter 6 = .ok (.getfield 197, 3) := by decide +kernel
theorem dX5_letter_9 : decode cX5_letter 9 = .ok (.ifCond .eq 24, 3) := by decide +kernel
theorem dX5_letter_12 : decode cX5_letter 12 = .ok (.iload_n 1, 1) := by decide +kernel
theorem dX5_letter_13 : decode cX5_letter 13 = .ok (.i2l, 1) := by decide +kernel
theorem dX5_letter_14 : decode cX5_letter 14 = .ok (.lconst 0, 1) := by decide +kernel
theorem dX5_letter_15 : decode cX5_letter 15 = .ok (.ldc2_w 200, 3) := by decide +kernel
theorem dX5_letter_18 : decode cX5_letter 18 = .ok (.invokestatic 139, 3) := by decide +kernel
theorem dX5_letter_21 : decode cX5_letter 21 = .ok (.ifCond .eq 12, 3) := by decide +kernel
theorem dX5_letter_24 : decode cX5_letter 24 = .ok (.aload_n 0, 1) := by decide +kernel
theorem dX5_letter_25 : decode cX5_letter 25 = .ok (.getfield 27, 3) := by decide +kernel
theorem dX5_letter_28 : decode cX5_letter 28 = .ok (.iload_n 1, 1) := by decide +kernel
theorem dX5_letter_29 : decode cX5_letter 29 = .ok (.iaload, 1) := by decide +kernel
theorem dX5_letter_30 : decode cX5_letter 30 = .ok (.goto 4, 3) := by decide +kernel
theorem dX5_letter_33 : decode cX5_letter 33 = .ok (.iconst 0, 1) := by decide +kernel
theorem dX5_letter_34 : decode cX5_letter 34 = .ok (.ireturn, 1) := by decide +kernel
theorem dX5_type_0 : decode cX5_type 0 = .ok (.aload_n 0, 1) := by decide +kernel
theorem dX5_type_1 : decode cX5_type 1 = .ok (.iconst 0, 1) := by decide +kernel
theorem dX5_type_2 : decode cX5_type 2 = .ok (.putfield 136, 3) := by decide +kernel
theorem dX5_type_5 : decode cX5_type 5 = .ok (.aload_n 0, 1) := by decide +kernel
theorem dX5_type_6 : decode cX5_type 6 = .ok (.getfield 202, 3) := by decide +kernel
theorem dX5_type_9 : decode cX5_type 9 = .ok (.bipush 40, 2) := by decide +kernel
theorem dX5_type_11 : decode cX5_type 11 = .ok (.if_icmp .ge 23, 3) := by decide +kernel
theorem dX5_type_14 : decode cX5_type 14 = .ok (.aload_n 0, 1) := by decide +kernel
theorem dX5_type_15 : decode cX5_type 15 = .ok (.getfield 30, 3) := by decide +kernel
theorem dX5_type_18 : decode cX5_type 18 = .ok (.aload_n 0, 1) := by decide +kernel
theorem dX5_type_19 : decode cX5_type 19 = .ok (.getfield 202, 3) := by decide +kernel
theorem dX5_type_22 : decode cX5_type 22 = .ok (.iload_n 1, 1) := by decide +kernel
theorem dX5_type_23 : decode cX5_type 23 = .ok (.iastore, 1) := by decide +kernel
theorem dX5_type_24 : decode cX5_type 24 = .ok (.aload_n 0, 1) := by decide +kernel
theorem dX5_type_25 : decode cX5_type 25 = .ok (.dup, 1) := by decide +kernel
theorem dX5_type_26 : decode cX5_type 26 = .ok (.getfield 202, 3) := by decide +kernel
theorem dX5_type_29 : decode cX5_type 29 = .ok (.iconst 1, 1) := by decide +kernel
theorem dX5_type_30 : decode cX5_type 30 = .ok (.iadd, 1) := by decide +kernel
theorem dX5_type_31 : decode cX5_type 31 = .ok (.putfield 202, 3) := by decide +kernel
theorem dX5_type_34 : decode cX5_type 34 = .ok (.return_, 1) := by decide +kernel
set_option maxRecDepth 20000 in
theorem ggX5_check_X5_within : GoodIn wsX5_check wsX5_within := goodIn_r _ [8] (by decide +kernel) (by decide +kernel)
set_option maxRecDepth 20000 in
theorem gX5_check_X5_within : GoodIn wsX5_check (va_wsS RX5 139 yX5_within wsX5_within) := goodIn_app (goodIn_of _ (by decide +kernel)) ggX5_check_X5_within
set_option maxRecDepth 20000 in
theorem ggX5_check_X5_reasonOf : GoodIn wsX5_check wsX5_reasonOf := goodIn_ca (goodIn_r _ [12, 4, 13, 14, 15, 16, 2, 17, 18, 19, 20, 21, 22, 23, 24, 3, 25, 26, 7, 27, 28, 29, 30, 31, 32, 33, 34, 35, 36, 37, 38, 39, 40, 41, 42, 43, 44, 45, 46, 47, 48, 49, 50, 51, 52, 53, 54, 55, 56, 57, 58, 59, 60, 61, 62, 63, 64, 65, 66, 67, 68, 69, 70, 71, 72, 73, 74, 75, 76, 5, 6, 8, 77, 78, 79, 80, 81, 82, 83, 84, 85, 86, 87, 88, 89, 90, 91, 92, 93, 94, 95, 96, 97, 98, 99, 100, 101, 102, 103, 104, 105, 106, 107, 108, 109, 110, 111, 112, 113, 114, 115, 116, 117, 118, 119, 120, 121, 122, 123, 124] (by decide +kernel) (by decide +kernel)) (goodIn_sub (fun _ h => List.mem_cons_of_mem _ (List.mem_append_right _ h)) (by decide +kernel))
set_option maxRecDepth 20000 in
theorem gX5_check_X5_reasonOf : GoodIn wsX5_check (wsV RX5 208 RX5 yX5_reasonOf wsX5_reasonOf) := goodIn_app (goodIn_of _ (by decide +kernel)) ggX5_check_X5_reasonOf
theorem dX5_check_0 : decode cX5_check 0 = .ok (.aload_n 0, 1) := by decide +kernel
theorem dX5_check_1 : decode cX5_check 1 = .ok (.iconst 0, 1) := by decide +kernel
theorem dX5_check_2 : decode cX5_check 2 = .ok (.putfield 136, 3) := by decide +kernel
theorem dX5_check_5 : decode cX5_check 5 = .ok (.lload_n 1, 1) := by decide +kernel
theorem dX5_check_6 : decode cX5_check 6 = .ok (.lconst 0, 1) := by decide +kernel
theorem dX5_check_7 : decode cX5_check 7 = .ok (.ldc2_w 143, 3) := by decide +kernel
theorem dX5_check_10 : decode cX5_check 10 = .ok (.invokestatic 139, 3) := by decide +kernel
theorem dX5_check_13 : decode cX5_check 13 = .ok (.ifCond .ne 6, 3) := by decide +kernel
theorem dX5_check_16 : decode cX5_check 16 = .ok (.bipush (-22), 2) := by decide +kernel
theorem dX5_check_18 : decode cX5_check 18 = .ok (.ireturn, 1) := by decide +kernel
theorem dX5_check_19 : decode cX5_check 19 = .ok (.aload_n 0, 1) := by decide +kernel
theorem dX5_check_20 : decode cX5_check 20 = .ok (.dup, 1) := by decide +kernel
theorem dX5_check_21 : decode cX5_check 21 = .ok (.getfield 205, 3) := by decide +kernel
theorem dX5_check_24 : decode cX5_check 24 = .ok (.iconst 1, 1) := by decide +kernel
theorem dX5_check_25 : decode cX5_check 25 = .ok (.iadd, 1) := by decide +kernel
theorem dX5_check_26 : decode cX5_check 26 = .ok (.putfield 205, 3) := by decide +kernel
theorem dX5_check_29 : decode cX5_check 29 = .ok (.aload_n 0, 1) := by decide +kernel
theorem dX5_check_30 : decode cX5_check 30 = .ok (.lload_n 1, 1) := by decide +kernel
theorem dX5_check_31 : decode cX5_check 31 = .ok (.l2i, 1) := by decide +kernel
theorem dX5_check_32 : decode cX5_check 32 = .ok (.invokevirtual 208, 3) := by decide +kernel
theorem dX5_check_35 : decode cX5_check 35 = .ok (.istore_n 3, 1) := by decide +kernel
theorem dX5_check_36 : decode cX5_check 36 = .ok (.aload_n 0, 1) := by decide +kernel
theorem dX5_check_37 : decode cX5_check 37 = .ok (.iconst 0, 1) := by decide +kernel
theorem dX5_check_38 : decode cX5_check 38 = .ok (.putfield 202, 3) := by decide +kernel
theorem dX5_check_41 : decode cX5_check 41 = .ok (.iload_n 3, 1) := by decide +kernel
theorem dX5_check_42 : decode cX5_check 42 = .ok (.ifCond .ne 7, 3) := by decide +kernel
theorem dX5_check_45 : decode cX5_check 45 = .ok (.iconst 1, 1) := by decide +kernel
theorem dX5_check_46 : decode cX5_check 46 = .ok (.goto 6, 3) := by decide +kernel
theorem dX5_check_49 : decode cX5_check 49 = .ok (.iconst (-1), 1) := by decide +kernel
theorem dX5_check_50 : decode cX5_check 50 = .ok (.iload_n 3, 1) := by decide +kernel
theorem dX5_check_51 : decode cX5_check 51 = .ok (.isub, 1) := by decide +kernel
theorem dX5_check_52 : decode cX5_check 52 = .ok (.ireturn, 1) := by decide +kernel
set_option maxRecDepth 20000 in
theorem ggX5_reasonOf_X5_valueOf : GoodIn wsX5_reasonOf wsX5_valueOf := goodIn_r _ [19, 20, 21, 18, 22, 23, 24, 25, 26, 27, 28, 29, 30, 31, 32, 33, 34, 35, 36, 37, 38, 39, 40, 41, 42, 43, 44, 45, 46, 47, 48, 49, 50, 51, 52, 53, 54, 55, 56, 57, 58, 59, 60, 61, 62, 63, 118, 119] (by decide +kernel) (by decide +kernel)
set_option maxRecDepth 20000 in
theorem gX5_reasonOf_X5_valueOf : GoodIn wsX5_reasonOf (va_wsS RX5 211 yX5_valueOf wsX5_valueOf) := goodIn_app (goodIn_of _ (by decide +kernel)) ggX5_reasonOf_X5_valueOf
set_option maxRecDepth 20000 in
theorem ggX5_reasonOf_X5_isKey : GoodIn wsX5_reasonOf wsX5_isKey := goodIn_r _ [67, 68, 69, 70, 18, 71, 95, 96, 97, 98, 99, 100, 101, 102, 103, 104, 105, 106, 107, 108, 109, 110, 111, 112, 113, 114, 115, 116, 117] (by decide +kernel) (by decide +kernel)
set_option maxRecDepth 20000 in
theorem gX5_reasonOf_X5_isKey : GoodIn wsX5_reasonOf (wsV RX5 145 RX5 yX5_isKey wsX5_isKey) := goodIn_app (goodIn_of _ (by decide +kernel)) ggX5_reasonOf_X5_isKey
set_option maxRecDepth 20000 in
theorem ggX5_reasonOf_X5_within : GoodIn wsX5_reasonOf wsX5_within := goodIn_r _ [71] (by decide +kernel) (by decide +kernel)
set_option maxRecDepth 20000 in
theorem gX5_reasonOf_X5_within : GoodIn wsX5_reasonOf (va_wsS RX5 139 yX5_within wsX5_within) := goodIn_app (goodIn_of _ (by decide +kernel)) ggX5_reasonOf_X5_within
set_option maxRecDepth 20000 in
theorem ggX5_reasonOf_X5_reckon : GoodIn wsX5_reasonOf wsX5_reckon := goodIn_ca (goodIn_r _ [75, 76, 77, 78, 79, 80, 81, 82, 83, 84, 18, 85, 86, 87, 88, 89, 90, 95, 96, 97, 98, 99, 100, 101, 102, 103, 104, 105, 106, 107, 108, 109, 110, 111, 112, 113, 114, 115, 116, 117] (by decide +kernel) (by decide +kernel)) (goodIn_sub (fun _ h => List.mem_cons_of_mem _ (List.mem_append_right _ h)) (by decide +kernel))
set_option maxRecDepth 20000 in
theorem gX5_reasonOf_X5_reckon : GoodIn wsX5_reasonOf (wsV RX5 188 RX5 yX5_reckon wsX5_reckon) := goodIn_app (goodIn_of _ (by decide +kernel)) ggX5_reasonOf_X5_reckon
set_option maxRecDepth 20000 in
theorem ggX5_reasonOf_X5_five : GoodIn wsX5_reasonOf wsX5_five := goodIn_ca (goodIn_r _ [94, 80, 95, 96, 97, 98, 99, 100, 101, 102, 103, 104, 105, 106, 107, 108, 109, 110, 111, 112, 113, 114, 115, 116, 117] (by decide +kernel) (by decide +kernel)) (goodIn_sub (fun _ h => List.mem_cons_of_mem _ (List.mem_append_right _ h)) (by decide +kernel))
set_option maxRecDepth 20000 in
theorem gX5_reasonOf_X5_five : GoodIn wsX5_reasonOf (wsV RX5 194 RX5 yX5_five wsX5_five) := goodIn_app (goodIn_of _ (by decide +kernel)) ggX5_reasonOf_X5_five
theorem dX5_reasonOf_0 : decode cX5_reasonOf 0 = .ok (.aload_n 0, 1) := by decide +kernel
theorem dX5_reasonOf_1 : decode cX5_reasonOf 1 = .ok (.getfield 202, 3) := by decide +kernel
theorem dX5_reasonOf_4 : decode cX5_reasonOf 4 = .ok (.bipush 16, 2) := by decide +kernel
theorem dX5_reasonOf_6 : decode cX5_reasonOf 6 = .ok (.if_icmp .eq 5, 3) := by decide +kernel
theorem dX5_reasonOf_9 : decode cX5_reasonOf 9 = .ok (.iconst 1, 1) := by decide +kernel
theorem dX5_reasonOf_10 : decode cX5_reasonOf 10 = .ok (.ireturn, 1) := by decide +kernel
theorem dX5_reasonOf_11 : decode cX5_reasonOf 11 = .ok (.lconst 0, 1) := by decide +kernel
theorem dX5_reasonOf_12 : decode cX5_reasonOf 12 = .ok (.lstore_n 2, 1) := by decide +kernel
theorem dX5_reasonOf_13 : decode cX5_reasonOf 13 = .ok (.iconst 0, 1) := by decide +kernel
theorem dX5_reasonOf_14 : decode cX5_reasonOf 14 = .ok (.istore 4, 2) := by decide +kernel
theorem dX5_reasonOf_16 : decode cX5_reasonOf 16 = .ok (.iload 4, 2) := by decide +kernel
theorem dX5_reasonOf_18 : decode cX5_reasonOf 18 = .ok (.bipush 16, 2) := by decide +kernel
theorem dX5_reasonOf_20 : decode cX5_reasonOf 20 = .ok (.if_icmp .ge 53, 3) := by decide +kernel
theorem dX5_reasonOf_23 : decode cX5_reasonOf 23 = .ok (.aload_n 0, 1) := by decide +kernel
theorem dX5_reasonOf_24 : decode cX5_reasonOf 24 = .ok (.getfield 30, 3) := by decide +kernel
theorem dX5_reasonOf_27 : decode cX5_reasonOf 27 = .ok (.iload 4, 2) := by decide +kernel
theorem dX5_reasonOf_29 : decode cX5_reasonOf 29 = .ok (.iaload, 1) := by decide +kernel
theorem dX5_reasonOf_30 : decode cX5_reasonOf 30 = .ok (.invokestatic 211, 3) := by decide +kernel
theorem dX5_reasonOf_33 : decode cX5_reasonOf 33 = .ok (.ifCond .ge 5, 3) := by decide +kernel
theorem dX5_reasonOf_36 : decode cX5_reasonOf 36 = .ok (.iconst 2, 1) := by decide +kernel
theorem dX5_reasonOf_37 : decode cX5_reasonOf 37 = .ok (.ireturn, 1) := by decide +kernel
theorem dX5_reasonOf_38 : decode cX5_reasonOf 38 = .ok (.iload 4, 2) := by decide +kernel
theorem dX5_reasonOf_40 : decode cX5_reasonOf 40 = .ok (.bipush 11, 2) := by decide +kernel
theorem dX5_reasonOf_42 : decode cX5_reasonOf 42 = .ok (.if_icmp .ge 23, 3) := by decide +kernel
theorem dX5_reasonOf_45 : decode cX5_reasonOf 45 = .ok (.ldc2_w 214, 3) := by decide +kernel
theorem dX5_reasonOf_48 : decode cX5_reasonOf 48 = .ok (.lload_n 2, 1) := by decide +kernel
theorem dX5_reasonOf_49 : decode cX5_reasonOf 49 = .ok (.lmul, 1) := by decide +kernel
theorem dX5_reasonOf_50 : decode cX5_reasonOf 50 = .ok (.aload_n 0, 1) := by decide +kernel
theorem dX5_reasonOf_51 : decode cX5_reasonOf 51 = .ok (.getfield 30, 3) := by decide +kernel
theorem dX5_reasonOf_54 : decode cX5_reasonOf 54 = .ok (.iload 4, 2) := by decide +kernel
theorem dX5_reasonOf_56 : decode cX5_reasonOf 56 = .ok (.iaload, 1) := by decide +kernel
theorem dX5_reasonOf_57 : decode cX5_reasonOf 57 = .ok (.invokestatic 211, 3) := by decide +kernel
theorem dX5_reasonOf_60 : decode cX5_reasonOf 60 = .ok (.i2l, 1) := by decide +kernel
theorem dX5_reasonOf_61 : decode cX5_reasonOf 61 = .ok (.ladd, 1) := by decide +kernel
theorem dX5_reasonOf_62 : decode cX5_reasonOf 62 = .ok (.goto 4, 3) := by decide +kernel
theorem dX5_reasonOf_65 : decode cX5_reasonOf 65 = .ok (.lload_n 2, 1) := by decide +kernel
theorem dX5_reasonOf_66 : decode cX5_reasonOf 66 = .ok (.lstore_n 2, 1) := by decide +kernel
theorem dX5_reasonOf_67 : decode cX5_reasonOf 67 = .ok (.iinc 4 1, 3) := by decide +kernel
theorem dX5_reasonOf_70 : decode cX5_reasonOf 70 = .ok (.goto (-54), 3) := by decide +kernel
theorem dX5_reasonOf_73 : decode cX5_reasonOf 73 = .ok (.lload_n 2, 1) := by decide +kernel
theorem dX5_reasonOf_74 : decode cX5_reasonOf 74 = .ok (.bipush 51, 2) := by decide +kernel
theorem dX5_reasonOf_76 : decode cX5_reasonOf 76 = .ok (.lshr, 1) := by decide +kernel
theorem dX5_reasonOf_77 : decode cX5_reasonOf 77 = .ok (.l2i, 1) := by decide +kernel
theorem dX5_reasonOf_78 : decode cX5_reasonOf 78 = .ok (.istore 4, 2) := by decide +kernel
theorem dX5_reasonOf_80 : decode cX5_reasonOf 80 = .ok (.lload_n 2, 1) := by decide +kernel
theorem dX5_reasonOf_81 : decode cX5_reasonOf 81 = .ok (.bipush 47, 2) := by decide +kernel
theorem dX5_reasonOf_83 : decode cX5_reasonOf 83 = .ok (.lshr, 1) := by decide +kernel
theorem dX5_reasonOf_84 : decode cX5_reasonOf 84 = .ok (.ldc2_w 200, 3) := by decide +kernel
theorem dX5_reasonOf_87 : decode cX5_reasonOf 87 = .ok (.land, 1) := by decide +kernel
theorem dX5_reasonOf_88 : decode cX5_reasonOf 88 = .ok (.l2i, 1) := by decide +kernel
theorem dX5_reasonOf_89 : decode cX5_reasonOf 89 = .ok (.istore 5, 2) := by decide +kernel
theorem dX5_reasonOf_91 : decode cX5_reasonOf 91 = .ok (.lload_n 2, 1) := by decide +kernel
theorem dX5_reasonOf_92 : decode cX5_reasonOf 92 = .ok (.bipush 30, 2) := by decide +kernel
theorem dX5_reasonOf_94 : decode cX5_reasonOf 94 = .ok (.lshr, 1) := by decide +kernel
theorem dX5_reasonOf_95 : decode cX5_reasonOf 95 = .ok (.ldc2_w 216, 3) := by decide +kernel
theorem dX5_reasonOf_98 : decode cX5_reasonOf 98 = .ok (.land, 1) := by decide +kernel
theorem dX5_reasonOf_99 : decode cX5_reasonOf 99 = .ok (.l2i, 1) := by decide +kernel
theorem dX5_reasonOf_100 : decode cX5_reasonOf 100 = .ok (.istore 6, 2) := by decide +kernel
theorem dX5_reasonOf_102 : decode cX5_reasonOf 102 = .ok (.lload_n 2, 1) := by decide +kernel
theorem dX5_reasonOf_103 : decode cX5_reasonOf 103 = .ok (.bipush 14, 2) := by decide +kernel
theorem dX5_reasonOf_105 : decode cX5_reasonOf 105 = .ok (.lshr, 1) := by decide +kernel
theorem dX5_reasonOf_106 : decode cX5_reasonOf 106 = .ok (.ldc2_w 143, 3) := by decide +kernel
theorem dX5_reasonOf_109 : decode cX5_reasonOf 109 = .ok (.land, 1) := by decide +kernel
theorem dX5_reasonOf_110 : decode cX5_reasonOf 110 = .ok (.l2i, 1) := by decide +kernel
theorem dX5_reasonOf_111 : decode cX5_reasonOf 111 = .ok (.istore 7, 2) := by decide +kernel
theorem dX5_reasonOf_113 : decode cX5_reasonOf 113 = .ok (.lload_n 2, 1) := by decide +kernel
theorem dX5_reasonOf_114 : decode cX5_reasonOf 114 = .ok (.ldc2_w 218, 3) := by decide +kernel
theorem dX5_reasonOf_117 : decode cX5_reasonOf 117 = .ok (.land, 1) := by decide +kernel
theorem dX5_reasonOf_118 : decode cX5_reasonOf 118 = .ok (.l2i, 1) := by decide +kernel
theorem dX5_reasonOf_119 : decode cX5_reasonOf 119 = .ok (.istore 8, 2) := by decide +kernel
theorem dX5_reasonOf_121 : decode cX5_reasonOf 121 = .ok (.aload_n 0, 1) := by decide +kernel
theorem dX5_reasonOf_122 : decode cX5_reasonOf 122 = .ok (.iload 4, 2) := by decide +kernel
theorem dX5_reasonOf_124 : decode cX5_reasonOf 124 = .ok (.invokevirtual 145, 3) := by decide +kernel
theorem dX5_reasonOf_127 : decode cX5_reasonOf 127 = .ok (.ifCond .eq 23, 3) := by decide +kernel
theorem dX5_reasonOf_130 : decode cX5_reasonOf 130 = .ok (.iload 5, 2) := by decide +kernel
theorem dX5_reasonOf_132 : decode cX5_reasonOf 132 = .ok (.bipush 9, 2) := by decide +kernel
theorem dX5_reasonOf_134 : decode cX5_reasonOf 134 = .ok (.if_icmp .gt 16, 3) := by decide +kernel
theorem dX5_reasonOf_137 : decode cX5_reasonOf 137 = .ok (.iload 6, 2) := by decide +kernel
theorem dX5_reasonOf_139 : decode cX5_reasonOf 139 = .ok (.i2l, 1) := by decide +kernel
theorem dX5_reasonOf_140 : decode cX5_reasonOf 140 = .ok (.lconst 1, 1) := by decide +kernel
theorem dX5_reasonOf_141 : decode cX5_reasonOf 141 = .ok (.ldc2_w 173, 3) := by decide +kernel
theorem dX5_reasonOf_144 : decode cX5_reasonOf 144 = .ok (.invokestatic 139, 3) := by decide +kernel
theorem dX5_reasonOf_147 : decode cX5_reasonOf 147 = .ok (.ifCond .ne 5, 3) := by decide +kernel
theorem dX5_reasonOf_150 : decode cX5_reasonOf 150 = .ok (.iconst 3, 1) := by decide +kernel
theorem dX5_reasonOf_151 : decode cX5_reasonOf 151 = .ok (.ireturn, 1) := by decide +kernel
theorem dX5_reasonOf_152 : decode cX5_reasonOf 152 = .ok (.aload_n 0, 1) := by decide +kernel
theorem dX5_reasonOf_153 : decode cX5_reasonOf 153 = .ok (.iload 4, 2) := by decide +kernel
theorem dX5_reasonOf_155 : decode cX5_reasonOf 155 = .ok (.lload_n 2, 1) := by decide +kernel
theorem dX5_reasonOf_156 : decode cX5_reasonOf 156 = .ok (.invokevirtual 188, 3) := by decide +kernel
theorem dX5_reasonOf_159 : decode cX5_reasonOf 159 = .ok (.iconst 0, 1) := by decide +kernel
theorem dX5_reasonOf_160 : decode cX5_reasonOf 160 = .ok (.istore 9, 2) := by decide +kernel
theorem dX5_reasonOf_162 : decode cX5_reasonOf 162 = .ok (.iload 9, 2) := by decide +kernel
theorem dX5_reasonOf_164 : decode cX5_reasonOf 164 = .ok (.iconst 5, 1) := by decide +kernel
theorem dX5_reasonOf_165 : decode cX5_reasonOf 165 = .ok (.if_icmp .ge 33, 3) := by decide +kernel
theorem dX5_reasonOf_168 : decode cX5_reasonOf 168 = .ok (.aload_n 0, 1) := by decide +kernel
theorem dX5_reasonOf_169 : decode cX5_reasonOf 169 = .ok (.iload 9, 2) := by decide +kernel
theorem dX5_reasonOf_171 : decode cX5_reasonOf 171 = .ok (.invokevirtual 194, 3) := by decide +kernel
theorem dX5_reasonOf_174 : decode cX5_reasonOf 174 = .ok (.aload_n 0, 1) := by decide +kernel
theorem dX5_reasonOf_175 : decode cX5_reasonOf 175 = .ok (.getfield 30, 3) := by decide +kernel
theorem dX5_reasonOf_178 : decode cX5_reasonOf 178 = .ok (.bipush 11, 2) := by decide +kernel
theorem dX5_reasonOf_180 : decode cX5_reasonOf 180 = .ok (.iload 9, 2) := by decide +kernel
theorem dX5_reasonOf_182 : decode cX5_reasonOf 182 = .ok (.iadd, 1) := by decide +kernel
theorem dX5_reasonOf_183 : decode cX5_reasonOf 183 = .ok (.iaload, 1) := by decide +kernel
theorem dX5_reasonOf_184 : decode cX5_reasonOf 184 = .ok (.invokestatic 211, 3) := by decide +kernel
theorem dX5_reasonOf_187 : decode cX5_reasonOf 187 = .ok (.if_icmp .eq 5, 3) := by decide +kernel
theorem dX5_reasonOf_190 : decode cX5_reasonOf 190 = .ok (.iconst 4, 1) := by decide +kernel
theorem dX5_reasonOf_191 : decode cX5_reasonOf 191 = .ok (.ireturn, 1) := by decide +kernel
theorem dX5_reasonOf_192 : decode cX5_reasonOf 192 = .ok (.iinc 9 1, 3) := by decide +kernel
theorem dX5_reasonOf_195 : decode cX5_reasonOf 195 = .ok (.goto (-33), 3) := by decide +kernel
theorem dX5_reasonOf_198 : decode cX5_reasonOf 198 = .ok (.iload_n 1, 1) := by decide +kernel
theorem dX5_reasonOf_199 : decode cX5_reasonOf 199 = .ok (.iload 7, 2) := by decide +kernel
theorem dX5_reasonOf_201 : decode cX5_reasonOf 201 = .ok (.if_icmp .lt 36, 3) := by decide +kernel
theorem dX5_reasonOf_204 : decode cX5_reasonOf 204 = .ok (.iload_n 1, 1) := by decide +kernel
theorem dX5_reasonOf_205 : decode cX5_reasonOf 205 = .ok (.iload 7, 2) := by decide +kernel
theorem dX5_reasonOf_207 : decode cX5_reasonOf 207 = .ok (.bipush 100, 2) := by decide +kernel
theorem dX5_reasonOf_209 : decode cX5_reasonOf 209 = .ok (.iadd, 1) := by decide +kernel
theorem dX5_reasonOf_210 : decode cX5_reasonOf 210 = .ok (.if_icmp .gt 27, 3) := by decide +kernel
theorem dX5_reasonOf_213 : decode cX5_reasonOf 213 = .ok (.iload_n 1, 1) := by decide +kernel
theorem dX5_reasonOf_214 : decode cX5_reasonOf 214 = .ok (.i2l, 1) := by decide +kernel
theorem dX5_reasonOf_215 : decode cX5_reasonOf 215 = .ok (.aload_n 0, 1) := by decide +kernel
theorem dX5_reasonOf_216 : decode cX5_reasonOf 216 = .ok (.getfield 7, 3) := by decide +kernel
theorem dX5_reasonOf_219 : decode cX5_reasonOf 219 = .ok (.iload 4, 2) := by decide +kernel
theorem dX5_reasonOf_221 : decode cX5_reasonOf 221 = .ok (.iaload, 1) := by decide +kernel
theorem dX5_reasonOf_222 : decode cX5_reasonOf 222 = .ok (.i2l, 1) := by decide +kernel
theorem dX5_reasonOf_223 : decode cX5_reasonOf 223 = .ok (.aload_n 0, 1) := by decide +kernel
theorem dX5_reasonOf_224 : decode cX5_reasonOf 224 = .ok (.getfield 13, 3) := by decide +kernel
theorem dX5_reasonOf_227 : decode cX5_reasonOf 227 = .ok (.iload 4, 2) := by decide +kernel
theorem dX5_reasonOf_229 : decode cX5_reasonOf 229 = .ok (.iaload, 1) := by decide +kernel
theorem dX5_reasonOf_230 : decode cX5_reasonOf 230 = .ok (.i2l, 1) := by decide +kernel
theorem dX5_reasonOf_231 : decode cX5_reasonOf 231 = .ok (.invokestatic 139, 3) := by decide +kernel
theorem dX5_reasonOf_234 : decode cX5_reasonOf 234 = .ok (.ifCond .ne 5, 3) := by decide +kernel
theorem dX5_reasonOf_237 : decode cX5_reasonOf 237 = .ok (.iconst 5, 1) := by decide +kernel
theorem dX5_reasonOf_238 : decode cX5_reasonOf 238 = .ok (.ireturn, 1) := by decide +kernel
theorem dX5_reasonOf_239 : decode cX5_reasonOf 239 = .ok (.aload_n 0, 1) := by decide +kernel
theorem dX5_reasonOf_240 : decode cX5_reasonOf 240 = .ok (.getfield 33, 3) := by decide +kernel
theorem dX5_reasonOf_243 : decode cX5_reasonOf 243 = .ok (.iload 8, 2) := by decide +kernel
theorem dX5_reasonOf_245 : decode cX5_reasonOf 245 = .ok (.baload, 1) := by decide +kernel
theorem dX5_reasonOf_246 : decode cX5_reasonOf 246 = .ok (.iconst 2, 1) := by decide +kernel
theorem dX5_reasonOf_247 : decode cX5_reasonOf 247 = .ok (.if_icmp .ne 6, 3) := by decide +kernel
theorem dX5_reasonOf_250 : decode cX5_reasonOf 250 = .ok (.bipush 7, 2) := by decide +kernel
theorem dX5_reasonOf_252 : decode cX5_reasonOf 252 = .ok (.ireturn, 1) := by decide +kernel
theorem dX5_reasonOf_253 : decode cX5_reasonOf 253 = .ok (.aload_n 0, 1) := by decide +kernel
theorem dX5_reasonOf_254 : decode cX5_reasonOf 254 = .ok (.iload 8, 2) := by decide +kernel
theorem dX5_reasonOf_256 : decode cX5_reasonOf 256 = .ok (.putfield 42, 3) := by decide +kernel
theorem dX5_reasonOf_259 : decode cX5_reasonOf 259 = .ok (.aload_n 0, 1) := by decide +kernel
theorem dX5_reasonOf_260 : decode cX5_reasonOf 260 = .ok (.getfield 33, 3) := by decide +kernel
theorem dX5_reasonOf_263 : decode cX5_reasonOf 263 = .ok (.iload 8, 2) := by decide +kernel
theorem dX5_reasonOf_265 : decode cX5_reasonOf 265 = .ok (.baload, 1) := by decide +kernel
theorem dX5_reasonOf_266 : decode cX5_reasonOf 266 = .ok (.iconst 1, 1) := by decide +kernel
theorem dX5_reasonOf_267 : decode cX5_reasonOf 267 = .ok (.if_icmp .ne 6, 3) := by decide +kernel
theorem dX5_reasonOf_270 : decode cX5_reasonOf 270 = .ok (.bipush 6, 2) := by decide +kernel
theorem dX5_reasonOf_272 : decode cX5_reasonOf 272 = .ok (.ireturn, 1) := by decide +kernel
theorem dX5_reasonOf_273 : decode cX5_reasonOf 273 = .ok (.aload_n 0, 1) := by decide +kernel
theorem dX5_reasonOf_274 : decode cX5_reasonOf 274 = .ok (.getfield 33, 3) := by decide +kernel
theorem dX5_reasonOf_277 : decode cX5_reasonOf 277 = .ok (.iload 8, 2) := by decide +kernel
theorem dX5_reasonOf_279 : decode cX5_reasonOf 279 = .ok (.iconst 1, 1) := by decide +kernel
theorem dX5_reasonOf_280 : decode cX5_reasonOf 280 = .ok (.bastore, 1) := by decide +kernel
theorem dX5_reasonOf_281 : decode cX5_reasonOf 281 = .ok (.aload_n 0, 1) := by decide +kernel
theorem dX5_reasonOf_282 : decode cX5_reasonOf 282 = .ok (.getfield 36, 3) := by decide +kernel
theorem dX5_reasonOf_285 : decode cX5_reasonOf 285 = .ok (.iload 8, 2) := by decide +kernel
theorem dX5_reasonOf_287 : decode cX5_reasonOf 287 = .ok (.iload_n 1, 1) := by decide +kernel
theorem dX5_reasonOf_288 : decode cX5_reasonOf 288 = .ok (.iastore, 1) := by decide +kernel
theorem dX5_reasonOf_289 : decode cX5_reasonOf 289 = .ok (.aload_n 0, 1) := by decide +kernel
theorem dX5_reasonOf_290 : decode cX5_reasonOf 290 = .ok (.getfield 39, 3) := by decide +kernel
theorem dX5_reasonOf_293 : decode cX5_reasonOf 293 = .ok (.iload 8, 2) := by decide +kernel
theorem dX5_reasonOf_295 : decode cX5_reasonOf 295 = .ok (.aload_n 0, 1) := by decide +kernel
theorem dX5_reasonOf_296 : decode cX5_reasonOf 296 = .ok (.getfield 205, 3) := by decide +kernel
theorem dX5_reasonOf_299 : decode cX5_reasonOf 299 = .ok (.iastore, 1) := by decide +kernel
theorem dX5_reasonOf_300 : decode cX5_reasonOf 300 = .ok (.iconst 0, 1) := by decide +kernel
theorem dX5_reasonOf_301 : decode cX5_reasonOf 301 = .ok (.ireturn, 1) := by decide +kernel
set_option maxRecDepth 20000 in
theorem ggX5_first_X5_within : GoodIn wsX5_first wsX5_within := goodIn_r _ [9] (by decide +kernel) (by decide +kernel)
set_option maxRecDepth 20000 in
theorem gX5_first_X5_within : GoodIn wsX5_first (va_wsS RX5 139 yX5_within wsX5_within) := goodIn_app (goodIn_of _ (by decide +kernel)) ggX5_first_X5_within
theorem dX5_first_0 : decode cX5_first 0 = .ok (.aload_n 0, 1) := by decide +kernel
theorem dX5_first_1 : decode cX5_first 1 = .ok (.iconst 0, 1) := by decide +kernel
theorem dX5_first_2 : decode cX5_first 2 = .ok (.putfield 136, 3) := by decide +kernel
theorem dX5_first_5 : decode cX5_first 5 = .ok (.iload_n 1, 1) := by decide +kernel
theorem dX5_first_6 : decode cX5_first 6 = .ok (.i2l, 1) := by decide +kernel
theorem dX5_first_7 : decode cX5_first 7 = .ok (.lconst 0, 1) := by decide +kernel
theorem dX5_first_8 : decode cX5_first 8 = .ok (.ldc2_w 220, 3) := by decide +kernel
theorem dX5_first_11 : decode cX5_first 11 = .ok (.invokestatic 139, 3) := by decide +kernel
theorem dX5_first_14 : decode cX5_first 14 = .ok (.ifCond .ne 6, 3) := by decide +kernel
theorem dX5_first_17 : decode cX5_first 17 = .ok (.bipush (-22), 2) := by decide +kernel
theorem dX5_first_19 : decode cX5_first 19 = .ok (.ireturn, 1) := by decide +kernel
theorem dX5_first_20 : decode cX5_first 20 = .ok (.aload_n 0, 1) := by decide +kernel
theorem dX5_first_21 : decode cX5_first 21 = .ok (.getfield 42, 3) := by decide +kernel
theorem dX5_first_24 : decode cX5_first 24 = .ok (.ifCond .ge 7, 3) := by decide +kernel
theorem dX5_first_27 : decode cX5_first 27 = .ok (.iconst (-1), 1) := by decide +kernel
theorem dX5_first_28 : decode cX5_first 28 = .ok (.goto 40, 3) := by decide +kernel
theorem dX5_first_31 : decode cX5_first 31 = .ok (.iload_n 1, 1) := by decide +kernel
theorem dX5_first_32 : decode cX5_first 32 = .ok (.ifCond .ne 10, 3) := by decide +kernel
theorem dX5_first_35 : decode cX5_first 35 = .ok (.aload_n 0, 1) := by decide +kernel
theorem dX5_first_36 : decode cX5_first 36 = .ok (.getfield 42, 3) := by decide +kernel
theorem dX5_first_39 : decode cX5_first 39 = .ok (.goto 29, 3) := by decide +kernel
theorem dX5_first_42 : decode cX5_first 42 = .ok (.iload_n 1, 1) := by decide +kernel
theorem dX5_first_43 : decode cX5_first 43 = .ok (.iconst 1, 1) := by decide +kernel
theorem dX5_first_44 : decode cX5_first 44 = .ok (.if_icmp .ne 15, 3) := by decide +kernel
theorem dX5_first_47 : decode cX5_first 47 = .ok (.aload_n 0, 1) := by decide +kernel
theorem dX5_first_48 : decode cX5_first 48 = .ok (.getfield 36, 3) := by decide +kernel
theorem dX5_first_51 : decode cX5_first 51 = .ok (.aload_n 0, 1) := by decide +kernel
theorem dX5_first_52 : decode cX5_first 52 = .ok (.getfield 42, 3) := by decide +kernel
theorem dX5_first_55 : decode cX5_first 55 = .ok (.iaload, 1) := by decide +kernel
theorem dX5_first_56 : decode cX5_first 56 = .ok (.goto 12, 3) := by decide +kernel
theorem dX5_first_59 : decode cX5_first 59 = .ok (.aload_n 0, 1) := by decide +kernel
theorem dX5_first_60 : decode cX5_first 60 = .ok (.getfield 39, 3) := by decide +kernel
theorem dX5_first_63 : decode cX5_first 63 = .ok (.aload_n 0, 1) := by decide +kernel
theorem dX5_first_64 : decode cX5_first 64 = .ok (.getfield 42, 3) := by decide +kernel
theorem dX5_first_67 : decode cX5_first 67 = .ok (.iaload, 1) := by decide +kernel
theorem dX5_first_68 : decode cX5_first 68 = .ok (.ireturn, 1) := by decide +kernel
end
section
set_option maxRecDepth 20000 in
theorem ggX5_refund_X5_within : GoodIn wsX5_refund wsX5_within := goodIn_r _ [7] (by decide +kernel) (by decide +kernel)
set_option maxRecDepth 20000 in
theorem gX5_refund_X5_within : GoodIn wsX5_refund (va_wsS RX5 139 yX5_within wsX5_within) := goodIn_app (goodIn_of _ (by decide +kernel)) ggX5_refund_X5_within
theorem dX5_refund_0 : decode cX5_refund 0 = .ok (.aload_n 0, 1) := by decide +kernel
theorem dX5_refund_1 : decode cX5_refund 1 = .ok (.iconst 0, 1) := by decide +kernel
theorem dX5_refund_2 : decode cX5_refund 2 = .ok (.putfield 136, 3) := by decide +kernel
theorem dX5_refund_5 : decode cX5_refund 5 = .ok (.lload_n 1, 1) := by decide +kernel
theorem dX5_refund_6 : decode cX5_refund 6 = .ok (.lconst 0, 1) := by decide +kernel
theorem dX5_refund_7 : decode cX5_refund 7 = .ok (.aload_n 0, 1) := by decide +kernel
theorem dX5_refund_8 : decode cX5_refund 8 = .ok (.getfield 177, 3) := by decide +kernel
theorem dX5_refund_11 : decode cX5_refund 11 = .ok (.iconst 1, 1) := by decide +kernel
theorem dX5_refund_12 : decode cX5_refund 12 = .ok (.isub, 1) := by decide +kernel
theorem dX5_refund_13 : decode cX5_refund 13 = .ok (.i2l, 1) := by decide +kernel
theorem dX5_refund_14 : decode cX5_refund 14 = .ok (.invokestatic 139, 3) := by decide +kernel
theorem dX5_refund_17 : decode cX5_refund 17 = .ok (.ifCond .eq 13, 3) := by decide +kernel
theorem dX5_refund_20 : decode cX5_refund 20 = .ok (.aload_n 0, 1) := by decide +kernel
theorem dX5_refund_21 : decode cX5_refund 21 = .ok (.getfield 33, 3) := by decide +kernel
theorem dX5_refund_24 : decode cX5_refund 24 = .ok (.lload_n 1, 1) := by decide +kernel
theorem dX5_refund_25 : decode cX5_refund 25 = .ok (.l2i, 1) := by decide +kernel
theorem dX5_refund_26 : decode cX5_refund 26 = .ok (.baload, 1) := by decide +kernel
theorem dX5_refund_27 : decode cX5_refund 27 = .ok (.ifCond .le 5, 3) := by decide +kernel
theorem dX5_refund_30 : decode cX5_refund 30 = .ok (.iconst 0, 1) := by decide +kernel
theorem dX5_refund_31 : decode cX5_refund 31 = .ok (.ireturn, 1) := by decide +kernel
theorem dX5_refund_32 : decode cX5_refund 32 = .ok (.aload_n 0, 1) := by decide +kernel
theorem dX5_refund_33 : decode cX5_refund 33 = .ok (.getfield 33, 3) := by decide +kernel
theorem dX5_refund_36 : decode cX5_refund 36 = .ok (.lload_n 1, 1) := by decide +kernel
theorem dX5_refund_37 : decode cX5_refund 37 = .ok (.l2i, 1) := by decide +kernel
theorem dX5_refund_38 : decode cX5_refund 38 = .ok (.iconst 2, 1) := by decide +kernel
theorem dX5_refund_39 : decode cX5_refund 39 = .ok (.bastore, 1) := by decide +kernel
theorem dX5_refund_40 : decode cX5_refund 40 = .ok (.iconst 1, 1) := by decide +kernel
theorem dX5_refund_41 : decode cX5_refund 41 = .ok (.ireturn, 1) := by decide +kernel
set_option maxRecDepth 20000 in
theorem ggX5_digest_X5_within : GoodIn wsX5_digest wsX5_within := goodIn_r _ [8] (by decide +kernel) (by decide +kernel)
set_option maxRecDepth 20000 in
theorem gX5_digest_X5_within : GoodIn wsX5_digest (va_wsS RX5 139 yX5_within wsX5_within) := goodIn_app (goodIn_of _ (by decide +kernel)) ggX5_digest_X5_within
theorem dX5_digest_0 : decode cX5_digest 0 = .ok (.aload_n 0, 1) := by decide +kernel
theorem dX5_digest_1 : decode cX5_digest 1 = .ok (.aload_n 0, 1) := by decide +kernel
theorem dX5_digest_2 : decode cX5_digest 2 = .ok (.getfield 157, 3) := by decide +kernel
theorem dX5_digest_5 : decode cX5_digest 5 = .ok (.ifCond .eq 19, 3) := by decide +kernel
theorem dX5_digest_8 : decode cX5_digest 8 = .ok (.iload_n 1, 1) := by decide +kernel
theorem dX5_digest_9 : decode cX5_digest 9 = .ok (.i2l, 1) := by decide +kernel
theorem dX5_digest_10 : decode cX5_digest 10 = .ok (.lconst 0, 1) := by decide +kernel
theorem dX5_digest_11 : decode cX5_digest 11 = .ok (.ldc2_w 192, 3) := by decide +kernel
theorem dX5_digest_14 : decode cX5_digest 14 = .ok (.invokestatic 139, 3) := by decide +kernel
theorem dX5_digest_17 : decode cX5_digest 17 = .ok (.ifCond .eq 7, 3) := by decide +kernel
theorem dX5_digest_20 : decode cX5_digest 20 = .ok (.iconst 0, 1) := by decide +kernel
theorem dX5_digest_21 : decode cX5_digest 21 = .ok (.goto 4, 3) := by decide +kernel
theorem dX5_digest_24 : decode cX5_digest 24 = .ok (.iconst 1, 1) := by decide +kernel
theorem dX5_digest_25 : decode cX5_digest 25 = .ok (.putfield 136, 3) := by decide +kernel
theorem dX5_digest_28 : decode cX5_digest 28 = .ok (.aload_n 0, 1) := by decide +kernel
theorem dX5_digest_29 : decode cX5_digest 29 = .ok (.getfield 136, 3) := by decide +kernel
theorem dX5_digest_32 : decode cX5_digest 32 = .ok (.ifCond .le 7, 3) := by decide +kernel
theorem dX5_digest_35 : decode cX5_digest 35 = .ok (.iconst 0, 1) := by decide +kernel
theorem dX5_digest_36 : decode cX5_digest 36 = .ok (.goto 9, 3) := by decide +kernel
theorem dX5_digest_39 : decode cX5_digest 39 = .ok (.aload_n 0, 1) := by decide +kernel
theorem dX5_digest_40 : decode cX5_digest 40 = .ok (.getfield 46, 3) := by decide +kernel
theorem dX5_digest_43 : decode cX5_digest 43 = .ok (.iload_n 1, 1) := by decide +kernel
theorem dX5_digest_44 : decode cX5_digest 44 = .ok (.baload, 1) := by decide +kernel
theorem dX5_digest_45 : decode cX5_digest 45 = .ok (.ireturn, 1) := by decide +kernel
set_option maxRecDepth 20000 in
theorem ggX5_spent_X5_within : GoodIn wsX5_spent wsX5_within := goodIn_r _ [7] (by decide +kernel) (by decide +kernel)
set_option maxRecDepth 20000 in
theorem gX5_spent_X5_within : GoodIn wsX5_spent (va_wsS RX5 139 yX5_within wsX5_within) := goodIn_app (goodIn_of _ (by decide +kernel)) ggX5_spent_X5_within
theorem dX5_spent_0 : decode cX5_spent 0 = .ok (.aload_n 0, 1) := by decide +kernel
theorem dX5_spent_1 : decode cX5_spent 1 = .ok (.iconst 0, 1) := by decide +kernel
theorem dX5_spent_2 : decode cX5_spent 2 = .ok (.putfield 136, 3) := by decide +kernel
theorem dX5_spent_5 : decode cX5_spent 5 = .ok (.lload_n 1, 1) := by decide +kernel
theorem dX5_spent_6 : decode cX5_spent 6 = .ok (.lconst 0, 1) := by decide +kernel
theorem dX5_spent_7 : decode cX5_spent 7 = .ok (.ldc2_w 218, 3) := by decide +kernel
theorem dX5_spent_10 : decode cX5_spent 10 = .ok (.invokestatic 139, 3) := by decide +kernel
theorem dX5_spent_13 : decode cX5_spent 13 = .ok (.ifCond .eq 13, 3) := by decide +kernel
theorem dX5_spent_16 : decode cX5_spent 16 = .ok (.aload_n 0, 1) := by decide +kernel
theorem dX5_spent_17 : decode cX5_spent 17 = .ok (.getfield 33, 3) := by decide +kernel
theorem dX5_spent_20 : decode cX5_spent 20 = .ok (.lload_n 1, 1) := by decide +kernel
theorem dX5_spent_21 : decode cX5_spent 21 = .ok (.l2i, 1) := by decide +kernel
theorem dX5_spent_22 : decode cX5_spent 22 = .ok (.baload, 1) := by decide +kernel
theorem dX5_spent_23 : decode cX5_spent 23 = .ok (.goto 4, 3) := by decide +kernel
theorem dX5_spent_26 : decode cX5_spent 26 = .ok (.iconst 0, 1) := by decide +kernel
theorem dX5_spent_27 : decode cX5_spent 27 = .ok (.ireturn, 1) := by decide +kernel
theorem dX5_serial_0 : decode cX5_serial 0 = .ok (.aload_n 0, 1) := by decide +kernel
theorem dX5_serial_1 : decode cX5_serial 1 = .ok (.iconst 0, 1) := by decide +kernel
theorem dX5_serial_2 : decode cX5_serial 2 = .ok (.putfield 136, 3) := by decide +kernel
theorem dX5_serial_5 : decode cX5_serial 5 = .ok (.aload_n 0, 1) := by decide +kernel
theorem dX5_serial_6 : decode cX5_serial 6 = .ok (.getfield 177, 3) := by decide +kernel
theorem dX5_serial_9 : decode cX5_serial 9 = .ok (.i2l, 1) := by decide +kernel
theorem dX5_serial_10 : decode cX5_serial 10 = .ok (.lreturn, 1) := by decide +kernel
theorem dJx00060_init_da8c8_0 : decode cJx00060_init_da8c8 0 = .ok (.aload_n 0, 1) := by decide +kernel
theorem dJx00060_init_da8c8_1 : decode cJx00060_init_da8c8 1 = .ok (.invokespecial 1, 3) := by decide +kernel
theorem dJx00060_init_da8c8_4 : decode cJx00060_init_da8c8 4 = .ok (.return_, 1) := by decide +kernel
theorem dJx00060_init_a7421_0 : decode cJx00060_init_a7421 0 = .ok (.aload_n 0, 1) := by decide +kernel
theorem dJx00060_init_a7421_1 : decode cJx00060_init_a7421 1 = .ok (.aload_n 1, 1) := by decide +kernel
theorem dJx00060_init_a7421_2 : decode cJx00060_init_a7421 2 = .ok (.invokespecial 7, 3) := by decide +kernel
theorem dJx00060_init_a7421_5 : decode cJx00060_init_a7421 5 = .ok (.return_, 1) := by decide +kernel
set_option maxRecDepth 20000 in
theorem ggJ0_length_8abf5_J0_coder_7d493 : GoodIn wsJ0_length_8abf5 wsJ0_coder_7d493 := goodIn_r _ [6, 7, 8, 9, 10] (by decide +kernel) (by decide +kernel)
set_option maxRecDepth 20000 in
theorem gJ0_length_8abf5_J0_coder_7d493 : GoodIn wsJ0_length_8abf5 (wsV RJ0 335 RJ0 yJ0_coder_7d493 wsJ0_coder_7d493) := goodIn_app (goodIn_of _ (by decide +kernel)) ggJ0_length_8abf5_J0_coder_7d493
theorem dJ0_length_8abf5_0 : decode cJ0_length_8abf5 0 = .ok (.aload_n 0, 1) := by decide +kernel
theorem dJ0_length_8abf5_1 : decode cJ0_length_8abf5 1 = .ok (.getfield 9, 3) := by decide +kernel
theorem dJ0_length_8abf5_4 : decode cJ0_length_8abf5 4 = .ok (.arraylength, 1) := by decide +kernel
theorem dJ0_length_8abf5_5 : decode cJ0_length_8abf5 5 = .ok (.aload_n 0, 1) := by decide +kernel
theorem dJ0_length_8abf5_6 : decode cJ0_length_8abf5 6 = .ok (.invokevirtual 335, 3) := by decide +kernel
theorem dJ0_length_8abf5_9 : decode cJ0_length_8abf5 9 = .ok (.ishr, 1) := by decide +kernel
theorem dJ0_length_8abf5_10 : decode cJ0_length_8abf5 10 = .ok (.ireturn, 1) := by decide +kernel
set_option maxRecDepth 20000 in
theorem ggJ0_charAt_5068e_J0_isLatin1_aae02 : GoodIn wsJ0_charAt_5068e wsJ0_isLatin1_aae02 := goodIn_r _ [6, 7, 8, 38, 39] (by decide +kernel) (by decide +kernel)
set_option maxRecDepth 20000 in
theorem gJ0_charAt_5068e_J0_isLatin1_aae02 : GoodIn wsJ0_charAt_5068e (wsV RJ0 492 RJ0 yJ0_isLatin1_aae02 wsJ0_isLatin1_aae02) := goodIn_app (goodIn_of _ (by decide +kernel)) ggJ0_charAt_5068e_J0_isLatin1_aae02
set_option maxRecDepth 20000 in
theorem ggJ0_charAt_5068e_J1_charAt_3b067 : GoodIn wsJ0_charAt_5068e wsJ1_charAt_3b067 := goodIn_r _ [12, 13, 14, 5, 15, 16, 17, 18, 19, 20] (by decide +kernel) (by decide +kernel)
set_option maxRecDepth 20000 in
theorem gJ0_charAt_5068e_J1_charAt_3b067 : GoodIn wsJ0_charAt_5068e (va_wsS RJ0 495 yJ1_charAt_3b067 wsJ1_charAt_3b067) := goodIn_app (goodIn_of _ (by decide +kernel)) ggJ0_charAt_5068e_J1_charAt_3b067
set_option maxRecDepth 20000 in
theorem ggJ0_charAt_5068e_J2_charAt_3b067 : GoodIn wsJ0_charAt_5068e wsJ2_charAt_3b067 := goodIn_r _ [24, 25, 26, 23, 27, 28, 29, 30, 31, 14, 5, 15, 16, 17, 18, 19, 20, 32, 33, 34, 35, 36, 37] (by decide +kernel) (by decide +kernel)
set_option maxRecDepth 20000 in
theorem gJ0_charAt_5068e_J2_charAt_3b067 : GoodIn wsJ0_charAt_5068e (va_wsS RJ0 498 yJ2_charAt_3b067 wsJ2_charAt_3b067) := goodIn_app (goodIn_of _ (by decide +kernel)) ggJ0_charAt_5068e_J2_charAt_3b067
theorem dJ0_charAt_5068e_0 : decode cJ0_charAt_5068e 0 = .ok (.aload_n 0, 1) := by decide +kernel
theorem dJ0_charAt_5068e_1 : decode cJ0_charAt_5068e 1 = .ok (.invokevirtual 492, 3) := by decide +kernel
theorem dJ0_charAt_5068e_4 : decode cJ0_charAt_5068e 4 = .ok (.ifCond .eq 12, 3) := by decide +kernel
theorem dJ0_charAt_5068e_7 : decode cJ0_charAt_5068e 7 = .ok (.aload_n 0, 1) := by decide +kernel
theorem dJ0_charAt_5068e_8 : decode cJ0_charAt_5068e 8 = .ok (.getfield 9, 3) := by decide +kernel
theorem dJ0_charAt_5068e_11 : decode cJ0_charAt_5068e 11 = .ok (.iload_n 1, 1) := by decide +kernel
theorem dJ0_charAt_5068e_12 : decode cJ0_charAt_5068e 12 = .ok (.invokestatic 495, 3) := by decide +kernel
theorem dJ0_charAt_5068e_15 : decode cJ0_charAt_5068e 15 = .ok (.ireturn, 1) := by decide +kernel
theorem dJ0_charAt_5068e_16 : decode cJ0_charAt_5068e 16 = .ok (.aload_n 0, 1) := by decide +kernel
theorem dJ0_charAt_5068e_17 : decode cJ0_charAt_5068e 17 = .ok (.getfield 9, 3) := by decide +kernel
theorem dJ0_charAt_5068e_20 : decode cJ0_charAt_5068e 20 = .ok (.iload_n 1, 1) := by decide +kernel
theorem dJ0_charAt_5068e_21 : decode cJ0_charAt_5068e 21 = .ok (.invokestatic 498, 3) := by decide +kernel
theorem dJ0_charAt_5068e_24 : decode cJ0_charAt_5068e 24 = .ok (.ireturn, 1) := by decide +kernel
theorem dJ0_coder_7d493_0 : decode cJ0_coder_7d493 0 = .ok (.getstatic 38, 3) := by decide +kernel
theorem dJ0_coder_7d493_3 : decode cJ0_coder_7d493 3 = .ok (.ifCond .eq 10, 3) := by decide +kernel
theorem dJ0_coder_7d493_6 : decode cJ0_coder_7d493 6 = .ok (.aload_n 0, 1) := by decide +kernel
theorem dJ0_coder_7d493_7 : decode cJ0_coder_7d493 7 = .ok (.getfield 15, 3) := by decide +kernel
theorem dJ0_coder_7d493_10 : decode cJ0_coder_7d493 10 = .ok (.goto 4, 3) := by decide +kernel
theorem dJ0_coder_7d493_13 : decode cJ0_coder_7d493 13 = .ok (.iconst 1, 1) := by decide +kernel
theorem dJ0_coder_7d493_14 : decode cJ0_coder_7d493 14 = .ok (.ireturn, 1) := by decide +kernel
theorem dJ0_isLatin1_aae02_0 : decode cJ0_isLatin1_aae02 0 = .ok (.getstatic 38, 3) := by decide +kernel
theorem dJ0_isLatin1_aae02_3 : decode cJ0_isLatin1_aae02 3 = .ok (.ifCond .eq 14, 3) := by decide +kernel
theorem dJ0_isLatin1_aae02_6 : decode cJ0_isLatin1_aae02 6 = .ok (.aload_n 0, 1) := by decide +kernel
theorem dJ0_isLatin1_aae02_7 : decode cJ0_isLatin1_aae02 7 = .ok (.getfield 15, 3) := by decide +kernel
theorem dJ0_isLatin1_aae02_10 : decode cJ0_isLatin1_aae02 10 = .ok (.ifCond .ne 7, 3) := by decide +kernel
theorem dJ0_isLatin1_aae02_13 : decode cJ0_isLatin1_aae02 13 = .ok (.iconst 1, 1) := by decide +kernel
theorem dJ0_isLatin1_aae02_14 : decode cJ0_isLatin1_aae02 14 = .ok (.goto 4, 3) := by decide +kernel
theorem dJ0_isLatin1_aae02_17 : decode cJ0_isLatin1_aae02 17 = .ok (.iconst 0, 1) := by decide +kernel
theorem dJ0_isLatin1_aae02_18 : decode cJ0_isLatin1_aae02 18 = .ok (.ireturn, 1) := by decide +kernel
set_option maxRecDepth 20000 in
theorem ggJ0_checkIndex_df160_J3_checkIndex_8e157 : GoodIn wsJ0_checkIndex_df160 wsJ3_checkIndex_8e157 := goodIn_r _ [5] (by decide +kernel) (by decide +kernel)
set_option maxRecDepth 20000 in
theorem gJ0_checkIndex_df160_J3_checkIndex_8e157 : GoodIn wsJ0_checkIndex_df160 (va_wsS RJ0 1059 yJ3_checkIndex_8e157 wsJ3_checkIndex_8e157) := goodIn_app (goodIn_of _ (by decide +kernel)) ggJ0_checkIndex_df160_J3_checkIndex_8e157
theorem dJ0_checkIndex_df160_0 : decode cJ0_checkIndex_df160 0 = .ok (.iload_n 0, 1) := by decide +kernel
theorem dJ0_checkIndex_df160_1 : decode cJ0_checkIndex_df160 1 = .ok (.iload_n 1, 1) := by decide +kernel
theorem dJ0_checkIndex_df160_2 : decode cJ0_checkIndex_df160 2 = .ok (.getstatic 1053, 3) := by decide +kernel
theorem dJ0_checkIndex_df160_5 : decode cJ0_checkIndex_df160 5 = .ok (.invokestatic 1059, 3) := by decide +kernel
theorem dJ0_checkIndex_df160_8 : decode cJ0_checkIndex_df160 8 = .ok (.pop, 1) := by decide +kernel
theorem dJ0_checkIndex_df160_9 : decode cJ0_checkIndex_df160 9 = .ok (.return_, 1) := by decide +kernel
set_option maxRecDepth 20000 in
theorem ggJ1_charAt_3b067_J0_checkIndex_df160 : GoodIn wsJ1_charAt_3b067 wsJ0_checkIndex_df160 := goodIn_r _ [4, 5, 6, 7, 8, 9] (by decide +kernel) (by decide +kernel)
set_option maxRecDepth 20000 in
theorem gJ1_charAt_3b067_J0_checkIndex_df160 : GoodIn wsJ1_charAt_3b067 (va_wsS RJ1 9 yJ0_checkIndex_df160 wsJ0_checkIndex_df160) := goodIn_app (goodIn_of _ (by decide +kernel)) ggJ1_charAt_3b067_J0_checkIndex_df160
theorem dJ1_charAt_3b067_0 : decode cJ1_charAt_3b067 0 = .ok (.iload_n 1, 1) := by decide +kernel
theorem dJ1_charAt_3b067_1 : decode cJ1_charAt_3b067 1 = .ok (.aload_n 0, 1) := by decide +kernel
theorem dJ1_charAt_3b067_2 : decode cJ1_charAt_3b067 2 = .ok (.arraylength, 1) := by decide +kernel
theorem dJ1_charAt_3b067_3 : decode cJ1_charAt_3b067 3 = .ok (.invokestatic 9, 3) := by decide +kernel
theorem dJ1_charAt_3b067_6 : decode cJ1_charAt_3b067 6 = .ok (.aload_n 0, 1) := by decide +kernel
theorem dJ1_charAt_3b067_7 : decode cJ1_charAt_3b067 7 = .ok (.iload_n 1, 1) := by decide +kernel
theorem dJ1_charAt_3b067_8 : decode cJ1_charAt_3b067 8 = .ok (.baload, 1) := by decide +kernel
theorem dJ1_charAt_3b067_9 : decode cJ1_charAt_3b067 9 = .ok (.sipush 255, 3) := by decide +kernel
theorem dJ1_charAt_3b067_12 : decode cJ1_charAt_3b067 12 = .ok (.iand, 1) := by decide +kernel
theorem dJ1_charAt_3b067_13 : decode cJ1_charAt_3b067 13 = .ok (.i2c, 1) := by decide +kernel
theorem dJ1_charAt_3b067_14 : decode cJ1_charAt_3b067 14 = .ok (.ireturn, 1) := by decide +kernel
set_option maxRecDepth 20000 in
theorem ggJ2_getChar_3b067_J2_length_9d52b : GoodIn wsJ2_getChar_3b067 wsJ2_length_9d52b := goodIn_r _ [7] (by decide +kernel) (by decide +kernel)
set_option maxRecDepth 20000 in
theorem gJ2_getChar_3b067_J2_length_9d52b : GoodIn wsJ2_getChar_3b067 (va_wsS RJ2 48 yJ2_length_9d52b wsJ2_length_9d52b) := goodIn_app (goodIn_of _ (by decide +kernel)) ggJ2_getChar_3b067_J2_length_9d52b
theorem dJ2_getChar_3b067_0 : decode cJ2_getChar_3b067 0 = .ok (.getstatic 44, 3) := by decide +kernel
theorem dJ2_getChar_3b067_3 : decode cJ2_getChar_3b067 3 = .ok (.ifCond .ne 25, 3) := by decide +kernel
theorem dJ2_getChar_3b067_6 : decode cJ2_getChar_3b067 6 = .ok (.iload_n 1, 1) := by decide +kernel
theorem dJ2_getChar_3b067_7 : decode cJ2_getChar_3b067 7 = .ok (.ifCond .lt 11, 3) := by decide +kernel
theorem dJ2_getChar_3b067_10 : decode cJ2_getChar_3b067 10 = .ok (.iload_n 1, 1) := by decide +kernel
theorem dJ2_getChar_3b067_11 : decode cJ2_getChar_3b067 11 = .ok (.aload_n 0, 1) := by decide +kernel
theorem dJ2_getChar_3b067_12 : decode cJ2_getChar_3b067 12 = .ok (.invokestatic 48, 3) := by decide +kernel
theorem dJ2_getChar_3b067_15 : decode cJ2_getChar_3b067 15 = .ok (.if_icmp .lt 13, 3) := by decide +kernel
theorem dJ2_getChar_3b067_18 : decode cJ2_getChar_3b067 18 = .ok (.new 52, 3) := by decide +kernel
theorem dJ2_getChar_3b067_21 : decode cJ2_getChar_3b067 21 = .ok (.dup, 1) := by decide +kernel
theorem dJ2_getChar_3b067_22 : decode cJ2_getChar_3b067 22 = .ok (.ldc 54, 2) := by decide +kernel
theorem dJ2_getChar_3b067_24 : decode cJ2_getChar_3b067 24 = .ok (.invokespecial 56, 3) := by decide +kernel
theorem dJ2_getChar_3b067_27 : decode cJ2_getChar_3b067 27 = .ok (.athrow, 1) := by decide +kernel
theorem dJ2_getChar_3b067_28 : decode cJ2_getChar_3b067 28 = .ok (.iload_n 1, 1) := by decide +kernel
theorem dJ2_getChar_3b067_29 : decode cJ2_getChar_3b067 29 = .ok (.iconst 1, 1) := by decide +kernel
theorem dJ2_getChar_3b067_30 : decode cJ2_getChar_3b067 30 = .ok (.ishl, 1) := by decide +kernel
theorem dJ2_getChar_3b067_31 : decode cJ2_getChar_3b067 31 = .ok (.istore_n 1, 1) := by decide +kernel
theorem dJ2_getChar_3b067_32 : decode cJ2_getChar_3b067 32 = .ok (.aload_n 0, 1) := by decide +kernel
theorem dJ2_getChar_3b067_33 : decode cJ2_getChar_3b067 33 = .ok (.iload_n 1, 1) := by decide +kernel
theorem dJ2_getChar_3b067_34 : decode cJ2_getChar_3b067 34 = .ok (.iinc 1 1, 3) := by decide +kernel
theorem dJ2_getChar_3b067_37 : decode cJ2_getChar_3b067 37 = .ok (.baload, 1) := by decide +kernel
theorem dJ2_getChar_3b067_38 : decode cJ2_getChar_3b067 38 = .ok (.sipush 255, 3) := by decide +kernel
theorem dJ2_getChar_3b067_41 : decode cJ2_getChar_3b067 41 = .ok (.iand, 1) := by decide +kernel
theorem dJ2_getChar_3b067_42 : decode cJ2_getChar_3b067 42 = .ok (.getstatic 59, 3) := by decide +kernel
theorem dJ2_getChar_3b067_45 : decode cJ2_getChar_3b067 45 = .ok (.ishl, 1) := by decide +kernel
theorem dJ2_getChar_3b067_46 : decode cJ2_getChar_3b067 46 = .ok (.aload_n 0, 1) := by decide +kernel
theorem dJ2_getChar_3b067_47 : decode cJ2_getChar_3b067 47 = .ok (.iload_n 1, 1) := by decide +kernel
theorem dJ2_getChar_3b067_48 : decode cJ2_getChar_3b067 48 = .ok (.baload, 1) := by decide +kernel
theorem dJ2_getChar_3b067_49 : decode cJ2_getChar_3b067 49 = .ok (.sipush 255, 3) := by decide +kernel
theorem dJ2_getChar_3b067_52 : decode cJ2_getChar_3b067 52 = .ok (.iand, 1) := by decide +kernel
theorem dJ2_getChar_3b067_53 : decode cJ2_getChar_3b067 53 = .ok (.getstatic 63, 3) := by decide +kernel
theorem dJ2_getChar_3b067_56 : decode cJ2_getChar_3b067 56 = .ok (.ishl, 1) := by decide +kernel
theorem dJ2_getChar_3b067_57 : decode cJ2_getChar_3b067 57 = .ok (.ior, 1) := by decide +kernel
theorem dJ2_getChar_3b067_58 : decode cJ2_getChar_3b067 58 = .ok (.i2c, 1) := by decide +kernel
theorem dJ2_getChar_3b067_59 : decode cJ2_getChar_3b067 59 = .ok (.ireturn, 1) := by decide +kernel
theorem dJ2_length_9d52b_0 : decode cJ2_length_9d52b 0 = .ok (.aload_n 0, 1) := by decide +kernel
theorem dJ2_length_9d52b_1 : decode cJ2_length_9d52b 1 = .ok (.arraylength, 1) := by decide +kernel
theorem dJ2_length_9d52b_2 : decode cJ2_length_9d52b 2 = .ok (.iconst 1, 1) := by decide +kernel
theorem dJ2_length_9d52b_3 : decode cJ2_length_9d52b 3 = .ok (.ishr, 1) := by decide +kernel
theorem dJ2_length_9d52b_4 : decode cJ2_length_9d52b 4 = .ok (.ireturn, 1) := by decide +kernel
set_option maxRecDepth 20000 in
theorem ggJ2_charAt_3b067_J2_checkIndex_2214a : GoodIn wsJ2_charAt_3b067 wsJ2_checkIndex_2214a := goodIn_r _ [4, 5, 6, 3, 7, 8, 9, 10, 11, 12, 13, 14, 15, 16] (by decide +kernel) (by decide +kernel)
set_option maxRecDepth 20000 in
theorem gJ2_charAt_3b067_J2_checkIndex_2214a : GoodIn wsJ2_charAt_3b067 (va_wsS RJ2 67 yJ2_checkIndex_2214a wsJ2_checkIndex_2214a) := goodIn_app (goodIn_of _ (by decide +kernel)) ggJ2_charAt_3b067_J2_checkIndex_2214a
set_option maxRecDepth 20000 in
theorem ggJ2_charAt_3b067_J2_getChar_3b067 : GoodIn wsJ2_charAt_3b067 wsJ2_getChar_3b067 := goodIn_r _ [19, 20, 21, 22, 5, 6, 3, 7] (by decide +kernel) (by decide +kernel)
set_option maxRecDepth 20000 in
theorem gJ2_charAt_3b067_J2_getChar_3b067 : GoodIn wsJ2_charAt_3b067 (va_wsS RJ2 71 yJ2_getChar_3b067 wsJ2_getChar_3b067) := goodIn_app (goodIn_of _ (by decide +kernel)) ggJ2_charAt_3b067_J2_getChar_3b067
theorem dJ2_charAt_3b067_0 : decode cJ2_charAt_3b067 0 = .ok (.iload_n 1, 1) := by decide +kernel
theorem dJ2_charAt_3b067_1 : decode cJ2_charAt_3b067 1 = .ok (.aload_n 0, 1) := by decide +kernel
theorem dJ2_charAt_3b067_2 : decode cJ2_charAt_3b067 2 = .ok (.invokestatic 67, 3) := by decide +kernel
theorem dJ2_charAt_3b067_5 : decode cJ2_charAt_3b067 5 = .ok (.aload_n 0, 1) := by decide +kernel
theorem dJ2_charAt_3b067_6 : decode cJ2_charAt_3b067 6 = .ok (.iload_n 1, 1) := by decide +kernel
theorem dJ2_charAt_3b067_7 : decode cJ2_charAt_3b067 7 = .ok (.invokestatic 71, 3) := by decide +kernel
theorem dJ2_charAt_3b067_10 : decode cJ2_charAt_3b067 10 = .ok (.ireturn, 1) := by decide +kernel
set_option maxRecDepth 20000 in
theorem ggJ2_checkIndex_2214a_J2_length_9d52b : GoodIn wsJ2_checkIndex_2214a wsJ2_length_9d52b := goodIn_r _ [4] (by decide +kernel) (by decide +kernel)
set_option maxRecDepth 20000 in
theorem gJ2_checkIndex_2214a_J2_length_9d52b : GoodIn wsJ2_checkIndex_2214a (va_wsS RJ2 48 yJ2_length_9d52b wsJ2_length_9d52b) := goodIn_app (goodIn_of _ (by decide +kernel)) ggJ2_checkIndex_2214a_J2_length_9d52b
set_option maxRecDepth 20000 in
theorem ggJ2_checkIndex_2214a_J0_checkIndex_df160 : GoodIn wsJ2_checkIndex_2214a wsJ0_checkIndex_df160 := goodIn_r _ [8, 9, 10, 11, 12, 13] (by decide +kernel) (by decide +kernel)
set_option maxRecDepth 20000 in
theorem gJ2_checkIndex_2214a_J0_checkIndex_df160 : GoodIn wsJ2_checkIndex_2214a (va_wsS RJ2 414 yJ0_checkIndex_df160 wsJ0_checkIndex_df160) := goodIn_app (goodIn_of _ (by decide +kernel)) ggJ2_checkIndex_2214a_J0_checkIndex_df160
theorem dJ2_checkIndex_2214a_0 : decode cJ2_checkIndex_2214a 0 = .ok (.iload_n 0, 1) := by decide +kernel
theorem dJ2_checkIndex_2214a_1 : decode cJ2_checkIndex_2214a 1 = .ok (.aload_n 1, 1) := by decide +kernel
theorem dJ2_checkIndex_2214a_2 : decode cJ2_checkIndex_2214a 2 = .ok (.invokestatic 48, 3) := by decide +kernel
theorem dJ2_checkIndex_2214a_5 : decode cJ2_checkIndex_2214a 5 = .ok (.invokestatic 414, 3) := by decide +kernel
theorem dJ2_checkIndex_2214a_8 : decode cJ2_checkIndex_2214a 8 = .ok (.return_, 1) := by decide +kernel
theorem dJ3_checkIndex_8e157_0 : decode cJ3_checkIndex_8e157 0 = .ok (.iload_n 0, 1) := by decide +kernel
theorem dJ3_checkIndex_8e157_1 : decode cJ3_checkIndex_8e157 1 = .ok (.ifCond .lt 8, 3) := by decide +kernel
theorem dJ3_checkIndex_8e157_4 : decode cJ3_checkIndex_8e157 4 = .ok (.iload_n 0, 1) := by decide +kernel
theorem dJ3_checkIndex_8e157_5 : decode cJ3_checkIndex_8e157 5 = .ok (.iload_n 1, 1) := by decide +kernel
theorem dJ3_checkIndex_8e157_6 : decode cJ3_checkIndex_8e157 6 = .ok (.if_icmp .lt 10, 3) := by decide +kernel
theorem dJ3_checkIndex_8e157_9 : decode cJ3_checkIndex_8e157 9 = .ok (.aload_n 2, 1) := by decide +kernel
theorem dJ3_checkIndex_8e157_10 : decode cJ3_checkIndex_8e157 10 = .ok (.iload_n 0, 1) := by decide +kernel
theorem dJ3_checkIndex_8e157_11 : decode cJ3_checkIndex_8e157 11 = .ok (.iload_n 1, 1) := by decide +kernel
theorem dJ3_checkIndex_8e157_12 : decode cJ3_checkIndex_8e157 12 = .ok (.invokestatic 95, 3) := by decide +kernel
theorem dJ3_checkIndex_8e157_15 : decode cJ3_checkIndex_8e157 15 = .ok (.athrow, 1) := by decide +kernel
theorem dJ3_checkIndex_8e157_16 : decode cJ3_checkIndex_8e157 16 = .ok (.iload_n 0, 1) := by decide +kernel
theorem dJ3_checkIndex_8e157_17 : decode cJ3_checkIndex_8e157 17 = .ok (.ireturn, 1) := by decide +kernel
set_option maxRecDepth 20000 in
theorem ggL_digest_X4_digest : GoodIn wsL_digest wsX4_digest := goodIn_ca (goodIn_r _ [6, 7, 8, 9, 10, 11, 12, 13, 14, 15, 16, 17, 18, 19, 20, 21, 22, 23, 24, 25, 26, 27, 28, 29, 30, 31, 32, 33, 34, 35, 36, 37, 38, 39, 40] (by decide +kernel) (by decide +kernel)) (goodIn_sub (fun _ h => List.mem_cons_of_mem _ (List.mem_append_right _ h)) (by decide +kernel))
set_option maxRecDepth 20000 in
theorem gL_digest_X4_digest : GoodIn wsL_digest (wsV RL 7 RX4 yX4_digest wsX4_digest) := goodIn_app (goodIn_of _ (by decide +kernel)) ggL_digest_X4_digest
theorem dL_digest_0 : decode cL_digest 0 = .ok (.aload_n 2, 1) := by decide +kernel
theorem dL_digest_1 : decode cL_digest 1 = .ok (.iconst 0, 1) := by decide +kernel
theorem dL_digest_2 : decode cL_digest 2 = .ok (.aload_n 0, 1) := by decide +kernel
theorem dL_digest_3 : decode cL_digest 3 = .ok (.iload_n 1, 1) := by decide +kernel
theorem dL_digest_4 : decode cL_digest 4 = .ok (.invokevirtual 7, 3) := by decide +kernel
theorem dL_digest_7 : decode cL_digest 7 = .ok (.i2l, 1) := by decide +kernel
theorem dL_digest_8 : decode cL_digest 8 = .ok (.lastore, 1) := by decide +kernel
theorem dL_digest_9 : decode cL_digest 9 = .ok (.goto 6, 3) := by decide +kernel
theorem dL_digest_12 : decode cL_digest 12 = .ok (.astore_n 3, 1) := by decide +kernel
theorem dL_digest_13 : decode cL_digest 13 = .ok (.iconst 1, 1) := by decide +kernel
theorem dL_digest_14 : decode cL_digest 14 = .ok (.ireturn, 1) := by decide +kernel
theorem dL_digest_15 : decode cL_digest 15 = .ok (.iconst 0, 1) := by decide +kernel
theorem dL_digest_16 : decode cL_digest 16 = .ok (.ireturn, 1) := by decide +kernel
set_option maxRecDepth 20000 in
theorem ggL_law_X4_init : GoodIn wsL_law wsX4_init := goodIn_r _ [10, 11, 12, 13, 14, 15, 16, 17, 18, 19, 20, 21, 22, 23, 24, 25, 26, 27, 28, 29, 30, 31, 32, 33, 34, 35, 36, 37, 38, 39, 489, 490, 491, 492, 493, 494, 495, 496, 497, 498, 522, 523, 524, 525, 526, 527] (by decide +kernel) (by decide +kernel)
set_option maxRecDepth 20000 in
theorem gL_law_X4_init : GoodIn wsL_law (wsX4_init) := ggL_law_X4_init
set_option maxRecDepth 20000 in
theorem ggL_law_X5_init : GoodIn wsL_law wsX5_init := goodIn_ca (goodIn_r _ [42, 43, 12, 13, 16, 44, 45, 46, 47, 48, 31, 49, 50, 51, 52, 53, 54, 55, 56, 57, 58, 59, 60, 61, 62, 63, 64, 65, 66, 67, 68, 69, 70, 71, 72, 73, 74, 75, 76, 77, 78, 79, 80, 81, 82, 83, 84, 85, 86, 87, 88, 89, 90, 91, 92, 93, 94, 95, 96, 97, 98, 99, 100, 101, 102, 103, 104, 105, 106, 107, 108, 109, 110, 111, 112, 113, 114, 115, 116, 117, 118, 119, 120, 121, 122, 123, 124, 125, 126, 127, 128, 129, 130, 131, 132, 133, 499, 500, 501, 502, 503, 504, 505, 506, 507, 508, 509, 510, 511, 512, 513, 514, 515, 516, 517, 518, 519, 520, 521] (by decide +kernel) (by decide +kernel)) (goodIn_sub (fun _ h => List.mem_append_right _ h) (by decide +kernel))
set_option maxRecDepth 20000 in
theorem gL_law_X5_init : GoodIn wsL_law (wsX5_init) := ggL_law_X5_init
set_option maxRecDepth 20000 in
theorem ggL_law_X4_key : GoodIn wsL_law wsX4_key := goodIn_r _ [137, 138, 15, 14, 139, 140, 141, 142, 2, 143, 144, 145, 146, 147, 148, 12, 13, 31, 149, 150, 151, 489, 490, 491, 492, 493, 494, 495, 496, 497, 498, 528, 529, 530, 531, 532] (by decide +kernel) (by decide +kernel)
set_option maxRecDepth 20000 in
theorem gL_law_X4_key : GoodIn wsL_law (wsV RL 21 RX4 yX4_key wsX4_key) := goodIn_app (goodIn_of _ (by decide +kernel)) ggL_law_X4_key
set_option maxRecDepth 20000 in
theorem ggL_law_X5_key : GoodIn wsL_law wsX5_key := goodIn_ca (goodIn_r _ [155, 156, 157, 133, 44, 45, 499, 500, 501, 502, 503, 504, 505, 506, 507, 508, 509, 510, 511, 512, 513, 514, 515, 516, 517, 518, 519, 520, 521] (by decide +kernel) (by decide +kernel)) (goodIn_sub (fun _ h => List.mem_append_right _ h) (by decide +kernel))
set_option maxRecDepth 20000 in
theorem gL_law_X5_key : GoodIn wsL_law (wsV RL 25 RX5 yX5_key wsX5_key) := goodIn_app (goodIn_of _ (by decide +kernel)) ggL_law_X5_key
set_option maxRecDepth 20000 in
theorem ggL_law_X4_octet : GoodIn wsL_law wsX4_octet := goodIn_ca (goodIn_r _ [161, 162, 163, 164, 2, 165, 138, 15, 166, 167, 168, 140, 169, 170, 171, 149, 489, 490, 491, 492, 493, 494, 495, 496, 497, 498, 528, 529, 530, 531, 532] (by decide +kernel) (by decide +kernel)) (goodIn_sub (fun _ h => List.mem_append_right _ h) (by decide +kernel))
set_option maxRecDepth 20000 in
theorem gL_law_X4_octet : GoodIn wsL_law (wsV RL 26 RX4 yX4_octet wsX4_octet) := goodIn_app (goodIn_of _ (by decide +kernel)) ggL_law_X4_octet
set_option maxRecDepth 20000 in
theorem ggL_law_X5_octet : GoodIn wsL_law wsX5_octet := goodIn_ca (goodIn_r _ [175, 156, 46, 48, 49, 176, 177, 178, 5, 179, 133, 180, 181, 182, 499, 500, 501, 502, 503, 504, 505, 506, 507, 508, 509, 510, 511, 512, 513, 514, 515, 516, 517, 518, 519, 520, 521] (by decide +kernel) (by decide +kernel)) (goodIn_sub (fun _ h => List.mem_append_right _ h) (by decide +kernel))
set_option maxRecDepth 20000 in
theorem gL_law_X5_octet : GoodIn wsL_law (wsV RL 30 RX5 yX5_octet wsX5_octet) := goodIn_app (goodIn_of _ (by decide +kernel)) ggL_law_X5_octet
set_option maxRecDepth 20000 in
theorem ggL_law_X4_make : GoodIn wsL_law wsX4_make := goodIn_ca (goodIn_r _ [186, 187, 27, 162, 163, 164, 2, 165, 138, 15, 188, 189, 190, 191, 192, 193, 194, 141, 142, 143, 144, 195, 196, 197, 140, 198, 150, 151, 199, 200, 201, 202, 203, 204, 205, 206, 170, 207, 208, 209, 26, 210, 38, 39, 211, 212, 213, 214, 215, 216, 217, 218, 219, 220, 221, 222, 171, 223, 224, 225, 226, 149, 227, 228, 229, 230, 231, 232, 233, 234, 235, 236, 237, 238, 239, 240, 241, 242, 243, 244, 245, 246, 17, 247, 248, 249, 250, 251, 252, 253, 254, 255, 256, 257, 258, 259, 260, 261, 262, 263, 264, 265, 266, 267, 268, 269, 270, 271, 272, 273, 274, 275, 276, 277, 278, 279, 280, 281, 282, 283, 284, 285, 286, 287, 288, 289, 290, 489, 490, 491, 492, 493, 494, 495, 496, 497, 498, 528, 529, 530, 531, 532, 525, 526, 527, 533, 534] (by decide +kernel) (by decide +kernel)) (goodIn_sub (fun _ h => List.mem_append_right _ h) (by decide +kernel))
set_option maxRecDepth 20000 in
theorem gL_law_X4_make : GoodIn wsL_law (wsV RL 31 RX4 yX4_make wsX4_make) := goodIn_app (goodIn_of _ (by decide +kernel)) ggL_law_X4_make
set_option maxRecDepth 20000 in
theorem ggL_law_X5_make : GoodIn wsL_law wsX5_make := goodIn_ca (goodIn_r _ [294, 156, 295, 296, 157, 44, 45, 297, 298, 299, 300, 301, 50, 302, 303, 48, 176, 177, 178, 5, 179, 133, 180, 181, 182, 304, 305, 306, 307, 57, 58, 132, 123, 56, 308, 309, 310, 311, 312, 46, 49, 313, 314, 315, 316, 317, 318, 319, 320, 321, 322, 323, 251, 252, 253, 254, 255, 256, 257, 258, 259, 260, 261, 262, 263, 264, 265, 266, 267, 268, 269, 270, 271, 272, 273, 274, 275, 276, 277, 278, 279, 280, 281, 282, 283, 284, 285, 286, 287, 288, 289, 290, 499, 500, 501, 502, 503, 504, 505, 506, 507, 508, 509, 510, 511, 512, 513, 514, 515, 516, 517, 518, 519, 520, 521, 533, 534] (by decide +kernel) (by decide +kernel)) (goodIn_sub (fun _ h => List.mem_append_right _ h) (by decide +kernel))
set_option maxRecDepth 20000 in
theorem gL_law_X5_make : GoodIn wsL_law (wsV RL 35 RX5 yX5_make wsX5_make) := goodIn_app (goodIn_of _ (by decide +kernel)) ggL_law_X5_make
set_option maxRecDepth 20000 in
theorem ggL_law_X4_letter : GoodIn wsL_law wsX4_letter := goodIn_ca (goodIn_r _ [327, 17, 489, 490, 491, 492, 493, 494, 495, 496, 497, 498] (by decide +kernel) (by decide +kernel)) (goodIn_sub (fun _ h => List.mem_append_right _ h) (by decide +kernel))
set_option maxRecDepth 20000 in
theorem gL_law_X4_letter : GoodIn wsL_law (wsV RL 36 RX4 yX4_letter wsX4_letter) := goodIn_app (goodIn_of _ (by decide +kernel)) ggL_law_X4_letter
set_option maxRecDepth 20000 in
theorem ggL_law_X5_letter : GoodIn wsL_law wsX5_letter := goodIn_ca (goodIn_r _ [331, 156, 303, 332, 50, 180, 181, 5, 182, 499, 500, 501, 502, 503, 504, 505, 506, 507, 508, 509, 510, 511, 512, 513, 514, 515, 516, 517, 518, 519, 520, 521] (by decide +kernel) (by decide +kernel)) (goodIn_sub (fun _ h => List.mem_append_right _ h) (by decide +kernel))
set_option maxRecDepth 20000 in
theorem gL_law_X5_letter : GoodIn wsL_law (wsV RL 40 RX5 yX5_letter wsX5_letter) := goodIn_app (goodIn_of _ (by decide +kernel)) ggL_law_X5_letter
set_option maxRecDepth 20000 in
theorem ggL_law_X4_type : GoodIn wsL_law wsX4_type := goodIn_ca (goodIn_r _ [336, 337, 18, 489, 490, 491, 492, 493, 494, 495, 496, 497, 498] (by decide +kernel) (by decide +kernel)) (goodIn_sub (fun _ h => List.mem_append_right _ h) (by decide +kernel))
set_option maxRecDepth 20000 in
theorem gL_law_X4_type : GoodIn wsL_law (wsV RL 41 RX4 yX4_type wsX4_type) := goodIn_app (goodIn_of _ (by decide +kernel)) ggL_law_X4_type
set_option maxRecDepth 20000 in
theorem ggL_law_X5_type : GoodIn wsL_law wsX5_type := goodIn_ca (goodIn_r _ [341, 156, 342, 51, 499, 500, 501, 502, 503, 504, 505, 506, 507, 508, 509, 510, 511, 512, 513, 514, 515, 516, 517, 518, 519, 520, 521] (by decide +kernel) (by decide +kernel)) (goodIn_sub (fun _ h => List.mem_append_right _ h) (by decide +kernel))
set_option maxRecDepth 20000 in
theorem gL_law_X5_type : GoodIn wsL_law (wsV RL 45 RX5 yX5_type wsX5_type) := goodIn_app (goodIn_of _ (by decide +kernel)) ggL_law_X5_type
set_option maxRecDepth 20000 in
theorem ggL_law_X4_check : GoodIn wsL_law wsX4_check := goodIn_ca (goodIn_r _ [346, 347, 337, 141, 142, 2, 143, 144, 348, 349, 350, 351, 18, 352, 353, 354, 355, 356, 357, 358, 253, 359, 255, 360, 361, 362, 363, 260, 261, 250, 251, 252, 254, 256, 257, 258, 259, 262, 263, 264, 265, 266, 267, 268, 269, 270, 271, 272, 273, 274, 275, 276, 277, 278, 279, 280, 281, 282, 283, 284, 285, 286, 287, 288, 289, 290, 364, 365, 366, 367, 27, 368, 369, 201, 370, 162, 163, 164, 165, 138, 15, 371, 372, 373, 192, 193, 194, 374, 375, 376, 377, 188, 189, 190, 191, 207, 208, 209, 26, 210, 38, 39, 211, 212, 213, 214, 215, 216, 217, 218, 219, 220, 221, 140, 222, 171, 223, 224, 225, 226, 149, 227, 228, 229, 230, 231, 232, 233, 234, 235, 236, 237, 238, 239, 240, 241, 242, 378, 379, 380, 381, 195, 196, 197, 198, 150, 151, 382, 383, 384, 385, 386, 387, 388, 23, 19, 389, 390, 391, 22, 392, 32, 393, 394, 395, 396, 397, 398, 399, 400, 33, 34, 489, 490, 491, 492, 493, 494, 495, 496, 497, 498, 533, 534, 525, 526, 527, 528, 529, 530, 531, 532, 522, 523, 524] (by decide +kernel) (by decide +kernel)) (goodIn_sub (fun _ h => List.mem_append_right _ h) (by decide +kernel))
set_option maxRecDepth 20000 in
theorem gL_law_X4_check : GoodIn wsL_law (wsV RL 46 RX4 yX4_check wsX4_check) := goodIn_app (goodIn_of _ (by decide +kernel)) ggL_law_X4_check
set_option maxRecDepth 20000 in
theorem ggL_law_X5_check : GoodIn wsL_law wsX5_check := goodIn_ca (goodIn_r _ [404, 156, 157, 405, 342, 180, 181, 5, 182, 406, 407, 408, 409, 51, 410, 332, 411, 412, 295, 44, 45, 52, 55, 53, 54, 413, 414, 415, 320, 321, 322, 323, 251, 252, 253, 254, 255, 256, 257, 258, 259, 260, 261, 262, 263, 264, 265, 266, 267, 268, 269, 270, 271, 272, 273, 274, 275, 276, 277, 278, 279, 280, 281, 282, 283, 284, 285, 286, 287, 288, 289, 290, 176, 177, 178, 179, 133, 304, 305, 306, 307, 57, 58, 132, 123, 56, 308, 309, 310, 311, 312, 46, 49, 313, 314, 315, 316, 317, 318, 319, 499, 500, 501, 502, 503, 504, 505, 506, 507, 508, 509, 510, 511, 512, 513, 514, 515, 516, 517, 518, 519, 520, 521, 533, 534] (by decide +kernel) (by decide +kernel)) (goodIn_sub (fun _ h => List.mem_append_right _ h) (by decide +kernel))
set_option maxRecDepth 20000 in
theorem gL_law_X5_check : GoodIn wsL_law (wsV RL 50 RX5 yX5_check wsX5_check) := goodIn_app (goodIn_of _ (by decide +kernel)) ggL_law_X5_check
set_option maxRecDepth 20000 in
theorem ggL_law_X4_first : GoodIn wsL_law wsX4_first := goodIn_ca (goodIn_r _ [419, 19, 23, 420, 421, 422, 22, 423, 33, 393, 394, 395, 396, 424, 425, 426, 427, 34, 489, 490, 491, 492, 493, 494, 495, 496, 497, 498, 522, 523, 524] (by decide +kernel) (by decide +kernel)) (goodIn_sub (fun _ h => List.mem_append_right _ h) (by decide +kernel))
set_option maxRecDepth 20000 in
theorem gL_law_X4_first : GoodIn wsL_law (wsV RL 51 RX4 yX4_first wsX4_first) := goodIn_app (goodIn_of _ (by decide +kernel)) ggL_law_X4_first
set_option maxRecDepth 20000 in
theorem ggL_law_X5_first : GoodIn wsL_law wsX5_first := goodIn_ca (goodIn_r _ [431, 156, 432, 55, 53, 54, 180, 181, 5, 182, 499, 500, 501, 502, 503, 504, 505, 506, 507, 508, 509, 510, 511, 512, 513, 514, 515, 516, 517, 518, 519, 520, 521] (by decide +kernel) (by decide +kernel)) (goodIn_sub (fun _ h => List.mem_append_right _ h) (by decide +kernel))
set_option maxRecDepth 20000 in
theorem gL_law_X5_first : GoodIn wsL_law (wsV RL 54 RX5 yX5_first wsX5_first) := goodIn_app (goodIn_of _ (by decide +kernel)) ggL_law_X5_first
set_option maxRecDepth 20000 in
theorem ggL_law_X4_refund : GoodIn wsL_law wsX4_refund := goodIn_ca (goodIn_r _ [436, 187, 23, 389, 390, 391, 22, 392, 32, 393, 394, 395, 396, 437, 438, 439, 440, 489, 490, 491, 492, 493, 494, 495, 496, 497, 498, 522, 523, 524] (by decide +kernel) (by decide +kernel)) (goodIn_sub (fun _ h => List.mem_append_right _ h) (by decide +kernel))
set_option maxRecDepth 20000 in
theorem gL_law_X4_refund : GoodIn wsL_law (wsV RL 55 RX4 yX4_refund wsX4_refund) := goodIn_app (goodIn_of _ (by decide +kernel)) ggL_law_X4_refund
set_option maxRecDepth 20000 in
theorem ggL_law_X5_refund : GoodIn wsL_law wsX5_refund := goodIn_ca (goodIn_r _ [444, 156, 297, 52, 180, 181, 5, 182, 499, 500, 501, 502, 503, 504, 505, 506, 507, 508, 509, 510, 511, 512, 513, 514, 515, 516, 517, 518, 519, 520, 521] (by decide +kernel) (by decide +kernel)) (goodIn_sub (fun _ h => List.mem_append_right _ h) (by decide +kernel))
set_option maxRecDepth 20000 in
theorem gL_law_X5_refund : GoodIn wsL_law (wsV RL 58 RX5 yX5_refund wsX5_refund) := goodIn_app (goodIn_of _ (by decide +kernel)) ggL_law_X5_refund
set_option maxRecDepth 20000 in
theorem ggL_law_L_digest : GoodIn wsL_law wsL_digest := goodIn_ca (goodIn_r _ [448, 449, 450, 451, 452, 2, 453, 27, 454, 455, 456, 457, 458, 459, 26, 460, 212, 461, 462, 463, 464, 39, 489, 490, 491, 492, 493, 494, 495, 496, 497, 498, 535, 536, 537, 538, 539, 540, 525, 526, 527] (by decide +kernel) (by decide +kernel)) (goodIn_sub (fun _ h => List.mem_append_right _ h) (by decide +kernel))
set_option maxRecDepth 20000 in
theorem gL_law_L_digest : GoodIn wsL_law (va_wsS RL 59 yL_digest wsL_digest) := goodIn_app (goodIn_of _ (by decide +kernel)) ggL_law_L_digest
set_option maxRecDepth 20000 in
theorem ggL_law_X5_digest : GoodIn wsL_law wsX5_digest := goodIn_ca (goodIn_r _ [468, 308, 302, 156, 56, 180, 181, 5, 182, 499, 500, 501, 502, 503, 504, 505, 506, 507, 508, 509, 510, 511, 512, 513, 514, 515, 516, 517, 518, 519, 520, 521] (by decide +kernel) (by decide +kernel)) (goodIn_sub (fun _ h => List.mem_append_right _ h) (by decide +kernel))
set_option maxRecDepth 20000 in
theorem gL_law_X5_digest : GoodIn wsL_law (wsV RL 64 RX5 yX5_digest wsX5_digest) := goodIn_app (goodIn_of _ (by decide +kernel)) ggL_law_X5_digest
set_option maxRecDepth 20000 in
theorem ggL_law_X5_thrown : GoodIn wsL_law wsX5_thrown := goodIn_r _ [472, 156, 499, 500, 501, 502, 503, 504, 505, 506, 507, 508, 509, 510, 511, 512, 513, 514, 515, 516, 517, 518, 519, 520, 521] (by decide +kernel) (by decide +kernel)
set_option maxRecDepth 20000 in
theorem gL_law_X5_thrown : GoodIn wsL_law (wsV RL 65 RX5 yX5_thrown wsX5_thrown) := goodIn_app (goodIn_of _ (by decide +kernel)) ggL_law_X5_thrown
set_option maxRecDepth 20000 in
theorem ggL_law_X4_spent : GoodIn wsL_law wsX4_spent := goodIn_ca (goodIn_r _ [476, 23, 389, 390, 391, 22, 392, 32, 393, 394, 395, 396, 489, 490, 491, 492, 493, 494, 495, 496, 497, 498, 522, 523, 524] (by decide +kernel) (by decide +kernel)) (goodIn_sub (fun _ h => List.mem_append_right _ h) (by decide +kernel))
set_option maxRecDepth 20000 in
theorem gL_law_X4_spent : GoodIn wsL_law (wsV RL 69 RX4 yX4_spent wsX4_spent) := goodIn_app (goodIn_of _ (by decide +kernel)) ggL_law_X4_spent
set_option maxRecDepth 20000 in
theorem ggL_law_X5_spent : GoodIn wsL_law wsX5_spent := goodIn_ca (goodIn_r _ [480, 156, 412, 52, 180, 181, 5, 182, 499, 500, 501, 502, 503, 504, 505, 506, 507, 508, 509, 510, 511, 512, 513, 514, 515, 516, 517, 518, 519, 520, 521] (by decide +kernel) (by decide +kernel)) (goodIn_sub (fun _ h => List.mem_append_right _ h) (by decide +kernel))
set_option maxRecDepth 20000 in
theorem gL_law_X5_spent : GoodIn wsL_law (wsV RL 72 RX5 yX5_spent wsX5_spent) := goodIn_app (goodIn_of _ (by decide +kernel)) ggL_law_X5_spent
set_option maxRecDepth 20000 in
theorem ggL_law_X4_serial : GoodIn wsL_law wsX4_serial := goodIn_r _ [484, 187, 489, 490, 491, 492, 493, 494, 495, 496, 497, 498] (by decide +kernel) (by decide +kernel)
set_option maxRecDepth 20000 in
theorem gL_law_X4_serial : GoodIn wsL_law (wsV RL 73 RX4 yX4_serial wsX4_serial) := goodIn_app (goodIn_of _ (by decide +kernel)) ggL_law_X4_serial
set_option maxRecDepth 20000 in
theorem ggL_law_X5_serial : GoodIn wsL_law wsX5_serial := goodIn_r _ [488, 156, 297, 499, 500, 501, 502, 503, 504, 505, 506, 507, 508, 509, 510, 511, 512, 513, 514, 515, 516, 517, 518, 519, 520, 521] (by decide +kernel) (by decide +kernel)
set_option maxRecDepth 20000 in
theorem gL_law_X5_serial : GoodIn wsL_law (wsV RL 77 RX5 yX5_serial wsX5_serial) := goodIn_app (goodIn_of _ (by decide +kernel)) ggL_law_X5_serial
theorem dL_law_0 : decode cL_law 0 = .ok (.new 8, 3) := by decide +kernel
theorem dL_law_3 : decode cL_law 3 = .ok (.dup, 1) := by decide +kernel
theorem dL_law_4 : decode cL_law 4 = .ok (.invokespecial 15, 3) := by decide +kernel
theorem dL_law_7 : decode cL_law 7 = .ok (.astore_n 1, 1) := by decide +kernel
theorem dL_law_8 : decode cL_law 8 = .ok (.new 16, 3) := by decide +kernel
theorem dL_law_11 : decode cL_law 11 = .ok (.dup, 1) := by decide +kernel
theorem dL_law_12 : decode cL_law 12 = .ok (.invokespecial 18, 3) := by decide +kernel
theorem dL_law_15 : decode cL_law 15 = .ok (.astore_n 2, 1) := by decide +kernel
theorem dL_law_16 : decode cL_law 16 = .ok (.iconst 1, 1) := by decide +kernel
theorem dL_law_17 : decode cL_law 17 = .ok (.newarray .long, 2) := by decide +kernel
theorem dL_law_19 : decode cL_law 19 = .ok (.astore_n 3, 1) := by decide +kernel
theorem dL_law_20 : decode cL_law 20 = .ok (.iconst 0, 1) := by decide +kernel
theorem dL_law_21 : decode cL_law 21 = .ok (.istore 4, 2) := by decide +kernel
theorem dL_law_23 : decode cL_law 23 = .ok (.iload 4, 2) := by decide +kernel
theorem dL_law_25 : decode cL_law 25 = .ok (.aload_n 0, 1) := by decide +kernel
theorem dL_law_26 : decode cL_law 26 = .ok (.arraylength, 1) := by decide +kernel
theorem dL_law_27 : decode cL_law 27 = .ok (.bipush 6, 2) := by decide +kernel
theorem dL_law_29 : decode cL_law 29 = .ok (.isub, 1) := by decide +kernel
theorem dL_law_30 : decode cL_law 30 = .ok (.if_icmp .gt 621, 3) := by decide +kernel
theorem dL_law_33 : decode cL_law 33 = .ok (.aload_n 0, 1) := by decide +kernel
theorem dL_law_34 : decode cL_law 34 = .ok (.iload 4, 2) := by decide +kernel
theorem dL_law_36 : decode cL_law 36 = .ok (.iaload, 1) := by decide +kernel
theorem dL_law_37 : decode cL_law 37 = .ok (.bipush 15, 2) := by decide +kernel
theorem dL_law_39 : decode cL_law 39 = .ok (.iand, 1) := by decide +kernel
theorem dL_law_40 : decode cL_law 40 = .ok (.tableswitch 605 0 10 #[60, 161, 198, 291, 316, 339, 396, 421, 478, 534, 591], 60) := by decide +kernel
theorem dL_law_100 : decode cL_law 100 = .ok (.aload_n 1, 1) := by decide +kernel
theorem dL_law_101 : decode cL_law 101 = .ok (.aload_n 0, 1) := by decide +kernel
theorem dL_law_102 : decode cL_law 102 = .ok (.iload 4, 2) := by decide +kernel
theorem dL_law_104 : decode cL_law 104 = .ok (.iconst 1, 1) := by decide +kernel
theorem dL_law_105 : decode cL_law 105 = .ok (.iadd, 1) := by decide +kernel
theorem dL_law_106 : decode cL_law 106 = .ok (.iaload, 1) := by decide +kernel
theorem dL_law_107 : decode cL_law 107 = .ok (.i2l, 1) := by decide +kernel
theorem dL_law_108 : decode cL_law 108 = .ok (.bipush 32, 2) := by decide +kernel
theorem dL_law_110 : decode cL_law 110 = .ok (.lshl, 1) := by decide +kernel
theorem dL_law_111 : decode cL_law 111 = .ok (.aload_n 0, 1) := by decide +kernel
theorem dL_law_112 : decode cL_law 112 = .ok (.iload 4, 2) := by decide +kernel
theorem dL_law_114 : decode cL_law 114 = .ok (.iconst 2, 1) := by decide +kernel
theorem dL_law_115 : decode cL_law 115 = .ok (.iadd, 1) := by decide +kernel
theorem dL_law_116 : decode cL_law 116 = .ok (.iaload, 1) := by decide +kernel
theorem dL_law_117 : decode cL_law 117 = .ok (.i2l, 1) := by decide +kernel
theorem dL_law_118 : decode cL_law 118 = .ok (.ldc2_w 19, 3) := by decide +kernel
theorem dL_law_121 : decode cL_law 121 = .ok (.land, 1) := by decide +kernel
theorem dL_law_122 : decode cL_law 122 = .ok (.lor, 1) := by decide +kernel
theorem dL_law_123 : decode cL_law 123 = .ok (.aload_n 0, 1) := by decide +kernel
theorem dL_law_124 : decode cL_law 124 = .ok (.iload 4, 2) := by decide +kernel
theorem dL_law_126 : decode cL_law 126 = .ok (.iconst 3, 1) := by decide +kernel
theorem dL_law_127 : decode cL_law 127 = .ok (.iadd, 1) := by decide +kernel
theorem dL_law_128 : decode cL_law 128 = .ok (.iaload, 1) := by decide +kernel
theorem dL_law_129 : decode cL_law 129 = .ok (.i2l, 1) := by decide +kernel
theorem dL_law_130 : decode cL_law 130 = .ok (.bipush 32, 2) := by decide +kernel
theorem dL_law_132 : decode cL_law 132 = .ok (.lshl, 1) := by decide +kernel
theorem dL_law_133 : decode cL_law 133 = .ok (.aload_n 0, 1) := by decide +kernel
theorem dL_law_134 : decode cL_law 134 = .ok (.iload 4, 2) := by decide +kernel
theorem dL_law_136 : decode cL_law 136 = .ok (.iconst 4, 1) := by decide +kernel
theorem dL_law_137 : decode cL_law 137 = .ok (.iadd, 1) := by decide +kernel
theorem dL_law_138 : decode cL_law 138 = .ok (.iaload, 1) := by decide +kernel
theorem dL_law_139 : decode cL_law 139 = .ok (.i2l, 1) := by decide +kernel
theorem dL_law_140 : decode cL_law 140 = .ok (.ldc2_w 19, 3) := by decide +kernel
theorem dL_law_143 : decode cL_law 143 = .ok (.land, 1) := by decide +kernel
theorem dL_law_144 : decode cL_law 144 = .ok (.lor, 1) := by decide +kernel
theorem dL_law_145 : decode cL_law 145 = .ok (.invokevirtual 21, 3) := by decide +kernel
theorem dL_law_148 : decode cL_law 148 = .ok (.aload_n 2, 1) := by decide +kernel
theorem dL_law_149 : decode cL_law 149 = .ok (.aload_n 0, 1) := by decide +kernel
theorem dL_law_150 : decode cL_law 150 = .ok (.iload 4, 2) := by decide +kernel
theorem dL_law_152 : decode cL_law 152 = .ok (.iconst 1, 1) := by decide +kernel
theorem dL_law_153 : decode cL_law 153 = .ok (.iadd, 1) := by decide +kernel
theorem dL_law_154 : decode cL_law 154 = .ok (.iaload, 1) := by decide +kernel
theorem dL_law_155 : decode cL_law 155 = .ok (.i2l, 1) := by decide +kernel
theorem dL_law_156 : decode cL_law 156 = .ok (.bipush 32, 2) := by decide +kernel
theorem dL_law_158 : decode cL_law 158 = .ok (.lshl, 1) := by decide +kernel
theorem dL_law_159 : decode cL_law 159 = .ok (.aload_n 0, 1) := by decide +kernel
theorem dL_law_160 : decode cL_law 160 = .ok (.iload 4, 2) := by decide +kernel
theorem dL_law_162 : decode cL_law 162 = .ok (.iconst 2, 1) := by decide +kernel
theorem dL_law_163 : decode cL_law 163 = .ok (.iadd, 1) := by decide +kernel
theorem dL_law_164 : decode cL_law 164 = .ok (.iaload, 1) := by decide +kernel
theorem dL_law_165 : decode cL_law 165 = .ok (.i2l, 1) := by decide +kernel
theorem dL_law_166 : decode cL_law 166 = .ok (.ldc2_w 19, 3) := by decide +kernel
theorem dL_law_169 : decode cL_law 169 = .ok (.land, 1) := by decide +kernel
theorem dL_law_170 : decode cL_law 170 = .ok (.lor, 1) := by decide +kernel
theorem dL_law_171 : decode cL_law 171 = .ok (.aload_n 0, 1) := by decide +kernel
theorem dL_law_172 : decode cL_law 172 = .ok (.iload 4, 2) := by decide +kernel
theorem dL_law_174 : decode cL_law 174 = .ok (.iconst 3, 1) := by decide +kernel
theorem dL_law_175 : decode cL_law 175 = .ok (.iadd, 1) := by decide +kernel
theorem dL_law_176 : decode cL_law 176 = .ok (.iaload, 1) := by decide +kernel
theorem dL_law_177 : decode cL_law 177 = .ok (.i2l, 1) := by decide +kernel
theorem dL_law_178 : decode cL_law 178 = .ok (.bipush 32, 2) := by decide +kernel
theorem dL_law_180 : decode cL_law 180 = .ok (.lshl, 1) := by decide +kernel
theorem dL_law_181 : decode cL_law 181 = .ok (.aload_n 0, 1) := by decide +kernel
theorem dL_law_182 : decode cL_law 182 = .ok (.iload 4, 2) := by decide +kernel
theorem dL_law_184 : decode cL_law 184 = .ok (.iconst 4, 1) := by decide +kernel
theorem dL_law_185 : decode cL_law 185 = .ok (.iadd, 1) := by decide +kernel
theorem dL_law_186 : decode cL_law 186 = .ok (.iaload, 1) := by decide +kernel
theorem dL_law_187 : decode cL_law 187 = .ok (.i2l, 1) := by decide +kernel
theorem dL_law_188 : decode cL_law 188 = .ok (.ldc2_w 19, 3) := by decide +kernel
theorem dL_law_191 : decode cL_law 191 = .ok (.land, 1) := by decide +kernel
theorem dL_law_192 : decode cL_law 192 = .ok (.lor, 1) := by decide +kernel
theorem dL_law_193 : decode cL_law 193 = .ok (.invokevirtual 25, 3) := by decide +kernel
theorem dL_law_196 : decode cL_law 196 = .ok (.if_icmp .eq 449, 3) := by decide +kernel
theorem dL_law_199 : decode cL_law 199 = .ok (.iconst 0, 1) := by decide +kernel
theorem dL_law_200 : decode cL_law 200 = .ok (.ireturn, 1) := by decide +kernel
theorem dL_law_201 : decode cL_law 201 = .ok (.aload_n 1, 1) := by decide +kernel
theorem dL_law_202 : decode cL_law 202 = .ok (.aload_n 0, 1) := by decide +kernel
theorem dL_law_203 : decode cL_law 203 = .ok (.iload 4, 2) := by decide +kernel
theorem dL_law_205 : decode cL_law 205 = .ok (.iconst 1, 1) := by decide +kernel
theorem dL_law_206 : decode cL_law 206 = .ok (.iadd, 1) := by decide +kernel
theorem dL_law_207 : decode cL_law 207 = .ok (.iaload, 1) := by decide +kernel
theorem dL_law_208 : decode cL_law 208 = .ok (.aload_n 0, 1) := by decide +kernel
theorem dL_law_209 : decode cL_law 209 = .ok (.iload 4, 2) := by decide +kernel
theorem dL_law_211 : decode cL_law 211 = .ok (.iconst 2, 1) := by decide +kernel
theorem dL_law_212 : decode cL_law 212 = .ok (.iadd, 1) := by decide +kernel
theorem dL_law_213 : decode cL_law 213 = .ok (.iaload, 1) := by decide +kernel
theorem dL_law_214 : decode cL_law 214 = .ok (.i2b, 1) := by decide +kernel
theorem dL_law_215 : decode cL_law 215 = .ok (.invokevirtual 26, 3) := by decide +kernel
theorem dL_law_218 : decode cL_law 218 = .ok (.aload_n 2, 1) := by decide +kernel
theorem dL_law_219 : decode cL_law 219 = .ok (.aload_n 0, 1) := by decide +kernel
theorem dL_law_220 : decode cL_law 220 = .ok (.iload 4, 2) := by decide +kernel
theorem dL_law_222 : decode cL_law 222 = .ok (.iconst 1, 1) := by decide +kernel
theorem dL_law_223 : decode cL_law 223 = .ok (.iadd, 1) := by decide +kernel
theorem dL_law_224 : decode cL_law 224 = .ok (.iaload, 1) := by decide +kernel
theorem dL_law_225 : decode cL_law 225 = .ok (.aload_n 0, 1) := by decide +kernel
theorem dL_law_226 : decode cL_law 226 = .ok (.iload 4, 2) := by decide +kernel
theorem dL_law_228 : decode cL_law 228 = .ok (.iconst 2, 1) := by decide +kernel
theorem dL_law_229 : decode cL_law 229 = .ok (.iadd, 1) := by decide +kernel
theorem dL_law_230 : decode cL_law 230 = .ok (.iaload, 1) := by decide +kernel
theorem dL_law_231 : decode cL_law 231 = .ok (.i2b, 1) := by decide +kernel
theorem dL_law_232 : decode cL_law 232 = .ok (.invokevirtual 30, 3) := by decide +kernel
theorem dL_law_235 : decode cL_law 235 = .ok (.goto 410, 3) := by decide +kernel
theorem dL_law_238 : decode cL_law 238 = .ok (.aload_n 1, 1) := by decide +kernel
theorem dL_law_239 : decode cL_law 239 = .ok (.aload_n 0, 1) := by decide +kernel
theorem dL_law_240 : decode cL_law 240 = .ok (.iload 4, 2) := by decide +kernel
theorem dL_law_242 : decode cL_law 242 = .ok (.iconst 1, 1) := by decide +kernel
theorem dL_law_243 : decode cL_law 243 = .ok (.iadd, 1) := by decide +kernel
theorem dL_law_244 : decode cL_law 244 = .ok (.iaload, 1) := by decide +kernel
theorem dL_law_245 : decode cL_law 245 = .ok (.aload_n 0, 1) := by decide +kernel
theorem dL_law_246 : decode cL_law 246 = .ok (.iload 4, 2) := by decide +kernel
theorem dL_law_248 : decode cL_law 248 = .ok (.iconst 2, 1) := by decide +kernel
theorem dL_law_249 : decode cL_law 249 = .ok (.iadd, 1) := by decide +kernel
theorem dL_law_250 : decode cL_law 250 = .ok (.iaload, 1) := by decide +kernel
theorem dL_law_251 : decode cL_law 251 = .ok (.aload_n 0, 1) := by decide +kernel
theorem dL_law_252 : decode cL_law 252 = .ok (.iload 4, 2) := by decide +kernel
theorem dL_law_254 : decode cL_law 254 = .ok (.iconst 3, 1) := by decide +kernel
theorem dL_law_255 : decode cL_law 255 = .ok (.iadd, 1) := by decide +kernel
theorem dL_law_256 : decode cL_law 256 = .ok (.iaload, 1) := by decide +kernel
theorem dL_law_257 : decode cL_law 257 = .ok (.aload_n 0, 1) := by decide +kernel
theorem dL_law_258 : decode cL_law 258 = .ok (.iload 4, 2) := by decide +kernel
theorem dL_law_260 : decode cL_law 260 = .ok (.iconst 4, 1) := by decide +kernel
theorem dL_law_261 : decode cL_law 261 = .ok (.iadd, 1) := by decide +kernel
theorem dL_law_262 : decode cL_law 262 = .ok (.iaload, 1) := by decide +kernel
theorem dL_law_263 : decode cL_law 263 = .ok (.i2l, 1) := by decide +kernel
theorem dL_law_264 : decode cL_law 264 = .ok (.bipush 32, 2) := by decide +kernel
theorem dL_law_266 : decode cL_law 266 = .ok (.lshl, 1) := by decide +kernel
theorem dL_law_267 : decode cL_law 267 = .ok (.aload_n 0, 1) := by decide +kernel
theorem dL_law_268 : decode cL_law 268 = .ok (.iload 4, 2) := by decide +kernel
theorem dL_law_270 : decode cL_law 270 = .ok (.iconst 5, 1) := by decide +kernel
theorem dL_law_271 : decode cL_law 271 = .ok (.iadd, 1) := by decide +kernel
theorem dL_law_272 : decode cL_law 272 = .ok (.iaload, 1) := by decide +kernel
theorem dL_law_273 : decode cL_law 273 = .ok (.i2l, 1) := by decide +kernel
theorem dL_law_274 : decode cL_law 274 = .ok (.ldc2_w 19, 3) := by decide +kernel
theorem dL_law_277 : decode cL_law 277 = .ok (.land, 1) := by decide +kernel
theorem dL_law_278 : decode cL_law 278 = .ok (.lor, 1) := by decide +kernel
theorem dL_law_279 : decode cL_law 279 = .ok (.invokevirtual 31, 3) := by decide +kernel
theorem dL_law_282 : decode cL_law 282 = .ok (.aload_n 2, 1) := by decide +kernel
theorem dL_law_283 : decode cL_law 283 = .ok (.aload_n 0, 1) := by decide +kernel
theorem dL_law_284 : decode cL_law 284 = .ok (.iload 4, 2) := by decide +kernel
theorem dL_law_286 : decode cL_law 286 = .ok (.iconst 1, 1) := by decide +kernel
theorem dL_law_287 : decode cL_law 287 = .ok (.iadd, 1) := by decide +kernel
theorem dL_law_288 : decode cL_law 288 = .ok (.iaload, 1) := by decide +kernel
theorem dL_law_289 : decode cL_law 289 = .ok (.aload_n 0, 1) := by decide +kernel
theorem dL_law_290 : decode cL_law 290 = .ok (.iload 4, 2) := by decide +kernel
theorem dL_law_292 : decode cL_law 292 = .ok (.iconst 2, 1) := by decide +kernel
theorem dL_law_293 : decode cL_law 293 = .ok (.iadd, 1) := by decide +kernel
theorem dL_law_294 : decode cL_law 294 = .ok (.iaload, 1) := by decide +kernel
theorem dL_law_295 : decode cL_law 295 = .ok (.aload_n 0, 1) := by decide +kernel
theorem dL_law_296 : decode cL_law 296 = .ok (.iload 4, 2) := by decide +kernel
theorem dL_law_298 : decode cL_law 298 = .ok (.iconst 3, 1) := by decide +kernel
theorem dL_law_299 : decode cL_law 299 = .ok (.iadd, 1) := by decide +kernel
theorem dL_law_300 : decode cL_law 300 = .ok (.iaload, 1) := by decide +kernel
theorem dL_law_301 : decode cL_law 301 = .ok (.aload_n 0, 1) := by decide +kernel
theorem dL_law_302 : decode cL_law 302 = .ok (.iload 4, 2) := by decide +kernel
theorem dL_law_304 : decode cL_law 304 = .ok (.iconst 4, 1) := by decide +kernel
theorem dL_law_305 : decode cL_law 305 = .ok (.iadd, 1) := by decide +kernel
theorem dL_law_306 : decode cL_law 306 = .ok (.iaload, 1) := by decide +kernel
theorem dL_law_307 : decode cL_law 307 = .ok (.i2l, 1) := by decide +kernel
theorem dL_law_308 : decode cL_law 308 = .ok (.bipush 32, 2) := by decide +kernel
theorem dL_law_310 : decode cL_law 310 = .ok (.lshl, 1) := by decide +kernel
theorem dL_law_311 : decode cL_law 311 = .ok (.aload_n 0, 1) := by decide +kernel
theorem dL_law_312 : decode cL_law 312 = .ok (.iload 4, 2) := by decide +kernel
theorem dL_law_314 : decode cL_law 314 = .ok (.iconst 5, 1) := by decide +kernel
theorem dL_law_315 : decode cL_law 315 = .ok (.iadd, 1) := by decide +kernel
theorem dL_law_316 : decode cL_law 316 = .ok (.iaload, 1) := by decide +kernel
theorem dL_law_317 : decode cL_law 317 = .ok (.i2l, 1) := by decide +kernel
theorem dL_law_318 : decode cL_law 318 = .ok (.ldc2_w 19, 3) := by decide +kernel
theorem dL_law_321 : decode cL_law 321 = .ok (.land, 1) := by decide +kernel
theorem dL_law_322 : decode cL_law 322 = .ok (.lor, 1) := by decide +kernel
theorem dL_law_323 : decode cL_law 323 = .ok (.invokevirtual 35, 3) := by decide +kernel
theorem dL_law_326 : decode cL_law 326 = .ok (.if_icmp .eq 319, 3) := by decide +kernel
theorem dL_law_329 : decode cL_law 329 = .ok (.iconst 0, 1) := by decide +kernel
theorem dL_law_330 : decode cL_law 330 = .ok (.ireturn, 1) := by decide +kernel
theorem dL_law_331 : decode cL_law 331 = .ok (.aload_n 1, 1) := by decide +kernel
theorem dL_law_332 : decode cL_law 332 = .ok (.aload_n 0, 1) := by decide +kernel
theorem dL_law_333 : decode cL_law 333 = .ok (.iload 4, 2) := by decide +kernel
theorem dL_law_335 : decode cL_law 335 = .ok (.iconst 1, 1) := by decide +kernel
theorem dL_law_336 : decode cL_law 336 = .ok (.iadd, 1) := by decide +kernel
theorem dL_law_337 : decode cL_law 337 = .ok (.iaload, 1) := by decide +kernel
theorem dL_law_338 : decode cL_law 338 = .ok (.invokevirtual 36, 3) := by decide +kernel
theorem dL_law_341 : decode cL_law 341 = .ok (.aload_n 2, 1) := by decide +kernel
theorem dL_law_342 : decode cL_law 342 = .ok (.aload_n 0, 1) := by decide +kernel
theorem dL_law_343 : decode cL_law 343 = .ok (.iload 4, 2) := by decide +kernel
theorem dL_law_345 : decode cL_law 345 = .ok (.iconst 1, 1) := by decide +kernel
theorem dL_law_346 : decode cL_law 346 = .ok (.iadd, 1) := by decide +kernel
theorem dL_law_347 : decode cL_law 347 = .ok (.iaload, 1) := by decide +kernel
theorem dL_law_348 : decode cL_law 348 = .ok (.invokevirtual 40, 3) := by decide +kernel
theorem dL_law_351 : decode cL_law 351 = .ok (.if_icmp .eq 294, 3) := by decide +kernel
theorem dL_law_354 : decode cL_law 354 = .ok (.iconst 0, 1) := by decide +kernel
theorem dL_law_355 : decode cL_law 355 = .ok (.ireturn, 1) := by decide +kernel
theorem dL_law_356 : decode cL_law 356 = .ok (.aload_n 1, 1) := by decide +kernel
theorem dL_law_357 : decode cL_law 357 = .ok (.aload_n 0, 1) := by decide +kernel
theorem dL_law_358 : decode cL_law 358 = .ok (.iload 4, 2) := by decide +kernel
theorem dL_law_360 : decode cL_law 360 = .ok (.iconst 1, 1) := by decide +kernel
theorem dL_law_361 : decode cL_law 361 = .ok (.iadd, 1) := by decide +kernel
theorem dL_law_362 : decode cL_law 362 = .ok (.iaload, 1) := by decide +kernel
theorem dL_law_363 : decode cL_law 363 = .ok (.invokevirtual 41, 3) := by decide +kernel
theorem dL_law_366 : decode cL_law 366 = .ok (.aload_n 2, 1) := by decide +kernel
theorem dL_law_367 : decode cL_law 367 = .ok (.aload_n 0, 1) := by decide +kernel
theorem dL_law_368 : decode cL_law 368 = .ok (.iload 4, 2) := by decide +kernel
theorem dL_law_370 : decode cL_law 370 = .ok (.iconst 1, 1) := by decide +kernel
theorem dL_law_371 : decode cL_law 371 = .ok (.iadd, 1) := by decide +kernel
theorem dL_law_372 : decode cL_law 372 = .ok (.iaload, 1) := by decide +kernel
theorem dL_law_373 : decode cL_law 373 = .ok (.invokevirtual 45, 3) := by decide +kernel
theorem dL_law_376 : decode cL_law 376 = .ok (.goto 269, 3) := by decide +kernel
theorem dL_law_379 : decode cL_law 379 = .ok (.aload_n 1, 1) := by decide +kernel
theorem dL_law_380 : decode cL_law 380 = .ok (.aload_n 0, 1) := by decide +kernel
theorem dL_law_381 : decode cL_law 381 = .ok (.iload 4, 2) := by decide +kernel
theorem dL_law_383 : decode cL_law 383 = .ok (.iconst 1, 1) := by decide +kernel
theorem dL_law_384 : decode cL_law 384 = .ok (.iadd, 1) := by decide +kernel
theorem dL_law_385 : decode cL_law 385 = .ok (.iaload, 1) := by decide +kernel
theorem dL_law_386 : decode cL_law 386 = .ok (.i2l, 1) := by decide +kernel
theorem dL_law_387 : decode cL_law 387 = .ok (.bipush 32, 2) := by decide +kernel
theorem dL_law_389 : decode cL_law 389 = .ok (.lshl, 1) := by decide +kernel
theorem dL_law_390 : decode cL_law 390 = .ok (.aload_n 0, 1) := by decide +kernel
theorem dL_law_391 : decode cL_law 391 = .ok (.iload 4, 2) := by decide +kernel
theorem dL_law_393 : decode cL_law 393 = .ok (.iconst 2, 1) := by decide +kernel
theorem dL_law_394 : decode cL_law 394 = .ok (.iadd, 1) := by decide +kernel
theorem dL_law_395 : decode cL_law 395 = .ok (.iaload, 1) := by decide +kernel
theorem dL_law_396 : decode cL_law 396 = .ok (.i2l, 1) := by decide +kernel
theorem dL_law_397 : decode cL_law 397 = .ok (.ldc2_w 19, 3) := by decide +kernel
theorem dL_law_400 : decode cL_law 400 = .ok (.land, 1) := by decide +kernel
theorem dL_law_401 : decode cL_law 401 = .ok (.lor, 1) := by decide +kernel
theorem dL_law_402 : decode cL_law 402 = .ok (.invokevirtual 46, 3) := by decide +kernel
theorem dL_law_405 : decode cL_law 405 = .ok (.aload_n 2, 1) := by decide +kernel
theorem dL_law_406 : decode cL_law 406 = .ok (.aload_n 0, 1) := by decide +kernel
theorem dL_law_407 : decode cL_law 407 = .ok (.iload 4, 2) := by decide +kernel
theorem dL_law_409 : decode cL_law 409 = .ok (.iconst 1, 1) := by decide +kernel
theorem dL_law_410 : decode cL_law 410 = .ok (.iadd, 1) := by decide +kernel
theorem dL_law_411 : decode cL_law 411 = .ok (.iaload, 1) := by decide +kernel
theorem dL_law_412 : decode cL_law 412 = .ok (.i2l, 1) := by decide +kernel
theorem dL_law_413 : decode cL_law 413 = .ok (.bipush 32, 2) := by decide +kernel
theorem dL_law_415 : decode cL_law 415 = .ok (.lshl, 1) := by decide +kernel
theorem dL_law_416 : decode cL_law 416 = .ok (.aload_n 0, 1) := by decide +kernel
theorem dL_law_417 : decode cL_law 417 = .ok (.iload 4, 2) := by decide +kernel
theorem dL_law_419 : decode cL_law 419 = .ok (.iconst 2, 1) := by decide +kernel
theorem dL_law_420 : decode cL_law 420 = .ok (.iadd, 1) := by decide +kernel
theorem dL_law_421 : decode cL_law 421 = .ok (.iaload, 1) := by decide +kernel
theorem dL_law_422 : decode cL_law 422 = .ok (.i2l, 1) := by decide +kernel
theorem dL_law_423 : decode cL_law 423 = .ok (.ldc2_w 19, 3) := by decide +kernel
theorem dL_law_426 : decode cL_law 426 = .ok (.land, 1) := by decide +kernel
theorem dL_law_427 : decode cL_law 427 = .ok (.lor, 1) := by decide +kernel
theorem dL_law_428 : decode cL_law 428 = .ok (.invokevirtual 50, 3) := by decide +kernel
theorem dL_law_431 : decode cL_law 431 = .ok (.if_icmp .eq 214, 3) := by decide +kernel
theorem dL_law_434 : decode cL_law 434 = .ok (.iconst 0, 1) := by decide +kernel
theorem dL_law_435 : decode cL_law 435 = .ok (.ireturn, 1) := by decide +kernel
theorem dL_law_436 : decode cL_law 436 = .ok (.aload_n 1, 1) := by decide +kernel
theorem dL_law_437 : decode cL_law 437 = .ok (.aload_n 0, 1) := by decide +kernel
theorem dL_law_438 : decode cL_law 438 = .ok (.iload 4, 2) := by decide +kernel
theorem dL_law_440 : decode cL_law 440 = .ok (.iconst 1, 1) := by decide +kernel
theorem dL_law_441 : decode cL_law 441 = .ok (.iadd, 1) := by decide +kernel
theorem dL_law_442 : decode cL_law 442 = .ok (.iaload, 1) := by decide +kernel
theorem dL_law_443 : decode cL_law 443 = .ok (.invokevirtual 51, 3) := by decide +kernel
theorem dL_law_446 : decode cL_law 446 = .ok (.aload_n 2, 1) := by decide +kernel
theorem dL_law_447 : decode cL_law 447 = .ok (.aload_n 0, 1) := by decide +kernel
theorem dL_law_448 : decode cL_law 448 = .ok (.iload 4, 2) := by decide +kernel
theorem dL_law_450 : decode cL_law 450 = .ok (.iconst 1, 1) := by decide +kernel
theorem dL_law_451 : decode cL_law 451 = .ok (.iadd, 1) := by decide +kernel
theorem dL_law_452 : decode cL_law 452 = .ok (.iaload, 1) := by decide +kernel
theorem dL_law_453 : decode cL_law 453 = .ok (.invokevirtual 54, 3) := by decide +kernel
theorem dL_law_456 : decode cL_law 456 = .ok (.if_icmp .eq 189, 3) := by decide +kernel
theorem dL_law_459 : decode cL_law 459 = .ok (.iconst 0, 1) := by decide +kernel
theorem dL_law_460 : decode cL_law 460 = .ok (.ireturn, 1) := by decide +kernel
theorem dL_law_461 : decode cL_law 461 = .ok (.aload_n 1, 1) := by decide +kernel
theorem dL_law_462 : decode cL_law 462 = .ok (.aload_n 0, 1) := by decide +kernel
theorem dL_law_463 : decode cL_law 463 = .ok (.iload 4, 2) := by decide +kernel
theorem dL_law_465 : decode cL_law 465 = .ok (.iconst 1, 1) := by decide +kernel
theorem dL_law_466 : decode cL_law 466 = .ok (.iadd, 1) := by decide +kernel
theorem dL_law_467 : decode cL_law 467 = .ok (.iaload, 1) := by decide +kernel
theorem dL_law_468 : decode cL_law 468 = .ok (.i2l, 1) := by decide +kernel
theorem dL_law_469 : decode cL_law 469 = .ok (.bipush 32, 2) := by decide +kernel
theorem dL_law_471 : decode cL_law 471 = .ok (.lshl, 1) := by decide +kernel
theorem dL_law_472 : decode cL_law 472 = .ok (.aload_n 0, 1) := by decide +kernel
theorem dL_law_473 : decode cL_law 473 = .ok (.iload 4, 2) := by decide +kernel
theorem dL_law_475 : decode cL_law 475 = .ok (.iconst 2, 1) := by decide +kernel
theorem dL_law_476 : decode cL_law 476 = .ok (.iadd, 1) := by decide +kernel
theorem dL_law_477 : decode cL_law 477 = .ok (.iaload, 1) := by decide +kernel
theorem dL_law_478 : decode cL_law 478 = .ok (.i2l, 1) := by decide +kernel
theorem dL_law_479 : decode cL_law 479 = .ok (.ldc2_w 19, 3) := by decide +kernel
theorem dL_law_482 : decode cL_law 482 = .ok (.land, 1) := by decide +kernel
theorem dL_law_483 : decode cL_law 483 = .ok (.lor, 1) := by decide +kernel
theorem dL_law_484 : decode cL_law 484 = .ok (.invokevirtual 55, 3) := by decide +kernel
theorem dL_law_487 : decode cL_law 487 = .ok (.aload_n 2, 1) := by decide +kernel
theorem dL_law_488 : decode cL_law 488 = .ok (.aload_n 0, 1) := by decide +kernel
theorem dL_law_489 : decode cL_law 489 = .ok (.iload 4, 2) := by decide +kernel
theorem dL_law_491 : decode cL_law 491 = .ok (.iconst 1, 1) := by decide +kernel
theorem dL_law_492 : decode cL_law 492 = .ok (.iadd, 1) := by decide +kernel
theorem dL_law_493 : decode cL_law 493 = .ok (.iaload, 1) := by decide +kernel
theorem dL_law_494 : decode cL_law 494 = .ok (.i2l, 1) := by decide +kernel
theorem dL_law_495 : decode cL_law 495 = .ok (.bipush 32, 2) := by decide +kernel
theorem dL_law_497 : decode cL_law 497 = .ok (.lshl, 1) := by decide +kernel
theorem dL_law_498 : decode cL_law 498 = .ok (.aload_n 0, 1) := by decide +kernel
theorem dL_law_499 : decode cL_law 499 = .ok (.iload 4, 2) := by decide +kernel
theorem dL_law_501 : decode cL_law 501 = .ok (.iconst 2, 1) := by decide +kernel
theorem dL_law_502 : decode cL_law 502 = .ok (.iadd, 1) := by decide +kernel
theorem dL_law_503 : decode cL_law 503 = .ok (.iaload, 1) := by decide +kernel
theorem dL_law_504 : decode cL_law 504 = .ok (.i2l, 1) := by decide +kernel
theorem dL_law_505 : decode cL_law 505 = .ok (.ldc2_w 19, 3) := by decide +kernel
theorem dL_law_508 : decode cL_law 508 = .ok (.land, 1) := by decide +kernel
theorem dL_law_509 : decode cL_law 509 = .ok (.lor, 1) := by decide +kernel
theorem dL_law_510 : decode cL_law 510 = .ok (.invokevirtual 58, 3) := by decide +kernel
theorem dL_law_513 : decode cL_law 513 = .ok (.if_icmp .eq 132, 3) := by decide +kernel
theorem dL_law_516 : decode cL_law 516 = .ok (.iconst 0, 1) := by decide +kernel
theorem dL_law_517 : decode cL_law 517 = .ok (.ireturn, 1) := by decide +kernel
theorem dL_law_518 : decode cL_law 518 = .ok (.aload_n 1, 1) := by decide +kernel
theorem dL_law_519 : decode cL_law 519 = .ok (.aload_n 0, 1) := by decide +kernel
theorem dL_law_520 : decode cL_law 520 = .ok (.iload 4, 2) := by decide +kernel
theorem dL_law_522 : decode cL_law 522 = .ok (.iconst 1, 1) := by decide +kernel
theorem dL_law_523 : decode cL_law 523 = .ok (.iadd, 1) := by decide +kernel
theorem dL_law_524 : decode cL_law 524 = .ok (.iaload, 1) := by decide +kernel
theorem dL_law_525 : decode cL_law 525 = .ok (.aload_n 3, 1) := by decide +kernel
theorem dL_law_526 : decode cL_law 526 = .ok (.invokestatic 59, 3) := by decide +kernel
theorem dL_law_529 : decode cL_law 529 = .ok (.istore 5, 2) := by decide +kernel
theorem dL_law_531 : decode cL_law 531 = .ok (.aload_n 2, 1) := by decide +kernel
theorem dL_law_532 : decode cL_law 532 = .ok (.aload_n 0, 1) := by decide +kernel
theorem dL_law_533 : decode cL_law 533 = .ok (.iload 4, 2) := by decide +kernel
theorem dL_law_535 : decode cL_law 535 = .ok (.iconst 1, 1) := by decide +kernel
theorem dL_law_536 : decode cL_law 536 = .ok (.iadd, 1) := by decide +kernel
theorem dL_law_537 : decode cL_law 537 = .ok (.iaload, 1) := by decide +kernel
theorem dL_law_538 : decode cL_law 538 = .ok (.invokevirtual 64, 3) := by decide +kernel
theorem dL_law_541 : decode cL_law 541 = .ok (.istore 6, 2) := by decide +kernel
theorem dL_law_543 : decode cL_law 543 = .ok (.aload_n 2, 1) := by decide +kernel
theorem dL_law_544 : decode cL_law 544 = .ok (.invokevirtual 65, 3) := by decide +kernel
theorem dL_law_547 : decode cL_law 547 = .ok (.iload 5, 2) := by decide +kernel
theorem dL_law_549 : decode cL_law 549 = .ok (.if_icmp .eq 5, 3) := by decide +kernel
theorem dL_law_552 : decode cL_law 552 = .ok (.iconst 0, 1) := by decide +kernel
theorem dL_law_553 : decode cL_law 553 = .ok (.ireturn, 1) := by decide +kernel
theorem dL_law_554 : decode cL_law 554 = .ok (.iload 5, 2) := by decide +kernel
theorem dL_law_556 : decode cL_law 556 = .ok (.ifCond .ne 15, 3) := by decide +kernel
theorem dL_law_559 : decode cL_law 559 = .ok (.aload_n 3, 1) := by decide +kernel
theorem dL_law_560 : decode cL_law 560 = .ok (.iconst 0, 1) := by decide +kernel
theorem dL_law_561 : decode cL_law 561 = .ok (.laload, 1) := by decide +kernel
theorem dL_law_562 : decode cL_law 562 = .ok (.iload 6, 2) := by decide +kernel
theorem dL_law_564 : decode cL_law 564 = .ok (.i2l, 1) := by decide +kernel
theorem dL_law_565 : decode cL_law 565 = .ok (.lcmp, 1) := by decide +kernel
theorem dL_law_566 : decode cL_law 566 = .ok (.ifCond .eq 5, 3) := by decide +kernel
theorem dL_law_569 : decode cL_law 569 = .ok (.iconst 0, 1) := by decide +kernel
theorem dL_law_570 : decode cL_law 570 = .ok (.ireturn, 1) := by decide +kernel
theorem dL_law_571 : decode cL_law 571 = .ok (.goto 74, 3) := by decide +kernel
theorem dL_law_574 : decode cL_law 574 = .ok (.aload_n 1, 1) := by decide +kernel
theorem dL_law_575 : decode cL_law 575 = .ok (.aload_n 0, 1) := by decide +kernel
theorem dL_law_576 : decode cL_law 576 = .ok (.iload 4, 2) := by decide +kernel
theorem dL_law_578 : decode cL_law 578 = .ok (.iconst 1, 1) := by decide +kernel
theorem dL_law_579 : decode cL_law 579 = .ok (.iadd, 1) := by decide +kernel
theorem dL_law_580 : decode cL_law 580 = .ok (.iaload, 1) := by decide +kernel
theorem dL_law_581 : decode cL_law 581 = .ok (.i2l, 1) := by decide +kernel
theorem dL_law_582 : decode cL_law 582 = .ok (.bipush 32, 2) := by decide +kernel
theorem dL_law_584 : decode cL_law 584 = .ok (.lshl, 1) := by decide +kernel
theorem dL_law_585 : decode cL_law 585 = .ok (.aload_n 0, 1) := by decide +kernel
theorem dL_law_586 : decode cL_law 586 = .ok (.iload 4, 2) := by decide +kernel
theorem dL_law_588 : decode cL_law 588 = .ok (.iconst 2, 1) := by decide +kernel
theorem dL_law_589 : decode cL_law 589 = .ok (.iadd, 1) := by decide +kernel
theorem dL_law_590 : decode cL_law 590 = .ok (.iaload, 1) := by decide +kernel
theorem dL_law_591 : decode cL_law 591 = .ok (.i2l, 1) := by decide +kernel
theorem dL_law_592 : decode cL_law 592 = .ok (.ldc2_w 19, 3) := by decide +kernel
theorem dL_law_595 : decode cL_law 595 = .ok (.land, 1) := by decide +kernel
theorem dL_law_596 : decode cL_law 596 = .ok (.lor, 1) := by decide +kernel
theorem dL_law_597 : decode cL_law 597 = .ok (.invokevirtual 69, 3) := by decide +kernel
theorem dL_law_600 : decode cL_law 600 = .ok (.aload_n 2, 1) := by decide +kernel
theorem dL_law_601 : decode cL_law 601 = .ok (.aload_n 0, 1) := by decide +kernel
theorem dL_law_602 : decode cL_law 602 = .ok (.iload 4, 2) := by decide +kernel
theorem dL_law_604 : decode cL_law 604 = .ok (.iconst 1, 1) := by decide +kernel
theorem dL_law_605 : decode cL_law 605 = .ok (.iadd, 1) := by decide +kernel
theorem dL_law_606 : decode cL_law 606 = .ok (.iaload, 1) := by decide +kernel
theorem dL_law_607 : decode cL_law 607 = .ok (.i2l, 1) := by decide +kernel
theorem dL_law_608 : decode cL_law 608 = .ok (.bipush 32, 2) := by decide +kernel
theorem dL_law_610 : decode cL_law 610 = .ok (.lshl, 1) := by decide +kernel
theorem dL_law_611 : decode cL_law 611 = .ok (.aload_n 0, 1) := by decide +kernel
theorem dL_law_612 : decode cL_law 612 = .ok (.iload 4, 2) := by decide +kernel
theorem dL_law_614 : decode cL_law 614 = .ok (.iconst 2, 1) := by decide +kernel
theorem dL_law_615 : decode cL_law 615 = .ok (.iadd, 1) := by decide +kernel
theorem dL_law_616 : decode cL_law 616 = .ok (.iaload, 1) := by decide +kernel
theorem dL_law_617 : decode cL_law 617 = .ok (.i2l, 1) := by decide +kernel
theorem dL_law_618 : decode cL_law 618 = .ok (.ldc2_w 19, 3) := by decide +kernel
theorem dL_law_621 : decode cL_law 621 = .ok (.land, 1) := by decide +kernel
theorem dL_law_622 : decode cL_law 622 = .ok (.lor, 1) := by decide +kernel
theorem dL_law_623 : decode cL_law 623 = .ok (.invokevirtual 72, 3) := by decide +kernel
theorem dL_law_626 : decode cL_law 626 = .ok (.if_icmp .eq 19, 3) := by decide +kernel
theorem dL_law_629 : decode cL_law 629 = .ok (.iconst 0, 1) := by decide +kernel
theorem dL_law_630 : decode cL_law 630 = .ok (.ireturn, 1) := by decide +kernel
theorem dL_law_631 : decode cL_law 631 = .ok (.aload_n 1, 1) := by decide +kernel
theorem dL_law_632 : decode cL_law 632 = .ok (.invokevirtual 73, 3) := by decide +kernel
theorem dL_law_635 : decode cL_law 635 = .ok (.aload_n 2, 1) := by decide +kernel
theorem dL_law_636 : decode cL_law 636 = .ok (.invokevirtual 77, 3) := by decide +kernel
theorem dL_law_639 : decode cL_law 639 = .ok (.lcmp, 1) := by decide +kernel
theorem dL_law_640 : decode cL_law 640 = .ok (.ifCond .eq 5, 3) := by decide +kernel
theorem dL_law_643 : decode cL_law 643 = .ok (.iconst 0, 1) := by decide +kernel
theorem dL_law_644 : decode cL_law 644 = .ok (.ireturn, 1) := by decide +kernel
theorem dL_law_645 : decode cL_law 645 = .ok (.iinc 4 6, 3) := by decide +kernel
theorem dL_law_648 : decode cL_law 648 = .ok (.goto (-625), 3) := by decide +kernel
theorem dL_law_651 : decode cL_law 651 = .ok (.iconst 1, 1) := by decide +kernel
theorem dL_law_652 : decode cL_law 652 = .ok (.ireturn, 1) := by decide +kernel
abbrev vwCl : List vw_C := [(RJ0, TJ0, 2), (RJx00060, TJx00060, 6), (RX0, TX0, 3), (RX2, TX2, 5), (RX3, TX3, 3), (RX4, TX4, 10), (RX5, TX5, 23)]
end
section
/-! my kit: the environment of this claim (classes, statics), what a reading and a writing contract start from, one law for a cut-out world put back in place, one row a call -/
def rsT : String := "0123456789ABCDEFGHJKLMNPQRSTUVWX"
def aBL : List Int32 := [48, 49, 50, 51, 52, 53, 54, 55, 56, 57, 65, 66, 67, 68, 69, 70, 71, 72, 74, 75, 76, 77, 78, 80, 81, 82, 83, 84, 85, 86, 87, 88]
def sBegL : List Int32 := [1779033703, (-1150833019), 1013904242, (-1521486534), 1359893119, (-1694144372), 528734635, 1541459225]
def sKL : List Int32 := [1116352408, 1899447441, (-1245643825), (-373957723), 961987163, 1508970993, (-1841331548), (-1424204075), (-670586216), 310598401, 607225278, 1426881987, 1925078388, (-2132889090), (-1680079193), (-1046744716), (-459576895), (-272742522), 264347078, 604807628, 770255983, 1249150122, 1555081692, 1996064986, (-1740746414), (-1473132947), (-1341970488), (-1084653625), (-958395405), (-710438585), 113926993, 338241895, 666307205, 773529912, 1294757372, 1396182291, 1695183700, 1986661051, (-2117940946), (-1838011259), (-1564481375), (-1474664885), (-1035236496), (-949202525), (-778901479), (-694614492), (-200395387), 275423344, 430227734, 506948616, 659060556, 883997877, 958139571, 1322822218, 1537002063, 1747873779, 1955562222, 2024104815, (-2067236844), (-1933114872), (-1866530822), (-1538233109), (-1090935817), (-965641998)]
def sBeg (j : Nat) : Int32 := sBegL.getD j 0
def sK (j : Nat) : Int32 := sKL.getD j 0
/-- letter v of the alphabet -/
def aL (v : Nat) : Int32 := aBL.getD v 0
abbrev gE : Type := va_G × ((Nat → ClassId) × (Nat → Nat))
abbrev gT (g : gE) : List (ClassId × FieldType) := [(g.2.1 0, .int), (g.2.1 1, .byte), (g.2.1 2, .boolean), (g.2.1 3, .long), (g.2.1 4, .object "StampMaker$Key")]
def gK (g : gE) (U : State) : Prop := va_K g.1 vwCl (gT g) U ∧ va_AO "StampMaker$Key" U ∧ va_Nw (.methodLinkNest RX4 28 yX3_init RX4) U ∧ va_Nw (.methodLinkNest RX4 35 yX0_init RX4) U ∧ vk_R RX4 145 rsT (g.2.2 2) U ∧ vk_R RX5 161 rsT (g.2.2 2) U
def gZ (g : gE) (A : Nat → Prop) (U : State) (H : Heap) : Prop :=
  va_Z "StampMaker$Digest" "START" "[I" (.ref (g.2.2 0)) A U H ∧ va_T .int (g.2.2 0) 8 (fun j => .int (sBeg j)) A U H ∧
  va_Z "StampMaker$Digest" "ROUND_NUMBERS" "[I" (.ref (g.2.2 1)) A U H ∧ va_T .int (g.2.2 1) 64 (fun j => .int (sK j)) A U H ∧
  va_Z "java/lang/String" "COMPACT_STRINGS" "Z" (.int 1) A U H ∧ va_Zq "jdk/internal/util/Preconditions" "SIOOBE_FORMATTER" "Ljava/util/function/BiFunction;" A U H ∧
  vk_S 1 [32] [aBL] (fun _ => g.2.2 2) (fun _ => g.2.2 3) A U H ∧
  vx_Zq Bundle.tN "UNASSIGNED_STACK" Bundle.steD A U H ∧ vx_Zq Bundle.tN "SUPPRESSED_SENTINEL" Bundle.listD A U H
theorem gK.warm {g : gE} {s U : State} (hW : s.WarmedH U.vm) (h : gK g s) : gK g U :=
  ⟨va_K.moved hW.alike h.1, va_AO.moved hW.alike h.2.1, va_Nw.warmM hW h.2.2.1, va_Nw.warmM hW h.2.2.2.1, vk_R.warm hW h.2.2.2.2.1, vk_R.warm hW h.2.2.2.2.2⟩
theorem gK.same {g : gE} {u U : State} (hv : U.vm = u.vm) (h : gK g u) : gK g U := by
  have ha : u.vm.Alike U.vm := by rw [hv]; exact Vm.Alike.refl _
  exact ⟨va_K.moved ha h.1, va_AO.moved ha h.2.1, va_tabs rfl hv.symm h.2.2.1, va_tabs rfl hv.symm h.2.2.2.1, vk_R.same hv h.2.2.2.2.1, vk_R.same hv h.2.2.2.2.2⟩
theorem gZ.moved {g : gE} {A : Nat → Prop} {u U : State} {H : Heap} (hvm : u.vm.Alike U.vm) (h : gZ g A u H) : gZ g A U H :=
  ⟨va_Z.moved hvm h.1, va_T.moved hvm h.2.1, va_Z.moved hvm h.2.2.1, va_T.moved hvm h.2.2.2.1, va_Z.moved hvm h.2.2.2.2.1, va_Zq.moved hvm h.2.2.2.2.2.1, vk_S.moved hvm h.2.2.2.2.2.2.1, vx_Zq.moved hvm h.2.2.2.2.2.2.2.1, vx_Zq.moved hvm h.2.2.2.2.2.2.2.2⟩
theorem gZ.kept {g : gE} {A : Nat → Prop} {U : State} {H H1 : Heap} (h : gZ g A U H) (hq : ∀ a : Nat, a < H.size → ¬ A a → H1[a]? = H[a]?) : gZ g A U H1 :=
  ⟨va_Z.kept h.1 hq, va_T.kept h.2.1 hq, va_Z.kept h.2.2.1 hq, va_T.kept h.2.2.2.1 hq, va_Z.kept h.2.2.2.2.1 hq, va_Zq.kept h.2.2.2.2.2.1 hq, vk_S.kept h.2.2.2.2.2.2.1 hq, vx_Zq.kept h.2.2.2.2.2.2.2.1 hq, vx_Zq.kept h.2.2.2.2.2.2.2.2 hq⟩
theorem gZ.narrow {g : gE} {A B : Nat → Prop} {U : State} {H : Heap} (h : gZ g A U H) (hAB : ∀ q, B q → A q) : gZ g B U H :=
  ⟨va_Z.narrow h.1 hAB, va_T.narrow h.2.1 hAB, va_Z.narrow h.2.2.1 hAB, va_T.narrow h.2.2.2.1 hAB, va_Z.narrow h.2.2.2.2.1 hAB, va_Zq.narrow h.2.2.2.2.2.1 hAB, vk_S.narrow h.2.2.2.2.2.2.1 hAB, vx_Zq.narrow h.2.2.2.2.2.2.2.1 hAB, vx_Zq.narrow h.2.2.2.2.2.2.2.2 hAB⟩
abbrev nA : Nat → Prop := fun _ => False
/-- what a contract that only reads starts from -/
def ro (g : gE) (ws : va_W) (U : State) : Prop := va_P g.1 vwCl ws U.heap ∧ gK g U ∧ gZ g nA U U.heap
/-- what a contract that writes starts from -/
def wr (g : gE) (ws : va_W) (sz : Nat) (U : State) : Prop := U.heap.size = sz ∧ va_P g.1 vwCl ws U.heap ∧ gK g U ∧ va_D (fun _ => True) ws ∧ gZ g (va_A ws sz) U U.heap
theorem ro_blind {g : gE} {ws : va_W} (av : List Value) : FrameBlind (va_Pc av (ro g ws)) := fun a U f mk q => by
  obtain ⟨q0, qP, qK, qZ⟩ := q
  exact ⟨q0, qP, gK.same (u := U) (U := U.calling f mk a) rfl qK, gZ.moved (u := U) (U := U.calling f mk a) (Vm.Alike.refl U.vm) qZ⟩
theorem wr_blind {g : gE} {ws : va_W} {sz : Nat} (av : List Value) : FrameBlind (va_Pc av (wr g ws sz)) := fun a U f mk q => by
  obtain ⟨q0, q1, qP, qK, qD, qZ⟩ := q
  exact ⟨q0, q1, qP, gK.same (u := U) (U := U.calling f mk a) rfl qK, qD, gZ.moved (u := U) (U := U.calling f mk a) (Vm.Alike.refl U.vm) qZ⟩
theorem mk_ro {g : gE} {s : State} {A : Nat → Prop} {H : Heap} {locs : List Loc} {wc : va_W} (hK : gK g s) (hZ : gZ g A s s.heap) (hS : va_S A s.heap H locs) (hPc : va_P g.1 vwCl wc H) (U : State) (hU : U.heap = H) (hW : s.WarmedH U.vm) : ro g wc U := by
  subst hU
  exact ⟨hPc, hK.warm hW, ((hZ.kept hS.2.1).narrow (fun _ h => h.elim)).moved hW.alike⟩
theorem mk_wr {g : gE} {s : State} {A : Nat → Prop} {H : Heap} {locs : List Loc} {wc : va_W} (hK : gK g s) (hZ : gZ g A s s.heap) (hS : va_S A s.heap H locs) (hPc : va_P g.1 vwCl wc H) (hDc : va_D A wc) (hF : ∀ q, va_A wc H.size q → A q) (U : State) (hU : U.heap = H) (hW : s.WarmedH U.vm) : wr g wc H.size U := by
  subst hU
  exact ⟨rfl, hPc, hK.warm hW, hDc.weaken (fun _ _ _ _ => trivial), ((hZ.kept hS.2.1).narrow hF).moved hW.alike⟩
/-- the cells at the places 'is' put anew, what is over comes behind -/
def setL (ws : va_W) : List Nat → va_W → va_W
  | i :: is, x :: w => setL (ws.set i x) is w
  | [], x :: w => setL (ws ++ [x]) [] w
  | _, [] => ws
theorem setL_len : ∀ (w : va_W) (is : List Nat) (ws : va_W), is.length ≤ w.length → (setL ws is w).length = ws.length + (w.length - is.length)
  | [], [], ws, _ => by simp [setL]
  | [], _ :: _, ws, h => by simp at h
  | x :: w, [], ws, _ => by
    rw [setL, setL_len w [] (ws ++ [x]) (by simp)]
    simp only [List.length_append, List.length_cons, List.length_nil]
    omega
  | x :: w, i :: is, ws, h => by
    rw [setL, setL_len w is (ws.set i x) (by simpa using h), List.length_set]
    simp only [List.length_cons]
    omega
/-- a place of setL: one of the new cells, or an old one whose place is none of them -/
theorem setL_at : ∀ (w : va_W) (is : List Nat) (ws : va_W), is.length ≤ w.length → ∀ (k : Nat) (q : Nat × va_E), (setL ws is w)[k]? = some q → (∃ j, w[j]? = some q ∧ (is[j]? = some k ∨ (is.length ≤ j ∧ k = ws.length + (j - is.length)))) ∨ (ws[k]? = some q ∧ k ∉ is)
  | [], [], ws, _, k, q, h => by
    rw [setL] at h
    exact Or.inr ⟨h, by simp⟩
  | [], _ :: _, ws, h, _, _, _ => by simp at h
  | x :: w, [], ws, _, k, q, h => by
    rw [setL] at h
    rcases setL_at w [] (ws ++ [x]) (by simp) k q h with ⟨j, h1, h2⟩ | ⟨h1, -⟩
    · refine Or.inl ⟨j + 1, by simpa using h1, Or.inr ⟨Nat.zero_le _, ?_⟩⟩
      rcases h2 with h2 | ⟨-, h2⟩
      · simp at h2
      · simp only [List.length_append, List.length_cons, List.length_nil] at h2 ⊢
        omega
    · by_cases hk : k < ws.length
      · rw [List.getElem?_append_left hk] at h1
        exact Or.inr ⟨h1, by simp⟩
      · rw [List.getElem?_append_right (by omega)] at h1
        have hz : k - ws.length < 1 := (List.getElem?_eq_some_iff.mp h1).1
        rw [show k - ws.length = 0 by omega] at h1
        refine Or.inl ⟨0, by simpa using h1, Or.inr ⟨Nat.zero_le _, ?_⟩⟩
        simp only [List.length_nil]
        omega
  | x :: w, i :: is, ws, hl, k, q, h => by
    rw [setL] at h
    have hl' : is.length ≤ w.length := by simpa using hl
    rcases setL_at w is (ws.set i x) hl' k q h with ⟨j, h1, h2⟩ | ⟨h1, h2⟩
    · refine Or.inl ⟨j + 1, by simpa using h1, ?_⟩
      rcases h2 with h2 | ⟨h2, h3⟩
      · exact Or.inl (by simpa using h2)
      · refine Or.inr ⟨by simp only [List.length_cons]; omega, ?_⟩
        rw [List.length_set] at h3
        simp only [List.length_cons]
        omega
    · by_cases hk : k = i
      · subst hk
        have hlt : k < ws.length := by
          have := (List.getElem?_eq_some_iff.mp h1).1
          rwa [List.length_set] at this
        rw [List.getElem?_set_self hlt] at h1
        exact Or.inl ⟨0, by simpa using h1, Or.inl (by simp)⟩
      · rw [List.getElem?_set_ne (Ne.symm hk)] at h1
        exact Or.inr ⟨h1, by simp [hk, h2]⟩
/-- the frame rule, in place: a world cut out at the places 'is' comes back with new contents (and new cells behind it); all else is as it was -/
theorem joinL {A : Nat → Prop} {D : va_G} {cl : List vw_C} {ws wc w1 : va_W} {H H1 : Heap} (hP : va_P D cl ws H) (hD : va_D A ws) (is : List Nat) (hC : is.map (fun i => ws[i]?) = wc.map some) (hl : is.length ≤ w1.length) (ha : (w1.take is.length).map (·.1) = wc.map (·.1))
    (hk : ∀ q : Nat, q < H.size → ¬ va_A wc H.size q → H1[q]? = H[q]?) (hF : ∀ q, va_A wc H.size q → A q) (hP1 : va_P D cl w1 H1) (hD1 : va_D (va_A wc H.size) w1) : va_P D cl (setL ws is w1) H1 ∧ va_D A (setL ws is w1) := by
  have hwl : wc.length = is.length := by
    have := congrArg List.length hC
    simpa using this.symm
  have old : ∀ (k : Nat) (q : Nat × va_E), ws[k]? = some q → k ∉ is → q.1 < H.size ∧ ¬ va_A wc H.size q.1 := by
    intro k q hq hn
    have h1 := (hP k q hq).lt
    refine ⟨h1, fun h => ?_⟩
    rcases h with ⟨j, e, h⟩ | h
    · have h2 : (is.map (fun i => ws[i]?))[j]? = some (some (q.1, e)) := by rw [hC, List.getElem?_map, h]; rfl
      rw [List.getElem?_map] at h2
      cases hi : is[j]? with
      | none => rw [hi] at h2; cases h2
      | some i =>
        rw [hi] at h2
        have h3 : ws[i]? = some (q.1, e) := Option.some.inj h2
        have h4 := hD.1 _ _ q (q.1, e) hq h3 rfl
        subst h4
        exact hn (List.mem_of_getElem? hi)
    · omega
  have adr : ∀ (j k : Nat) (q : Nat × va_E), w1[j]? = some q → is[j]? = some k → ∃ e, ws[k]? = some (q.1, e) := by
    intro j k q hq hi
    have hj : j < is.length := (List.getElem?_eq_some_iff.mp hi).1
    have h1 : ((w1.take is.length).map (·.1))[j]? = some q.1 := by rw [List.getElem?_map, List.getElem?_take_of_lt hj, hq]; rfl
    rw [ha, List.getElem?_map] at h1
    cases hw : wc[j]? with
    | none => rw [hw] at h1; cases h1
    | some x =>
      rw [hw] at h1
      have h2 : (is.map (fun i => ws[i]?))[j]? = some (some x) := by rw [hC, List.getElem?_map, hw]; rfl
      rw [List.getElem?_map, hi] at h2
      have h3 : ws[k]? = some x := Option.some.inj h2
      have h4 : x.1 = q.1 := Option.some.inj h1
      exact ⟨x.2, by rw [h3, ← h4]⟩
  refine ⟨fun k q hq => ?_, fun i j x y hx hy hxy => ?_, fun k q hq => ?_⟩
  · rcases setL_at w1 is ws hl k q hq with ⟨j, h1, -⟩ | ⟨h1, h2⟩
    · exact hP1 j q h1
    · have h3 := old k q h1 h2
      exact (hP k q h1).kept (hk q.1 h3.1 h3.2)
  · rcases setL_at w1 is ws hl i x hx with ⟨a, h1, h2⟩ | ⟨h1, h2⟩
    · rcases setL_at w1 is ws hl j y hy with ⟨b, h3, h4⟩ | ⟨h3, h4⟩
      · have hab := hD1.1 a b x y h1 h3 hxy
        subst hab
        rcases h2 with h2 | h2
        · rcases h4 with h4 | h4
          · rw [h2] at h4; exact Option.some.inj h4
          · have := (List.getElem?_eq_some_iff.mp h2).1; omega
        · rcases h4 with h4 | h4
          · have := (List.getElem?_eq_some_iff.mp h4).1; omega
          · omega
      · have h5 := old j y h3 h4
        exact absurd (hxy ▸ hD1.2 a x h1) h5.2
    · rcases setL_at w1 is ws hl j y hy with ⟨b, h3, h4⟩ | ⟨h3, h4⟩
      · have h5 := old i x h1 h2
        exact absurd (hxy ▸ hD1.2 b y h3) h5.2
      · exact hD.1 i j x y h1 h3 hxy
  · rcases setL_at w1 is ws hl k q hq with ⟨j, h1, -⟩ | ⟨h1, h2⟩
    · exact hF _ (hD1.2 j q h1)
    · exact hD.2 k q h1
theorem freeL {A0 : Nat → Prop} {ws wc : va_W} {H0 H : Heap} {locs : List Loc} (hD : va_D A0 ws) (hS : va_S A0 H0 H locs) (hA : ∀ q, H0.size ≤ q → A0 q) (is : List Nat) (hC : is.map (fun i => ws[i]?) = wc.map some) : ∀ q, va_A wc H.size q → A0 q := va_free hD hS hA is hC
theorem subP {D : va_G} {cl : List vw_C} {ws wc : va_W} {H : Heap} (hP : va_P D cl ws H) (is : List Nat) (hC : is.map (fun i => ws[i]?) = wc.map some) : va_P D cl wc H := by
  intro k q hq
  have h1 : (is.map (fun i => ws[i]?))[k]? = some (some q) := by rw [hC, List.getElem?_map, hq]; rfl
  rw [List.getElem?_map] at h1
  cases hi : is[k]? with
  | none => rw [hi] at h1; cases h1
  | some i => rw [hi] at h1; exact hP i q (Option.some.inj h1)
/-- a writer's end: the answers as va_Qi .. have them, over the new world -/
abbrev wB {S : Type} (g : gE) (A : Nat → Prop) (w1 : S → va_W) : S → State → Prop := fun u t => va_P g.1 vwCl (w1 u) t.heap ∧ va_D A (w1 u)
theorem subD {A : Nat → Prop} {ws wc : va_W} (hD : va_D A ws) (is : List Nat) (hn : is.Nodup) (hC : is.map (fun i => ws[i]?) = wc.map some) : va_D A wc := by
  have at' : ∀ (k : Nat) (q : Nat × va_E), wc[k]? = some q → ∃ i, is[k]? = some i ∧ ws[i]? = some q := by
    intro k q hq
    have h1 : (is.map (fun i => ws[i]?))[k]? = some (some q) := by rw [hC, List.getElem?_map, hq]; rfl
    rw [List.getElem?_map] at h1
    cases hi : is[k]? with
    | none => rw [hi] at h1; cases h1
    | some i => rw [hi] at h1; exact ⟨i, rfl, Option.some.inj h1⟩
  refine ⟨fun i j x y hx hy hxy => ?_, fun k q hq => ?_⟩
  · obtain ⟨a, h1, h2⟩ := at' i x hx
    obtain ⟨b, h3, h4⟩ := at' j y hy
    have h5 := hD.1 a b x y h2 h4 hxy
    subst h5
    exact (List.getElem?_inj (List.getElem?_eq_some_iff.mp h1).1 hn).mp (h1.trans h3.symm)
  · obtain ⟨a, -, h2⟩ := at' k q hq
    exact hD.2 a q h2
section RCALL
variable {p : Program} {l : Launch} {e : Env} {R : Room} {s : State} {m : MethodId} {args : Array Value} {below : List Frame} {meth : Method} {c : Code} {H : Heap} {locs : List Loc} {cells slots : Nat} {Q : State → Prop}
variable {y : MethodName} {bytes cc : ByteArray} {maxL nL n index mc ms : Nat} {ret : Option FieldType} {ws : List Cond} {rm : Room} {Ts : List Cond} {own C host : String} {b : Addr} {rest st0 : List Value} {pc : Nat} {ls : Array Slot} {g : gE} {A : Nat → Prop} {wc wl : va_W}
/-- a reading call: virtual, answer an int -/
theorem cVi {post : Int32 → Prop} (S : CallFix p m c cc nL s args Ts own) (As : List Value) (hM : Met l y ws rm (va_Pc (.ref b :: As) (ro g wc)) (vp_Si post) 0 0 nA) (cw : CallW R s args own C index y bytes maxL ret ws rm 0 0 n) (hK : gK g s) (hZ : gZ g A s s.heap) (hS : va_S A s.heap H locs) (hPc : va_P g.1 vwCl wc H) (hr : ∃ cell : Cell, H[b]? = some cell ∧ cell.vm.isStatics = false ∧ s.vm.findClass C = some cell.cls) (hn : As.length = n) (hsize : ls.size = nL) (hst : st0 = As.reverse ++ .ref b :: rest) (hW : (rest.map fun v => v.category).sum ≤ 8) (hdg : decode cc pc = .ok (.invokevirtual index, 3)) (hf : cells ≤ R.cells ∧ slots ≤ R.slots)
    (kk : ∀ r : Int32, post r → W p l e R s m args below meth c H locs cells slots Q (F0 m (pc + 3) ls (.int r :: rest))) : W p l e R s m args below meth c H locs cells slots Q (F0 m pc ls st0) := by
  subst hst
  exact vp_callSi (va_runV (g := F0 m pc ls _) S hM cw ⟨ro_blind _, hr, fun U hU hW1 => ⟨rfl, mk_ro hK hZ hS hPc U hU hW1⟩⟩ rfl hn hsize rfl (lv_room hW) hdg hf).run kk
theorem cVl {post : Int64 → Prop} (S : CallFix p m c cc nL s args Ts own) (As : List Value) (hM : Met l y ws rm (va_Pc (.ref b :: As) (ro g wc)) (vp_Sl post) 0 0 nA) (cw : CallW R s args own C index y bytes maxL ret ws rm 0 0 n) (hK : gK g s) (hZ : gZ g A s s.heap) (hS : va_S A s.heap H locs) (hPc : va_P g.1 vwCl wc H) (hr : ∃ cell : Cell, H[b]? = some cell ∧ cell.vm.isStatics = false ∧ s.vm.findClass C = some cell.cls) (hn : As.length = n) (hsize : ls.size = nL) (hst : st0 = As.reverse ++ .ref b :: rest) (hW : (rest.map fun v => v.category).sum ≤ 8) (hdg : decode cc pc = .ok (.invokevirtual index, 3)) (hf : cells ≤ R.cells ∧ slots ≤ R.slots)
    (kk : ∀ r : Int64, post r → W p l e R s m args below meth c H locs cells slots Q (F0 m (pc + 3) ls (.long r :: rest))) : W p l e R s m args below meth c H locs cells slots Q (F0 m pc ls st0) := by
  subst hst
  exact vp_callSl (va_runV (g := F0 m pc ls _) S hM cw ⟨ro_blind _, hr, fun U hU hW1 => ⟨rfl, mk_ro hK hZ hS hPc U hU hW1⟩⟩ rfl hn hsize rfl (lv_room hW) hdg hf).run kk
theorem cVq {post : Option Nat → Prop} (S : CallFix p m c cc nL s args Ts own) (As : List Value) (hM : Met l y ws rm (va_Pc (.ref b :: As) (ro g wc)) (va_Sq post) 0 0 nA) (cw : CallW R s args own C index y bytes maxL ret ws rm 0 0 n) (hK : gK g s) (hZ : gZ g A s s.heap) (hS : va_S A s.heap H locs) (hPc : va_P g.1 vwCl wc H) (hr : ∃ cell : Cell, H[b]? = some cell ∧ cell.vm.isStatics = false ∧ s.vm.findClass C = some cell.cls) (hn : As.length = n) (hsize : ls.size = nL) (hst : st0 = As.reverse ++ .ref b :: rest) (hW : (rest.map fun v => v.category).sum ≤ 8) (hdg : decode cc pc = .ok (.invokevirtual index, 3)) (hf : cells ≤ R.cells ∧ slots ≤ R.slots)
    (kk : ∀ r : Option Nat, post r → W p l e R s m args below meth c H locs cells slots Q (F0 m (pc + 3) ls (va_rf r :: rest))) : W p l e R s m args below meth c H locs cells slots Q (F0 m pc ls st0) := by
  subst hst
  exact va_csq (va_runV (g := F0 m pc ls _) S hM cw ⟨ro_blind _, hr, fun U hU hW1 => ⟨rfl, mk_ro hK hZ hS hPc U hU hW1⟩⟩ rfl hn hsize rfl (lv_room hW) hdg hf).run kk
theorem cVv {post : Unit → Prop} (S : CallFix p m c cc nL s args Ts own) (As : List Value) (hM : Met l y ws rm (va_Pc (.ref b :: As) (ro g wc)) (va_Sv post) 0 0 nA) (cw : CallW R s args own C index y bytes maxL ret ws rm 0 0 n) (hK : gK g s) (hZ : gZ g A s s.heap) (hS : va_S A s.heap H locs) (hPc : va_P g.1 vwCl wc H) (hr : ∃ cell : Cell, H[b]? = some cell ∧ cell.vm.isStatics = false ∧ s.vm.findClass C = some cell.cls) (hn : As.length = n) (hsize : ls.size = nL) (hst : st0 = As.reverse ++ .ref b :: rest) (hW : (rest.map fun v => v.category).sum ≤ 8) (hdg : decode cc pc = .ok (.invokevirtual index, 3)) (hf : cells ≤ R.cells ∧ slots ≤ R.slots)
    (kk : post () → W p l e R s m args below meth c H locs cells slots Q (F0 m (pc + 3) ls rest)) : W p l e R s m args below meth c H locs cells slots Q (F0 m pc ls st0) := by
  subst hst
  exact va_csv (va_runV (g := F0 m pc ls _) S hM cw ⟨ro_blind _, hr, fun U hU hW1 => ⟨rfl, mk_ro hK hZ hS hPc U hU hW1⟩⟩ rfl hn hsize rfl (lv_room hW) hdg hf).run kk
/-- a reading call: static -/
theorem cSi {post : Int32 → Prop} (S : CallFix p m c cc nL s args Ts own) (As : List Value) (hM : Met l y ws rm (va_Pc As (ro g wc)) (vp_Si post) 0 0 nA) (cw : CallB R s args own index y bytes maxL ret ws rm 0 0 n ∧ (Cond.static y).before args s = true) (hK : gK g s) (hZ : gZ g A s s.heap) (hS : va_S A s.heap H locs) (hPc : va_P g.1 vwCl wc H) (hn : As.length = n) (hsize : ls.size = nL) (hst : st0 = As.reverse ++ rest) (hW : (rest.map fun v => v.category).sum ≤ 8) (hdg : decode cc pc = .ok (.invokestatic index, 3)) (hf : cells ≤ R.cells ∧ slots ≤ R.slots)
    (kk : ∀ r : Int32, post r → W p l e R s m args below meth c H locs cells slots Q (F0 m (pc + 3) ls (.int r :: rest))) : W p l e R s m args below meth c H locs cells slots Q (F0 m pc ls st0) := by
  subst hst
  exact vp_callSi (va_runS (g := F0 m pc ls _) S hM cw ⟨ro_blind _, fun U hU hW1 => ⟨rfl, mk_ro hK hZ hS hPc U hU hW1⟩⟩ rfl hn hsize rfl (lv_room hW) hdg hf).run kk
theorem cSl {post : Int64 → Prop} (S : CallFix p m c cc nL s args Ts own) (As : List Value) (hM : Met l y ws rm (va_Pc As (ro g wc)) (vp_Sl post) 0 0 nA) (cw : CallB R s args own index y bytes maxL ret ws rm 0 0 n ∧ (Cond.static y).before args s = true) (hK : gK g s) (hZ : gZ g A s s.heap) (hS : va_S A s.heap H locs) (hPc : va_P g.1 vwCl wc H) (hn : As.length = n) (hsize : ls.size = nL) (hst : st0 = As.reverse ++ rest) (hW : (rest.map fun v => v.category).sum ≤ 8) (hdg : decode cc pc = .ok (.invokestatic index, 3)) (hf : cells ≤ R.cells ∧ slots ≤ R.slots)
    (kk : ∀ r : Int64, post r → W p l e R s m args below meth c H locs cells slots Q (F0 m (pc + 3) ls (.long r :: rest))) : W p l e R s m args below meth c H locs cells slots Q (F0 m pc ls st0) := by
  subst hst
  exact vp_callSl (va_runS (g := F0 m pc ls _) S hM cw ⟨ro_blind _, fun U hU hW1 => ⟨rfl, mk_ro hK hZ hS hPc U hU hW1⟩⟩ rfl hn hsize rfl (lv_room hW) hdg hf).run kk
theorem cSv {post : Unit → Prop} (S : CallFix p m c cc nL s args Ts own) (As : List Value) (hM : Met l y ws rm (va_Pc As (ro g wc)) (va_Sv post) 0 0 nA) (cw : CallB R s args own index y bytes maxL ret ws rm 0 0 n ∧ (Cond.static y).before args s = true) (hK : gK g s) (hZ : gZ g A s s.heap) (hS : va_S A s.heap H locs) (hPc : va_P g.1 vwCl wc H) (hn : As.length = n) (hsize : ls.size = nL) (hst : st0 = As.reverse ++ rest) (hW : (rest.map fun v => v.category).sum ≤ 8) (hdg : decode cc pc = .ok (.invokestatic index, 3)) (hf : cells ≤ R.cells ∧ slots ≤ R.slots)
    (kk : post () → W p l e R s m args below meth c H locs cells slots Q (F0 m (pc + 3) ls rest)) : W p l e R s m args below meth c H locs cells slots Q (F0 m pc ls st0) := by
  subst hst
  exact va_csv (va_runS (g := F0 m pc ls _) S hM cw ⟨ro_blind _, fun U hU hW1 => ⟨rfl, mk_ro hK hZ hS hPc U hU hW1⟩⟩ rfl hn hsize rfl (lv_room hW) hdg hf).run kk
/-- a writing call: virtual, answer an int -/
theorem wVi {T : Type} {post : Int32 → T → Prop} {w1 : T → va_W} (S : CallFix p m c cc nL s args Ts own) (As : List Value) (is : List Nat) (hM : Met l y ws rm (va_Pc (.ref b :: As) (wr g wc H.size)) (va_Qi post (wB g (va_A wc H.size) w1) (va_A wc H.size)) mc ms (va_A wc H.size)) (cw : CallW R s args own C index y bytes maxL ret ws rm mc ms n) (hK : gK g s) (hZ : gZ g A s s.heap) (hS : va_S A s.heap H locs) (hP : va_P g.1 vwCl wl H) (hD : va_D A wl) (hA : ∀ q, s.heap.size ≤ q → A q) (hC : is.map (fun i => wl[i]?) = wc.map some) (hnd : is.Nodup) (hl : ∀ u, is.length ≤ (w1 u).length) (ha : ∀ u, ((w1 u).take is.length).map (·.1) = wc.map (·.1)) (hr : ∃ cell : Cell, H[b]? = some cell ∧ cell.vm.isStatics = false ∧ s.vm.findClass C = some cell.cls) (hn : As.length = n) (hsize : ls.size = nL) (hst : st0 = As.reverse ++ .ref b :: rest) (hW : (rest.map fun v => v.category).sum ≤ 8) (hdg : decode cc pc = .ok (.invokevirtual index, 3)) (hf : cells + mc ≤ R.cells ∧ slots + ms ≤ R.slots)
    (kk : ∀ (r : Int32) (u : T) (H1 : Heap) (locs1 : List Loc), post r u → va_P g.1 vwCl (setL wl is (w1 u)) H1 → va_D A (setL wl is (w1 u)) → va_S A s.heap H1 locs1 → W p l e R s m args below meth c H1 locs1 (cells + mc) (slots + ms) Q (F0 m (pc + 3) ls (.int r :: rest))) : W p l e R s m args below meth c H locs cells slots Q (F0 m pc ls st0) := by
  subst hst
  have hF := freeL hD hS hA is hC
  have hPc := subP hP is hC
  have hDc := subD hD is hnd hC
  refine va_calli (va_runV (g := F0 m pc ls _) S hM cw ⟨wr_blind _, hr, fun U hU hW1 => ⟨rfl, mk_wr hK hZ hS hPc hDc hF U hU hW1⟩⟩ rfl hn hsize rfl (lv_room hW) hdg hf) hS (fun q _ h => hF q h) hF (fun r u t H1 locs1 ht hvm hw hB hz hk hS1 => ?_)
  obtain ⟨hP1, hD1⟩ := hB
  rw [ht] at hP1
  obtain ⟨hP2, hD2⟩ := joinL hP hD is hC (hl u) (ha u) hk hF hP1 hD1
  exact kk r u H1 locs1 hw hP2 hD2 hS1
theorem wVv {T : Type} {post : T → Prop} {w1 : T → va_W} (S : CallFix p m c cc nL s args Ts own) (As : List Value) (is : List Nat) (hM : Met l y ws rm (va_Pc (.ref b :: As) (wr g wc H.size)) (va_Qv post (wB g (va_A wc H.size) w1) (va_A wc H.size)) mc ms (va_A wc H.size)) (cw : CallW R s args own C index y bytes maxL ret ws rm mc ms n) (hK : gK g s) (hZ : gZ g A s s.heap) (hS : va_S A s.heap H locs) (hP : va_P g.1 vwCl wl H) (hD : va_D A wl) (hA : ∀ q, s.heap.size ≤ q → A q) (hC : is.map (fun i => wl[i]?) = wc.map some) (hnd : is.Nodup) (hl : ∀ u, is.length ≤ (w1 u).length) (ha : ∀ u, ((w1 u).take is.length).map (·.1) = wc.map (·.1)) (hr : ∃ cell : Cell, H[b]? = some cell ∧ cell.vm.isStatics = false ∧ s.vm.findClass C = some cell.cls) (hn : As.length = n) (hsize : ls.size = nL) (hst : st0 = As.reverse ++ .ref b :: rest) (hW : (rest.map fun v => v.category).sum ≤ 8) (hdg : decode cc pc = .ok (.invokevirtual index, 3)) (hf : cells + mc ≤ R.cells ∧ slots + ms ≤ R.slots)
    (kk : ∀ (u : T) (H1 : Heap) (locs1 : List Loc), post u → va_P g.1 vwCl (setL wl is (w1 u)) H1 → va_D A (setL wl is (w1 u)) → va_S A s.heap H1 locs1 → W p l e R s m args below meth c H1 locs1 (cells + mc) (slots + ms) Q (F0 m (pc + 3) ls rest)) : W p l e R s m args below meth c H locs cells slots Q (F0 m pc ls st0) := by
  subst hst
  have hF := freeL hD hS hA is hC
  have hPc := subP hP is hC
  have hDc := subD hD is hnd hC
  refine va_callv (va_runV (g := F0 m pc ls _) S hM cw ⟨wr_blind _, hr, fun U hU hW1 => ⟨rfl, mk_wr hK hZ hS hPc hDc hF U hU hW1⟩⟩ rfl hn hsize rfl (lv_room hW) hdg hf) hS (fun q _ h => hF q h) hF (fun u t H1 locs1 ht hvm hw hB hz hk hS1 => ?_)
  obtain ⟨hP1, hD1⟩ := hB
  rw [ht] at hP1
  obtain ⟨hP2, hD2⟩ := joinL hP hD is hC (hl u) (ha u) hk hF hP1 hD1
  exact kk u H1 locs1 hw hP2 hD2 hS1
theorem wVl {T : Type} {post : Int64 → T → Prop} {w1 : T → va_W} (S : CallFix p m c cc nL s args Ts own) (As : List Value) (is : List Nat) (hM : Met l y ws rm (va_Pc (.ref b :: As) (wr g wc H.size)) (va_Ql post (wB g (va_A wc H.size) w1) (va_A wc H.size)) mc ms (va_A wc H.size)) (cw : CallW R s args own C index y bytes maxL ret ws rm mc ms n) (hK : gK g s) (hZ : gZ g A s s.heap) (hS : va_S A s.heap H locs) (hP : va_P g.1 vwCl wl H) (hD : va_D A wl) (hA : ∀ q, s.heap.size ≤ q → A q) (hC : is.map (fun i => wl[i]?) = wc.map some) (hnd : is.Nodup) (hl : ∀ u, is.length ≤ (w1 u).length) (ha : ∀ u, ((w1 u).take is.length).map (·.1) = wc.map (·.1)) (hr : ∃ cell : Cell, H[b]? = some cell ∧ cell.vm.isStatics = false ∧ s.vm.findClass C = some cell.cls) (hn : As.length = n) (hsize : ls.size = nL) (hst : st0 = As.reverse ++ .ref b :: rest) (hW : (rest.map fun v => v.category).sum ≤ 8) (hdg : decode cc pc = .ok (.invokevirtual index, 3)) (hf : cells + mc ≤ R.cells ∧ slots + ms ≤ R.slots)
    (kk : ∀ (r : Int64) (u : T) (H1 : Heap) (locs1 : List Loc), post r u → va_P g.1 vwCl (setL wl is (w1 u)) H1 → va_D A (setL wl is (w1 u)) → va_S A s.heap H1 locs1 → W p l e R s m args below meth c H1 locs1 (cells + mc) (slots + ms) Q (F0 m (pc + 3) ls (.long r :: rest))) : W p l e R s m args below meth c H locs cells slots Q (F0 m pc ls st0) := by
  subst hst
  have hF := freeL hD hS hA is hC
  have hPc := subP hP is hC
  have hDc := subD hD is hnd hC
  refine va_calll (va_runV (g := F0 m pc ls _) S hM cw ⟨wr_blind _, hr, fun U hU hW1 => ⟨rfl, mk_wr hK hZ hS hPc hDc hF U hU hW1⟩⟩ rfl hn hsize rfl (lv_room hW) hdg hf) hS (fun q _ h => hF q h) hF (fun r u t H1 locs1 ht hvm hw hB hz hk hS1 => ?_)
  obtain ⟨hP1, hD1⟩ := hB
  rw [ht] at hP1
  obtain ⟨hP2, hD2⟩ := joinL hP hD is hC (hl u) (ha u) hk hF hP1 hD1
  exact kk r u H1 locs1 hw hP2 hD2 hS1
/-- a constructor -/
theorem wIv {T : Type} {post : T → Prop} {w1 : T → va_W} (S : CallFix p m c cc nL s args Ts own) (As : List Value) (is : List Nat) (hM : Met l y ws rm (va_Pc (.ref b :: As) (wr g wc H.size)) (va_Qv post (wB g (va_A wc H.size) w1) (va_A wc H.size)) mc ms (va_A wc H.size)) (cw : CallB R s args own index y bytes maxL none ws rm mc ms n ∧ y.name = "<init>" ∧ (Cond.instanceMethod y).before args s = true) (hK : gK g s) (hZ : gZ g A s s.heap) (hS : va_S A s.heap H locs) (hP : va_P g.1 vwCl wl H) (hD : va_D A wl) (hA : ∀ q, s.heap.size ≤ q → A q) (hC : is.map (fun i => wl[i]?) = wc.map some) (hnd : is.Nodup) (hl : ∀ u, is.length ≤ (w1 u).length) (ha : ∀ u, ((w1 u).take is.length).map (·.1) = wc.map (·.1)) (hn : As.length = n) (hsize : ls.size = nL) (hst : st0 = As.reverse ++ .ref b :: rest) (hW : (rest.map fun v => v.category).sum ≤ 8) (hdg : decode cc pc = .ok (.invokespecial index, 3)) (hf : cells + mc ≤ R.cells ∧ slots + ms ≤ R.slots)
    (kk : ∀ (u : T) (H1 : Heap) (locs1 : List Loc), post u → va_P g.1 vwCl (setL wl is (w1 u)) H1 → va_D A (setL wl is (w1 u)) → va_S A s.heap H1 locs1 → W p l e R s m args below meth c H1 locs1 (cells + mc) (slots + ms) Q (F0 m (pc + 3) ls rest)) : W p l e R s m args below meth c H locs cells slots Q (F0 m pc ls st0) := by
  subst hst
  have hF := freeL hD hS hA is hC
  have hPc := subP hP is hC
  have hDc := subD hD is hnd hC
  refine va_callv (va_runI (g := F0 m pc ls _) S hM cw ⟨wr_blind _, fun U hU hW1 => ⟨rfl, mk_wr hK hZ hS hPc hDc hF U hU hW1⟩⟩ rfl hn hsize rfl (lv_room hW) hdg hf) hS (fun q _ h => hF q h) hF (fun u t H1 locs1 ht hvm hw hB hz hk hS1 => ?_)
  obtain ⟨hP1, hD1⟩ := hB
  rw [ht] at hP1
  obtain ⟨hP2, hD2⟩ := joinL hP hD is hC (hl u) (ha u) hk hF hP1 hD1
  exact kk u H1 locs1 hw hP2 hD2 hS1
theorem wINv {T : Type} {post : T → Prop} {w1 : T → va_W} (S : CallFix p m c cc nL s args Ts own) (As : List Value) (is : List Nat) (hM : Met l y ws rm (va_Pc (.ref b :: As) (wr g wc H.size)) (va_Qv post (wB g (va_A wc H.size) w1) (va_A wc H.size)) mc ms (va_A wc H.size)) (cw : va_CN R s args own index y host bytes maxL none ws rm mc ms n ∧ y.name = "<init>" ∧ (Cond.instanceMethod y).before args s = true) (hK : gK g s) (hZ : gZ g A s s.heap) (hS : va_S A s.heap H locs) (hP : va_P g.1 vwCl wl H) (hD : va_D A wl) (hA : ∀ q, s.heap.size ≤ q → A q) (hC : is.map (fun i => wl[i]?) = wc.map some) (hnd : is.Nodup) (hl : ∀ u, is.length ≤ (w1 u).length) (ha : ∀ u, ((w1 u).take is.length).map (·.1) = wc.map (·.1)) (hn : As.length = n) (hsize : ls.size = nL) (hst : st0 = As.reverse ++ .ref b :: rest) (hW : (rest.map fun v => v.category).sum ≤ 8) (hdg : decode cc pc = .ok (.invokespecial index, 3)) (hf : cells + mc ≤ R.cells ∧ slots + ms ≤ R.slots)
    (kk : ∀ (u : T) (H1 : Heap) (locs1 : List Loc), post u → va_P g.1 vwCl (setL wl is (w1 u)) H1 → va_D A (setL wl is (w1 u)) → va_S A s.heap H1 locs1 → W p l e R s m args below meth c H1 locs1 (cells + mc) (slots + ms) Q (F0 m (pc + 3) ls rest)) : W p l e R s m args below meth c H locs cells slots Q (F0 m pc ls st0) := by
  subst hst
  have hF := freeL hD hS hA is hC
  have hPc := subP hP is hC
  have hDc := subD hD is hnd hC
  refine va_callv (va_runIN (g := F0 m pc ls _) S hM cw ⟨wr_blind _, fun U hU hW1 => ⟨rfl, mk_wr hK hZ hS hPc hDc hF U hU hW1⟩⟩ rfl hn hsize rfl (lv_room hW) hdg hf) hS (fun q _ h => hF q h) hF (fun u t H1 locs1 ht hvm hw hB hz hk hS1 => ?_)
  obtain ⟨hP1, hD1⟩ := hB
  rw [ht] at hP1
  obtain ⟨hP2, hD2⟩ := joinL hP hD is hC (hl u) (ha u) hk hF hP1 hD1
  exact kk u H1 locs1 hw hP2 hD2 hS1
end RCALL
section RENDS
variable {p : Program} {l : Launch} {e : Env} {R : Room} {s : State} {m : MethodId} {args : Array Value} {below : List Frame} {meth : Method} {c : Code} {H : Heap} {locs : List Loc} {cells slots : Nat} {Q : State → Prop} {cc : ByteArray} {pc : Nat} {ls : Array Slot} {g : gE} {A : Nat → Prop}
theorem endRi {post : Int32 → Prop} {v : Int32} (hx : p.tables.exec = Jvm.exec) (hb : c.code = cc) (hr : meth.sig.returnType = some .int) (hlocks : meth.locks = false) (hdg : decode cc pc = .ok (.ireturn, 1)) (hp : post v) : W p l e R s m args below meth c s.heap [] cells slots (MQ below (vp_Si post) args s cells slots nA) (F0 m pc ls [.int v]) :=
  W.iret hx hb hr (fun t ht _ => ⟨v, rfl, hp, ht⟩) (fun _ h => by cases h) hdg hlocks
theorem endRz {post : Int32 → Prop} {v : Int32} {ty : FieldType} (hx : p.tables.exec = Jvm.exec) (hb : c.code = cc) (hr : meth.sig.returnType = some ty) (hlocks : meth.locks = false) (hdg : decode cc pc = .ok (.ireturn, 1)) (hn : narrow ty (.int v) = .int v) (hp : post v) : W p l e R s m args below meth c s.heap [] cells slots (MQ below (vp_Si post) args s cells slots nA) (F0 m pc ls [.int v]) :=
  W.zret hx hb hr hn (fun t ht _ => ⟨v, rfl, hp, ht⟩) (fun _ h => by cases h) hdg hlocks
theorem endRl {post : Int64 → Prop} {v : Int64} (hx : p.tables.exec = Jvm.exec) (hb : c.code = cc) (hr : meth.sig.returnType = some .long) (hlocks : meth.locks = false) (hdg : decode cc pc = .ok (.lreturn, 1)) (hp : post v) : W p l e R s m args below meth c s.heap [] cells slots (MQ below (vp_Sl post) args s cells slots nA) (F0 m pc ls [.long v]) :=
  W.lret hx hb hr (fun t ht _ => ⟨v, rfl, hp, ht⟩) (fun _ h => by cases h) hdg hlocks
theorem endRv {post : Unit → Prop} (hx : p.tables.exec = Jvm.exec) (hb : c.code = cc) (hr : meth.sig.returnType = none) (hlocks : meth.locks = false) (hdg : decode cc pc = .ok (.return_, 1)) (hp : post ()) : W p l e R s m args below meth c s.heap [] cells slots (MQ below (va_Sv post) args s cells slots nA) (F0 m pc ls []) :=
  W.vret hx hb hr (fun t ht _ => ⟨rfl, hp, ht⟩) (fun _ h => by cases h) hdg hlocks
theorem endRq {post : Option Nat → Prop} {v : Option Nat} {C : String} (hx : p.tables.exec = Jvm.exec) (hb : c.code = cc) (hr : meth.sig.returnType = some (.object C)) (hlocks : meth.locks = false) (hdg : decode cc pc = .ok (.areturn, 1)) (hp : post v) : W p l e R s m args below meth c s.heap [] cells slots (MQ below (va_Sq post) args s cells slots nA) (F0 m pc ls [va_rf v]) :=
  W.aret hx hb hr (Or.inl ⟨C, rfl⟩) (va_rf_or v) (fun t ht _ => ⟨v, rfl, hp, ht⟩) (fun _ h => by cases h) hdg hlocks
theorem endWi {T : Type} {post : Int32 → T → Prop} {w1 : T → va_W} {v : Int32} (u : T) (hx : p.tables.exec = Jvm.exec) (hb : c.code = cc) (hr : meth.sig.returnType = some .int) (hlocks : meth.locks = false) (hS : va_S A s.heap H locs) (hdg : decode cc pc = .ok (.ireturn, 1)) (hP : va_P g.1 vwCl (w1 u) H) (hD : va_D A (w1 u)) (hp : post v u) : W p l e R s m args below meth c H locs cells slots (MQ below (va_Qi post (wB g A w1) A) args s cells slots A) (F0 m pc ls [.int v]) :=
  W.iret hx hb hr (fun t ht _ => ⟨⟨v, u, rfl, hp, by rw [ht]; exact hP, hD⟩, hS.F ht⟩) hS.2.2 hdg hlocks
theorem endWz {T : Type} {post : Int32 → T → Prop} {w1 : T → va_W} {v : Int32} {ty : FieldType} (u : T) (hx : p.tables.exec = Jvm.exec) (hb : c.code = cc) (hr : meth.sig.returnType = some ty) (hlocks : meth.locks = false) (hS : va_S A s.heap H locs) (hdg : decode cc pc = .ok (.ireturn, 1)) (hn : narrow ty (.int v) = .int v) (hP : va_P g.1 vwCl (w1 u) H) (hD : va_D A (w1 u)) (hp : post v u) : W p l e R s m args below meth c H locs cells slots (MQ below (va_Qi post (wB g A w1) A) args s cells slots A) (F0 m pc ls [.int v]) :=
  W.zret hx hb hr hn (fun t ht _ => ⟨⟨v, u, rfl, hp, by rw [ht]; exact hP, hD⟩, hS.F ht⟩) hS.2.2 hdg hlocks
theorem endWl {T : Type} {post : Int64 → T → Prop} {w1 : T → va_W} {v : Int64} (u : T) (hx : p.tables.exec = Jvm.exec) (hb : c.code = cc) (hr : meth.sig.returnType = some .long) (hlocks : meth.locks = false) (hS : va_S A s.heap H locs) (hdg : decode cc pc = .ok (.lreturn, 1)) (hP : va_P g.1 vwCl (w1 u) H) (hD : va_D A (w1 u)) (hp : post v u) : W p l e R s m args below meth c H locs cells slots (MQ below (va_Ql post (wB g A w1) A) args s cells slots A) (F0 m pc ls [.long v]) :=
  W.lret hx hb hr (fun t ht _ => ⟨⟨v, u, rfl, hp, by rw [ht]; exact hP, hD⟩, hS.F ht⟩) hS.2.2 hdg hlocks
theorem endWv {T : Type} {post : T → Prop} {w1 : T → va_W} (u : T) (hx : p.tables.exec = Jvm.exec) (hb : c.code = cc) (hr : meth.sig.returnType = none) (hlocks : meth.locks = false) (hS : va_S A s.heap H locs) (hdg : decode cc pc = .ok (.return_, 1)) (hP : va_P g.1 vwCl (w1 u) H) (hD : va_D A (w1 u)) (hp : post u) : W p l e R s m args below meth c H locs cells slots (MQ below (va_Qv post (wB g A w1) A) args s cells slots A) (F0 m pc ls []) :=
  W.vret hx hb hr (fun t ht _ => ⟨⟨u, rfl, hp, by rw [ht]; exact hP, hD⟩, hS.F ht⟩) hS.2.2 hdg hlocks
end RENDS
section RBEG
variable {l : Launch} {y : MethodName} {ws ws' : List Cond} {rm : Room} {cc : ByteArray} {maxL mc ms sz : Nat} {ret : Option FieldType} {g : gE} {av : List Value} {wc : va_W} {Qc : Array Value → State → Outcome → State → Prop} {free : Nat → Prop}
/-- a reading contract's beginning -/
theorem ofRo (hy : plainName y.cls = true) (hw : ws = Cond.code y cc maxL ret :: ws') (hn : (lg_sl av).length ≤ maxL)
    (body : ∀ (p : Program) (e : Env) (s : State) (m : MethodId) (below : List Frame) (meth : Method) (c : Code), p.tables.exec = Jvm.exec → c.code = cc → meth.sig.returnType = ret → c.maxLocals = maxL → (∀ w ∈ ws, w.before av.toArray s = true) → s.vm.findClass y.cls = some m.cls → meth.locks = false → meth.name = y.name → va_P g.1 vwCl wc s.heap → gK g s → gZ g nA s s.heap → va_S nA s.heap s.heap [] → ∀ ls : Array Slot, lv_has ls maxL (lv_args 0 av) →
      W p l e (headSpec ws rm).room s m av.toArray below meth c s.heap [] 0 0 (MQ below Qc av.toArray s mc ms free) (F0 m 0 ls [])) : Met l y ws rm (va_Pc av (ro g wc)) Qc mc ms free := by
  refine Met.ofW (cc := cc) (maxL := maxL) (ret := ret) hy hw ?_
  intro p e s m args below meth c s₁ B hml hv
  obtain ⟨rfl, hP, hK, hZ⟩ := hv
  rw [lg_entry_eq]
  exact body p e s m below meth c B.exec B.bytes B.returns hml (atoms_spec (ws := ws) B.pre) (findClass_of_methodNamed B.named) B.notSynchronized (name_of_methodNamed B.named B.method).1 hP hK hZ va_S.rf _ (lv_entry av hn)
/-- a writing contract's beginning, by its answer -/
theorem ofWi {T : Type} {post : Int32 → T → Prop} {w1 : T → va_W} (hy : plainName y.cls = true) (hw : ws = Cond.code y cc maxL ret :: ws') (hn : (lg_sl av).length ≤ maxL)
    (body : ∀ (p : Program) (e : Env) (s : State) (m : MethodId) (below : List Frame) (meth : Method) (c : Code), p.tables.exec = Jvm.exec → c.code = cc → meth.sig.returnType = ret → c.maxLocals = maxL → (∀ w ∈ ws, w.before av.toArray s = true) → s.vm.findClass y.cls = some m.cls → meth.locks = false → meth.name = y.name → ∀ (A : Nat → Prop) (H : Heap), H = s.heap → (∀ q, s.heap.size ≤ q → A q) → va_P g.1 vwCl wc H → va_D A wc → gK g s → gZ g A s s.heap → va_S A s.heap H [] → ∀ ls : Array Slot, lv_has ls maxL (lv_args 0 av) →
      W p l e (headSpec ws rm).room s m av.toArray below meth c H [] 0 0 (MQ below (va_Qi post (wB g A w1) A) av.toArray s mc ms A) (F0 m 0 ls [])) : Met l y ws rm (va_Pc av (wr g wc sz)) (va_Qi post (wB g (va_A wc sz) w1) (va_A wc sz)) mc ms (va_A wc sz) := by
  refine Met.ofW (cc := cc) (maxL := maxL) (ret := ret) hy hw ?_
  intro p e s m args below meth c s₁ B hml hv
  obtain ⟨rfl, rfl, hP, hK, hD, hZ⟩ := hv
  rw [lg_entry_eq]
  exact body p e s m below meth c B.exec B.bytes B.returns hml (atoms_spec (ws := ws) B.pre) (findClass_of_methodNamed B.named) B.notSynchronized (name_of_methodNamed B.named B.method).1 (va_A wc s.heap.size) s.heap rfl (fun _ h => Or.inr h) hP (hD.self) hK hZ va_S.rf _ (lv_entry av hn)
theorem ofWl {T : Type} {post : Int64 → T → Prop} {w1 : T → va_W} (hy : plainName y.cls = true) (hw : ws = Cond.code y cc maxL ret :: ws') (hn : (lg_sl av).length ≤ maxL)
    (body : ∀ (p : Program) (e : Env) (s : State) (m : MethodId) (below : List Frame) (meth : Method) (c : Code), p.tables.exec = Jvm.exec → c.code = cc → meth.sig.returnType = ret → c.maxLocals = maxL → (∀ w ∈ ws, w.before av.toArray s = true) → s.vm.findClass y.cls = some m.cls → meth.locks = false → meth.name = y.name → ∀ (A : Nat → Prop) (H : Heap), H = s.heap → (∀ q, s.heap.size ≤ q → A q) → va_P g.1 vwCl wc H → va_D A wc → gK g s → gZ g A s s.heap → va_S A s.heap H [] → ∀ ls : Array Slot, lv_has ls maxL (lv_args 0 av) →
      W p l e (headSpec ws rm).room s m av.toArray below meth c H [] 0 0 (MQ below (va_Ql post (wB g A w1) A) av.toArray s mc ms A) (F0 m 0 ls [])) : Met l y ws rm (va_Pc av (wr g wc sz)) (va_Ql post (wB g (va_A wc sz) w1) (va_A wc sz)) mc ms (va_A wc sz) := by
  refine Met.ofW (cc := cc) (maxL := maxL) (ret := ret) hy hw ?_
  intro p e s m args below meth c s₁ B hml hv
  obtain ⟨rfl, rfl, hP, hK, hD, hZ⟩ := hv
  rw [lg_entry_eq]
  exact body p e s m below meth c B.exec B.bytes B.returns hml (atoms_spec (ws := ws) B.pre) (findClass_of_methodNamed B.named) B.notSynchronized (name_of_methodNamed B.named B.method).1 (va_A wc s.heap.size) s.heap rfl (fun _ h => Or.inr h) hP (hD.self) hK hZ va_S.rf _ (lv_entry av hn)
theorem ofWv {T : Type} {post : T → Prop} {w1 : T → va_W} (hy : plainName y.cls = true) (hw : ws = Cond.code y cc maxL ret :: ws') (hn : (lg_sl av).length ≤ maxL)
    (body : ∀ (p : Program) (e : Env) (s : State) (m : MethodId) (below : List Frame) (meth : Method) (c : Code), p.tables.exec = Jvm.exec → c.code = cc → meth.sig.returnType = ret → c.maxLocals = maxL → (∀ w ∈ ws, w.before av.toArray s = true) → s.vm.findClass y.cls = some m.cls → meth.locks = false → meth.name = y.name → ∀ (A : Nat → Prop) (H : Heap), H = s.heap → (∀ q, s.heap.size ≤ q → A q) → va_P g.1 vwCl wc H → va_D A wc → gK g s → gZ g A s s.heap → va_S A s.heap H [] → ∀ ls : Array Slot, lv_has ls maxL (lv_args 0 av) →
      W p l e (headSpec ws rm).room s m av.toArray below meth c H [] 0 0 (MQ below (va_Qv post (wB g A w1) A) av.toArray s mc ms A) (F0 m 0 ls [])) : Met l y ws rm (va_Pc av (wr g wc sz)) (va_Qv post (wB g (va_A wc sz) w1) (va_A wc sz)) mc ms (va_A wc sz) := by
  refine Met.ofW (cc := cc) (maxL := maxL) (ret := ret) hy hw ?_
  intro p e s m args below meth c s₁ B hml hv
  obtain ⟨rfl, rfl, hP, hK, hD, hZ⟩ := hv
  rw [lg_entry_eq]
  exact body p e s m below meth c B.exec B.bytes B.returns hml (atoms_spec (ws := ws) B.pre) (findClass_of_methodNamed B.named) B.notSynchronized (name_of_methodNamed B.named B.method).1 (va_A wc s.heap.size) s.heap rfl (fun _ h => Or.inr h) hP (hD.self) hK hZ va_S.rf _ (lv_entry av hn)
end RBEG
section RRE
variable {p : Program} {l : Launch} {e : Env} {R : Room} {s : State} {m : MethodId} {args : Array Value} {below : List Frame} {meth : Method} {c : Code} {H : Heap} {locs : List Loc} {cells slots : Nat} {Q : State → Prop} {pc : Nat} {ls : Array Slot} {rest : List Value}
theorem lv_rei {x x' : Int32} (h : x = x') (k : W p l e R s m args below meth c H locs cells slots Q (F0 m pc ls (.int x' :: rest))) : W p l e R s m args below meth c H locs cells slots Q (F0 m pc ls (.int x :: rest)) := by rw [h]; exact k
theorem lv_rel {x x' : Int64} (h : x = x') (k : W p l e R s m args below meth c H locs cells slots Q (F0 m pc ls (.long x' :: rest))) : W p l e R s m args below meth c H locs cells slots Q (F0 m pc ls (.long x :: rest)) := by rw [h]; exact k
theorem lv_req {r r' : Option Nat} (h : r = r') (k : W p l e R s m args below meth c H locs cells slots Q (F0 m pc ls (va_rf r' :: rest))) : W p l e R s m args below meth c H locs cells slots Q (F0 m pc ls (va_rf r :: rest)) := by rw [h]; exact k
theorem lv_reR {r : Option Nat} {a : Nat} (h : r = some a) (k : W p l e R s m args below meth c H locs cells slots Q (F0 m pc ls (.ref a :: rest))) : W p l e R s m args below meth c H locs cells slots Q (F0 m pc ls (va_rf r :: rest)) := by rw [h]; exact k
theorem lv_reN {r : Option Nat} (h : r = none) (k : W p l e R s m args below meth c H locs cells slots Q (F0 m pc ls (.null :: rest))) : W p l e R s m args below meth c H locs cells slots Q (F0 m pc ls (va_rf r :: rest)) := by rw [h]; exact k
end RRE
theorem nle0 {x : Int32} (h : x < 0) : ¬ 0 ≤ x := Int32.not_le.mpr h
/-- 1 where a number lies between two, else 0 -/
def inI (z lo hi : Int) : Int32 := if lo ≤ z ∧ z ≤ hi then 1 else 0
theorem inI_1 {z lo hi : Int} (h : lo ≤ z) (h2 : z ≤ hi) : inI z lo hi = 1 := if_pos ⟨h, h2⟩
theorem inI_0 {z lo hi : Int} (h : ¬ (lo ≤ z ∧ z ≤ hi)) : inI z lo hi = 0 := if_neg h
theorem inI_eq0 {z lo hi : Int} : inI z lo hi = 0 ↔ ¬ (lo ≤ z ∧ z ≤ hi) := by
  unfold inI
  split
  · rename_i h; exact ⟨fun q => absurd q (by decide), fun q => absurd h q⟩
  · rename_i h; exact ⟨fun _ => h, fun _ => rfl⟩
theorem lc_lt {x y : Int64} : lg_cmp x y < 0 ↔ x.toInt < y.toInt := by
  unfold lg_cmp
  rw [← Int64.lt_iff_toInt_lt]
  by_cases h1 : x > y
  · rw [if_pos h1]
    exact ⟨fun q => absurd q (by decide), fun q => absurd (Int64.lt_trans q h1) (Int64.lt_irrefl)⟩
  · rw [if_neg h1]
    by_cases h2 : x = y
    · rw [if_pos h2, h2]
      exact ⟨fun q => absurd q (by decide), fun q => absurd q (Int64.lt_irrefl)⟩
    · rw [if_neg h2]
      refine ⟨fun _ => ?_, fun _ => by decide⟩
      rw [Int64.lt_iff_toInt_lt]
      have h3 : ¬ y.toInt < x.toInt := fun q => h1 (Int64.lt_iff_toInt_lt.mpr q)
      have h4 : x.toInt ≠ y.toInt := fun q => h2 (Int64.toInt_inj.mp q)
      omega
theorem lc_val (x y : Int64) : (lg_cmp x y = 1 ∧ y.toInt < x.toInt) ∨ (lg_cmp x y = 0 ∧ x.toInt = y.toInt) ∨ (lg_cmp x y = -1 ∧ x.toInt < y.toInt) := by
  unfold lg_cmp
  by_cases h1 : x > y
  · rw [if_pos h1]
    exact Or.inl ⟨rfl, Int64.lt_iff_toInt_lt.mp h1⟩
  · rw [if_neg h1]
    by_cases h2 : x = y
    · rw [if_pos h2, h2]
      exact Or.inr (Or.inl ⟨rfl, rfl⟩)
    · rw [if_neg h2]
      have h3 : ¬ y.toInt < x.toInt := fun q => h1 (Int64.lt_iff_toInt_lt.mpr q)
      have h4 : x.toInt ≠ y.toInt := fun q => h2 (Int64.toInt_inj.mp q)
      exact Or.inr (Or.inr ⟨rfl, by omega⟩)
theorem lc_ge {x y : Int64} : 0 ≤ lg_cmp x y ↔ y.toInt ≤ x.toInt := by
  rcases lc_val x y with ⟨h, h2⟩ | ⟨h, h2⟩ | ⟨h, h2⟩ <;> rw [h]
  · exact ⟨fun _ => by omega, fun _ => by decide⟩
  · exact ⟨fun _ => by omega, fun _ => by decide⟩
  · exact ⟨fun q => absurd q (by decide), fun q => absurd h2 (by omega)⟩
theorem lc_gt {x y : Int64} : 0 < lg_cmp x y ↔ y.toInt < x.toInt := by
  rcases lc_val x y with ⟨h, h2⟩ | ⟨h, h2⟩ | ⟨h, h2⟩ <;> rw [h]
  · exact ⟨fun _ => by omega, fun _ => by decide⟩
  · exact ⟨fun q => absurd q (by decide), fun q => absurd h2 (by omega)⟩
  · exact ⟨fun q => absurd q (by decide), fun q => absurd h2 (by omega)⟩
theorem lc_le {x y : Int64} : lg_cmp x y ≤ 0 ↔ x.toInt ≤ y.toInt := by
  rcases lc_val x y with ⟨h, h2⟩ | ⟨h, h2⟩ | ⟨h, h2⟩ <;> rw [h]
  · exact ⟨fun q => absurd q (by decide), fun q => absurd h2 (by omega)⟩
  · exact ⟨fun _ => by omega, fun _ => by decide⟩
  · exact ⟨fun _ => by omega, fun _ => by decide⟩
theorem lc_eq {x y : Int64} : lg_cmp x y = 0 ↔ x.toInt = y.toInt := by
  rcases lc_val x y with ⟨h, h2⟩ | ⟨h, h2⟩ | ⟨h, h2⟩ <;> rw [h]
  · exact ⟨fun q => absurd q (by decide), fun q => absurd h2 (by omega)⟩
  · exact ⟨fun _ => h2, fun _ => rfl⟩
  · exact ⟨fun q => absurd q (by decide), fun q => absurd h2 (by omega)⟩
/-- ints as whole numbers -/
theorem ti_lt {x y : Int32} : x < y ↔ x.toInt < y.toInt := Int32.lt_iff_toInt_lt
theorem ti_le {x y : Int32} : x ≤ y ↔ x.toInt ≤ y.toInt := Int32.le_iff_toInt_le
theorem ti_eq {x y : Int32} : x = y ↔ x.toInt = y.toInt := Int32.toInt_inj.symm
theorem ti_n {n : Nat} (h : n < 2147483648) : (nI n).toInt = (n : Int) := nI_toInt (by omega)
theorem ti_0 : (0 : Int32).toInt = 0 := by decide
theorem tl_n {n : Nat} (h : n < 9223372036854775808) : (lN n).toInt = (n : Int) := pk_lT (by omega)
end
section
/-- x turned right by n bits, as the bytecode has it -/
def rorE (x n : Int32) : Int32 := ((x.toUInt32 >>> (n.toUInt32 &&& Int32.toUInt32 31)).toInt32 ||| (x <<< ((nI 32 - n) &&& 31)))
/-- the five fields side by side, as the bytecode has it -/
def jnE (a b c d f : Int32) : Int64 := (((((a.toInt64 <<< ((nI 51).toInt64 &&& 63)) ||| (b.toInt64 <<< ((nI 47).toInt64 &&& 63))) ||| (c.toInt64 <<< ((nI 30).toInt64 &&& 63))) ||| (d.toInt64 <<< ((nI 14).toInt64 &&& 63))) ||| f.toInt64)
/-- a field cut out: shifted right, its low bits -/
def cutE (x : Int64) (n m : Int32) : Int32 := ((x.toUInt64 >>> (n.toInt64.toUInt64 &&& Int64.toUInt64 63)).toInt64.toInt32 &&& m)
set_option maxHeartbeats 4000000 in
set_option maxRecDepth 100000 in
/-- x turned right by n -/
theorem c_X0_ror (l : Launch) (g : gE) (x n : Int32)  : Met l yX0_ror wsX0_ror ({ frames := 0, cells := 0, slots := 0, locals := 0 }) (va_Pc [.int x, .int n] (ro g [])) (vp_Si (fun r : Int32 => r = rorE x n)) 0 0 nA := by
  refine ofRo (cc := cX0_ror) (maxL := 2) (ret := (some .int)) (by decide) rfl (Nat.le_of_ble_eq_true rfl) (fun p e s m below meth c hx hb hr hml hts hown hlocks hnm hP hK hZ hS ls hl => ?_)
  have hown : s.vm.findClass RX0 = some m.cls := hown
  have hl : lv_has ls 2 [(0, .int x), (1, .int n)] := hl
  refine lv_iload_n hx hb dX0_ror_0 rfl (lv_at hl 0 rfl) ?_
  refine lv_iload_n hx hb dX0_ror_1 rfl (lv_at hl 1 rfl) ?_
  refine lv_iushr hx hb dX0_ror_2 rfl ?_
  refine lv_iload_n hx hb dX0_ror_3 rfl (lv_at hl 0 rfl) ?_
  refine lv_bipush (v := (nI 32)) hx hb dX0_ror_4 (by decide) ?_
  refine lv_iload_n hx hb dX0_ror_6 rfl (lv_at hl 1 rfl) ?_
  refine lv_isub hx hb dX0_ror_7 ?_
  refine lv_ishl hx hb dX0_ror_8 ?_
  refine lv_ior hx hb dX0_ror_9 ?_
  exact endRi hx hb hr hlocks dX0_ror_10 (rfl)

set_option maxHeartbeats 4000000 in
set_option maxRecDepth 100000 in
/-- x turned right by n -/
theorem c_X5_turn (l : Launch) (g : gE) (x n : Int32)  : Met l yX5_turn wsX5_turn ({ frames := 0, cells := 0, slots := 0, locals := 0 }) (va_Pc [.int x, .int n] (ro g [])) (vp_Si (fun r : Int32 => r = rorE x n)) 0 0 nA := by
  refine ofRo (cc := cX5_turn) (maxL := 2) (ret := (some .int)) (by decide) rfl (Nat.le_of_ble_eq_true rfl) (fun p e s m below meth c hx hb hr hml hts hown hlocks hnm hP hK hZ hS ls hl => ?_)
  have hown : s.vm.findClass RX5 = some m.cls := hown
  have hl : lv_has ls 2 [(0, .int x), (1, .int n)] := hl
  refine lv_iload_n hx hb dX5_turn_0 rfl (lv_at hl 0 rfl) ?_
  refine lv_iload_n hx hb dX5_turn_1 rfl (lv_at hl 1 rfl) ?_
  refine lv_iushr hx hb dX5_turn_2 rfl ?_
  refine lv_iload_n hx hb dX5_turn_3 rfl (lv_at hl 0 rfl) ?_
  refine lv_bipush (v := (nI 32)) hx hb dX5_turn_4 (by decide) ?_
  refine lv_iload_n hx hb dX5_turn_6 rfl (lv_at hl 1 rfl) ?_
  refine lv_isub hx hb dX5_turn_7 ?_
  refine lv_ishl hx hb dX5_turn_8 ?_
  refine lv_ior hx hb dX5_turn_9 ?_
  exact endRi hx hb hr hlocks dX5_turn_10 (rfl)

set_option maxHeartbeats 4000000 in
set_option maxRecDepth 100000 in
/-- the fields side by side -/
theorem c_X1_joined (l : Launch) (g : gE) (fa fb fc fd ff : Int32)  : Met l yX1_joined wsX1_joined ({ frames := 0, cells := 0, slots := 0, locals := 0 }) (va_Pc [.int fa, .int fb, .int fc, .int fd, .int ff] (ro g [])) (vp_Sl (fun r : Int64 => r = jnE fa fb fc fd ff)) 0 0 nA := by
  refine ofRo (cc := cX1_joined) (maxL := 5) (ret := (some .long)) (by decide) rfl (Nat.le_of_ble_eq_true rfl) (fun p e s m below meth c hx hb hr hml hts hown hlocks hnm hP hK hZ hS ls hl => ?_)
  have hown : s.vm.findClass RX1 = some m.cls := hown
  have hl : lv_has ls 5 [(0, .int fa), (1, .int fb), (2, .int fc), (3, .int fd), (4, .int ff)] := hl
  refine lv_iload_n hx hb dX1_joined_0 rfl (lv_at hl 0 rfl) ?_
  refine lv_i2l hx hb dX1_joined_1 rfl ?_
  refine lv_bipush (v := (nI 51)) hx hb dX1_joined_2 (by decide) ?_
  refine lv_lshl hx hb dX1_joined_4 rfl ?_
  refine lv_iload_n hx hb dX1_joined_5 rfl (lv_at hl 1 rfl) ?_
  refine lv_i2l hx hb dX1_joined_6 rfl ?_
  refine lv_bipush (v := (nI 47)) hx hb dX1_joined_7 (by decide) ?_
  refine lv_lshl hx hb dX1_joined_9 rfl ?_
  refine lv_lor hx hb dX1_joined_10 ?_
  refine lv_iload_n hx hb dX1_joined_11 rfl (lv_at hl 2 rfl) ?_
  refine lv_i2l hx hb dX1_joined_12 rfl ?_
  refine lv_bipush (v := (nI 30)) hx hb dX1_joined_13 (by decide) ?_
  refine lv_lshl hx hb dX1_joined_15 rfl ?_
  refine lv_lor hx hb dX1_joined_16 ?_
  refine lv_iload_n hx hb dX1_joined_17 rfl (lv_at hl 3 rfl) ?_
  refine lv_i2l hx hb dX1_joined_18 rfl ?_
  refine lv_bipush (v := (nI 14)) hx hb dX1_joined_19 (by decide) ?_
  refine lv_lshl hx hb dX1_joined_21 rfl ?_
  refine lv_lor hx hb dX1_joined_22 ?_
  refine lv_iload hx hb dX1_joined_23 (lv_at hl 4 rfl) ?_
  refine lv_i2l hx hb dX1_joined_25 rfl ?_
  refine lv_lor hx hb dX1_joined_26 ?_
  exact endRl hx hb hr hlocks dX1_joined_27 (rfl)

set_option maxHeartbeats 4000000 in
set_option maxRecDepth 100000 in
/-- a field -/
theorem c_X1_keyOf (l : Launch) (g : gE) (x : Int64)  : Met l yX1_keyOf wsX1_keyOf ({ frames := 0, cells := 0, slots := 0, locals := 0 }) (va_Pc [.long x] (ro g [])) (vp_Si (fun r : Int32 => r = cutE x (nI 51) (nI 15))) 0 0 nA := by
  refine ofRo (cc := cX1_keyOf) (maxL := 2) (ret := (some .int)) (by decide) rfl (Nat.le_of_ble_eq_true rfl) (fun p e s m below meth c hx hb hr hml hts hown hlocks hnm hP hK hZ hS ls hl => ?_)
  have hown : s.vm.findClass RX1 = some m.cls := hown
  have hl : lv_has ls 2 [(0, .long x)] := hl
  refine lv_lload_n hx hb dX1_keyOf_0 rfl (lv_at hl 0 rfl) ?_
  refine lv_bipush (v := (nI 51)) hx hb dX1_keyOf_1 (by decide) ?_
  refine lv_lushr hx hb dX1_keyOf_3 rfl ?_
  refine lv_l2i hx hb dX1_keyOf_4 rfl ?_
  refine lv_bipush (v := (nI 15)) hx hb dX1_keyOf_5 (by decide) ?_
  refine lv_iand hx hb dX1_keyOf_7 ?_
  exact endRi hx hb hr hlocks dX1_keyOf_8 (rfl)

set_option maxHeartbeats 4000000 in
set_option maxRecDepth 100000 in
/-- a field -/
theorem c_X1_kindOf (l : Launch) (g : gE) (x : Int64)  : Met l yX1_kindOf wsX1_kindOf ({ frames := 0, cells := 0, slots := 0, locals := 0 }) (va_Pc [.long x] (ro g [])) (vp_Si (fun r : Int32 => r = cutE x (nI 47) (nI 15))) 0 0 nA := by
  refine ofRo (cc := cX1_kindOf) (maxL := 2) (ret := (some .int)) (by decide) rfl (Nat.le_of_ble_eq_true rfl) (fun p e s m below meth c hx hb hr hml hts hown hlocks hnm hP hK hZ hS ls hl => ?_)
  have hown : s.vm.findClass RX1 = some m.cls := hown
  have hl : lv_has ls 2 [(0, .long x)] := hl
  refine lv_lload_n hx hb dX1_kindOf_0 rfl (lv_at hl 0 rfl) ?_
  refine lv_bipush (v := (nI 47)) hx hb dX1_kindOf_1 (by decide) ?_
  refine lv_lushr hx hb dX1_kindOf_3 rfl ?_
  refine lv_l2i hx hb dX1_kindOf_4 rfl ?_
  refine lv_bipush (v := (nI 15)) hx hb dX1_kindOf_5 (by decide) ?_
  refine lv_iand hx hb dX1_kindOf_7 ?_
  exact endRi hx hb hr hlocks dX1_kindOf_8 (rfl)

set_option maxHeartbeats 4000000 in
set_option maxRecDepth 100000 in
/-- a field -/
theorem c_X1_valueOf (l : Launch) (g : gE) (x : Int64)  : Met l yX1_valueOf wsX1_valueOf ({ frames := 0, cells := 0, slots := 0, locals := 0 }) (va_Pc [.long x] (ro g [])) (vp_Si (fun r : Int32 => r = cutE x (nI 30) (nI 131071))) 0 0 nA := by
  refine ofRo (cc := cX1_valueOf) (maxL := 2) (ret := (some .int)) (by decide) rfl (Nat.le_of_ble_eq_true rfl) (fun p e s m below meth c hx hb hr hml hts hown hlocks hnm hP hK hZ hS ls hl => ?_)
  have hown : s.vm.findClass RX1 = some m.cls := hown
  have hl : lv_has ls 2 [(0, .long x)] := hl
  refine lv_lload_n hx hb dX1_valueOf_0 rfl (lv_at hl 0 rfl) ?_
  refine lv_bipush (v := (nI 30)) hx hb dX1_valueOf_1 (by decide) ?_
  refine lv_lushr hx hb dX1_valueOf_3 rfl ?_
  refine lv_l2i hx hb dX1_valueOf_4 rfl ?_
  refine lv_ldc (v := (nI 131071)) hx hb hown (hts (.constant RX1 7 (nI 131071)) (by decide +kernel)) dX1_valueOf_5 ?_
  refine lv_iand hx hb dX1_valueOf_7 ?_
  exact endRi hx hb hr hlocks dX1_valueOf_8 (rfl)

set_option maxHeartbeats 4000000 in
set_option maxRecDepth 100000 in
/-- a field -/
theorem c_X1_dayOf (l : Launch) (g : gE) (x : Int64)  : Met l yX1_dayOf wsX1_dayOf ({ frames := 0, cells := 0, slots := 0, locals := 0 }) (va_Pc [.long x] (ro g [])) (vp_Si (fun r : Int32 => r = cutE x (nI 14) (nI 65535))) 0 0 nA := by
  refine ofRo (cc := cX1_dayOf) (maxL := 2) (ret := (some .int)) (by decide) rfl (Nat.le_of_ble_eq_true rfl) (fun p e s m below meth c hx hb hr hml hts hown hlocks hnm hP hK hZ hS ls hl => ?_)
  have hown : s.vm.findClass RX1 = some m.cls := hown
  have hl : lv_has ls 2 [(0, .long x)] := hl
  refine lv_lload_n hx hb dX1_dayOf_0 rfl (lv_at hl 0 rfl) ?_
  refine lv_bipush (v := (nI 14)) hx hb dX1_dayOf_1 (by decide) ?_
  refine lv_lushr hx hb dX1_dayOf_3 rfl ?_
  refine lv_l2i hx hb dX1_dayOf_4 rfl ?_
  refine lv_ldc (v := (nI 65535)) hx hb hown (hts (.constant RX1 8 (nI 65535)) (by decide +kernel)) dX1_dayOf_5 ?_
  refine lv_iand hx hb dX1_dayOf_7 ?_
  exact endRi hx hb hr hlocks dX1_dayOf_8 (rfl)

set_option maxHeartbeats 4000000 in
set_option maxRecDepth 100000 in
/-- the serial number -/
theorem c_X1_serialOf (l : Launch) (g : gE) (x : Int64)  : Met l yX1_serialOf wsX1_serialOf ({ frames := 0, cells := 0, slots := 0, locals := 0 }) (va_Pc [.long x] (ro g [])) (vp_Si (fun r : Int32 => r = (x.toInt32 &&& nI 16383))) 0 0 nA := by
  refine ofRo (cc := cX1_serialOf) (maxL := 2) (ret := (some .int)) (by decide) rfl (Nat.le_of_ble_eq_true rfl) (fun p e s m below meth c hx hb hr hml hts hown hlocks hnm hP hK hZ hS ls hl => ?_)
  have hown : s.vm.findClass RX1 = some m.cls := hown
  have hl : lv_has ls 2 [(0, .long x)] := hl
  refine lv_lload_n hx hb dX1_serialOf_0 rfl (lv_at hl 0 rfl) ?_
  refine lv_l2i hx hb dX1_serialOf_1 rfl ?_
  refine lv_sipush (v := (nI 16383)) hx hb dX1_serialOf_2 (by decide) ?_
  refine lv_iand hx hb dX1_serialOf_5 ?_
  exact endRi hx hb hr hlocks dX1_serialOf_6 (rfl)

set_option maxHeartbeats 4000000 in
set_option maxRecDepth 100000 in
/-- is it in its range -/
theorem c_X4_isDay (l : Launch) (g : gE) (x : Int64)  : Met l yX4_isDay wsX4_isDay ({ frames := 0, cells := 0, slots := 0, locals := 0 }) (va_Pc [.long x] (ro g [])) (vp_Si (fun r : Int32 => r = inI x.toInt 0 65535)) 0 0 nA := by
  refine ofRo (cc := cX4_isDay) (maxL := 2) (ret := (some .boolean)) (by decide) rfl (Nat.le_of_ble_eq_true rfl) (fun p e s m below meth c hx hb hr hml hts hown hlocks hnm hP hK hZ hS ls hl => ?_)
  have hown : s.vm.findClass RX4 = some m.cls := hown
  have hl : lv_has ls 2 [(0, .long x)] := hl
  have tn0 : (nI 0).toInt = 0 := by decide
  have tn1 : (nI 1).toInt = 1 := by decide
  have tl0 : (lN 0).toInt = 0 := by decide
  have tl65535 : (lN 65535).toInt = 65535 := by decide
  refine lv_lload_n hx hb dX4_isDay_0 rfl (lv_at hl 0 rfl) ?_
  refine lv_lconst (v := lN 0) hx hb dX4_isDay_1 (by decide) ?_
  refine W.lcmp hx hb dX4_isDay_2 ?_
  refine lv_if_lt (tgt := 18) hx hb dX4_isDay_3 (by decide) (fun c_1 => ?_) (fun c_1 => ?_)
  · refine lv_iconst (v := (nI 0)) hx hb dX4_isDay_18 (by decide) ?_
    exact endRz hx hb hr hlocks dX4_isDay_19 (by decide) (by (try simp only [lc_lt, lc_gt, lc_le, lc_ge, lc_eq] at c_1); (try simp only [ti_lt, ti_le, ti_eq, ti_0] at c_1); first | exact (inI_1 (by omega) (by omega)).symm | exact (inI_0 (by omega)).symm)
  · refine lv_lload_n hx hb dX4_isDay_6 rfl (lv_at hl 0 rfl) ?_
    refine lv_ldc2 (v := (lN 65535)) hx hb hown (hts (.constantLong RX4 139 (lN 65535)) (by decide +kernel)) dX4_isDay_7 ?_
    refine W.lcmp hx hb dX4_isDay_10 ?_
    refine lv_if_gt (tgt := 18) hx hb dX4_isDay_11 (by decide) (fun c_2 => ?_) (fun c_2 => ?_)
    · refine lv_iconst (v := (nI 0)) hx hb dX4_isDay_18 (by decide) ?_
      exact endRz hx hb hr hlocks dX4_isDay_19 (by decide) (by (try simp only [lc_lt, lc_gt, lc_le, lc_ge, lc_eq] at c_1); (try simp only [lc_lt, lc_gt, lc_le, lc_ge, lc_eq] at c_2); (try simp only [ti_lt, ti_le, ti_eq, ti_0] at c_1); (try simp only [ti_lt, ti_le, ti_eq, ti_0] at c_2); first | exact (inI_1 (by omega) (by omega)).symm | exact (inI_0 (by omega)).symm)
    · refine lv_iconst (v := (nI 1)) hx hb dX4_isDay_14 (by decide) ?_
      refine lv_goto (tgt := 19) hx hb dX4_isDay_15 (by decide) ?_
      exact endRz hx hb hr hlocks dX4_isDay_19 (by decide) (by (try simp only [lc_lt, lc_gt, lc_le, lc_ge, lc_eq] at c_1); (try simp only [lc_lt, lc_gt, lc_le, lc_ge, lc_eq] at c_2); (try simp only [ti_lt, ti_le, ti_eq, ti_0] at c_1); (try simp only [ti_lt, ti_le, ti_eq, ti_0] at c_2); first | exact (inI_1 (by omega) (by omega)).symm | exact (inI_0 (by omega)).symm)

set_option maxHeartbeats 4000000 in
set_option maxRecDepth 100000 in
/-- is it in its range -/
theorem c_X3_isSerial (l : Launch) (g : gE) (x : Int64)  : Met l yX3_isSerial wsX3_isSerial ({ frames := 0, cells := 0, slots := 0, locals := 0 }) (va_Pc [.long x] (ro g [])) (vp_Si (fun r : Int32 => r = inI x.toInt 0 16383)) 0 0 nA := by
  refine ofRo (cc := cX3_isSerial) (maxL := 2) (ret := (some .boolean)) (by decide) rfl (Nat.le_of_ble_eq_true rfl) (fun p e s m below meth c hx hb hr hml hts hown hlocks hnm hP hK hZ hS ls hl => ?_)
  have hown : s.vm.findClass RX3 = some m.cls := hown
  have hl : lv_has ls 2 [(0, .long x)] := hl
  have tn0 : (nI 0).toInt = 0 := by decide
  have tn1 : (nI 1).toInt = 1 := by decide
  have tl0 : (lN 0).toInt = 0 := by decide
  have tl16384 : (lN 16384).toInt = 16384 := by decide
  refine lv_lload_n hx hb dX3_isSerial_0 rfl (lv_at hl 0 rfl) ?_
  refine lv_lconst (v := lN 0) hx hb dX3_isSerial_1 (by decide) ?_
  refine W.lcmp hx hb dX3_isSerial_2 ?_
  refine lv_if_lt (tgt := 18) hx hb dX3_isSerial_3 (by decide) (fun c_3 => ?_) (fun c_3 => ?_)
  · refine lv_iconst (v := (nI 0)) hx hb dX3_isSerial_18 (by decide) ?_
    exact endRz hx hb hr hlocks dX3_isSerial_19 (by decide) (by (try simp only [lc_lt, lc_gt, lc_le, lc_ge, lc_eq] at c_3); (try simp only [ti_lt, ti_le, ti_eq, ti_0] at c_3); first | exact (inI_1 (by omega) (by omega)).symm | exact (inI_0 (by omega)).symm)
  · refine lv_lload_n hx hb dX3_isSerial_6 rfl (lv_at hl 0 rfl) ?_
    refine lv_ldc2 (v := (lN 16384)) hx hb hown (hts (.constantLong RX3 22 (lN 16384)) (by decide +kernel)) dX3_isSerial_7 ?_
    refine W.lcmp hx hb dX3_isSerial_10 ?_
    refine lv_if_ge (tgt := 18) hx hb dX3_isSerial_11 (by decide) (fun c_4 => ?_) (fun c_4 => ?_)
    · refine lv_iconst (v := (nI 0)) hx hb dX3_isSerial_18 (by decide) ?_
      exact endRz hx hb hr hlocks dX3_isSerial_19 (by decide) (by (try simp only [lc_lt, lc_gt, lc_le, lc_ge, lc_eq] at c_3); (try simp only [lc_lt, lc_gt, lc_le, lc_ge, lc_eq] at c_4); (try simp only [ti_lt, ti_le, ti_eq, ti_0] at c_3); (try simp only [ti_lt, ti_le, ti_eq, ti_0] at c_4); first | exact (inI_1 (by omega) (by omega)).symm | exact (inI_0 (by omega)).symm)
    · refine lv_iconst (v := (nI 1)) hx hb dX3_isSerial_14 (by decide) ?_
      refine lv_goto (tgt := 19) hx hb dX3_isSerial_15 (by decide) ?_
      exact endRz hx hb hr hlocks dX3_isSerial_19 (by decide) (by (try simp only [lc_lt, lc_gt, lc_le, lc_ge, lc_eq] at c_3); (try simp only [lc_lt, lc_gt, lc_le, lc_ge, lc_eq] at c_4); (try simp only [ti_lt, ti_le, ti_eq, ti_0] at c_3); (try simp only [ti_lt, ti_le, ti_eq, ti_0] at c_4); first | exact (inI_1 (by omega) (by omega)).symm | exact (inI_0 (by omega)).symm)

set_option maxHeartbeats 4000000 in
set_option maxRecDepth 100000 in
/-- is it in its range -/
theorem c_X4_isValue (l : Launch) (g : gE) (x : Int32)  : Met l yX4_isValue wsX4_isValue ({ frames := 0, cells := 0, slots := 0, locals := 0 }) (va_Pc [.int x] (ro g [])) (vp_Si (fun r : Int32 => r = inI x.toInt 1 99999)) 0 0 nA := by
  refine ofRo (cc := cX4_isValue) (maxL := 1) (ret := (some .boolean)) (by decide) rfl (Nat.le_of_ble_eq_true rfl) (fun p e s m below meth c hx hb hr hml hts hown hlocks hnm hP hK hZ hS ls hl => ?_)
  have hown : s.vm.findClass RX4 = some m.cls := hown
  have hl : lv_has ls 1 [(0, .int x)] := hl
  have tn0 : (nI 0).toInt = 0 := by decide
  have tn1 : (nI 1).toInt = 1 := by decide
  have tn99999 : (nI 99999).toInt = 99999 := by decide
  refine lv_iload_n hx hb dX4_isValue_0 rfl (lv_at hl 0 rfl) ?_
  refine lv_iconst (v := (nI 1)) hx hb dX4_isValue_1 (by decide) ?_
  refine lv_icmp_lt (tgt := 15) hx hb dX4_isValue_2 (by decide) (fun c_5 => ?_) (fun c_5 => ?_)
  · refine lv_iconst (v := (nI 0)) hx hb dX4_isValue_15 (by decide) ?_
    exact endRz hx hb hr hlocks dX4_isValue_16 (by decide) (by (try simp only [lc_lt, lc_gt, lc_le, lc_ge, lc_eq] at c_5); (try simp only [ti_lt, ti_le, ti_eq, ti_0] at c_5); first | exact (inI_1 (by omega) (by omega)).symm | exact (inI_0 (by omega)).symm)
  · refine lv_iload_n hx hb dX4_isValue_5 rfl (lv_at hl 0 rfl) ?_
    refine lv_ldc (v := (nI 99999)) hx hb hown (hts (.constant RX4 141 (nI 99999)) (by decide +kernel)) dX4_isValue_6 ?_
    refine lv_icmp_gt (tgt := 15) hx hb dX4_isValue_8 (by decide) (fun c_6 => ?_) (fun c_6 => ?_)
    · refine lv_iconst (v := (nI 0)) hx hb dX4_isValue_15 (by decide) ?_
      exact endRz hx hb hr hlocks dX4_isValue_16 (by decide) (by (try simp only [lc_lt, lc_gt, lc_le, lc_ge, lc_eq] at c_5); (try simp only [lc_lt, lc_gt, lc_le, lc_ge, lc_eq] at c_6); (try simp only [ti_lt, ti_le, ti_eq, ti_0] at c_5); (try simp only [ti_lt, ti_le, ti_eq, ti_0] at c_6); first | exact (inI_1 (by omega) (by omega)).symm | exact (inI_0 (by omega)).symm)
    · refine lv_iconst (v := (nI 1)) hx hb dX4_isValue_11 (by decide) ?_
      refine lv_goto (tgt := 16) hx hb dX4_isValue_12 (by decide) ?_
      exact endRz hx hb hr hlocks dX4_isValue_16 (by decide) (by (try simp only [lc_lt, lc_gt, lc_le, lc_ge, lc_eq] at c_5); (try simp only [lc_lt, lc_gt, lc_le, lc_ge, lc_eq] at c_6); (try simp only [ti_lt, ti_le, ti_eq, ti_0] at c_5); (try simp only [ti_lt, ti_le, ti_eq, ti_0] at c_6); first | exact (inI_1 (by omega) (by omega)).symm | exact (inI_0 (by omega)).symm)

set_option maxHeartbeats 4000000 in
set_option maxRecDepth 100000 in
/-- is it in its range -/
theorem c_X4_isKind (l : Launch) (g : gE) (x : Int32)  : Met l yX4_isKind wsX4_isKind ({ frames := 0, cells := 0, slots := 0, locals := 0 }) (va_Pc [.int x] (ro g [])) (vp_Si (fun r : Int32 => r = inI x.toInt 0 9)) 0 0 nA := by
  refine ofRo (cc := cX4_isKind) (maxL := 1) (ret := (some .boolean)) (by decide) rfl (Nat.le_of_ble_eq_true rfl) (fun p e s m below meth c hx hb hr hml hts hown hlocks hnm hP hK hZ hS ls hl => ?_)
  have hown : s.vm.findClass RX4 = some m.cls := hown
  have hl : lv_has ls 1 [(0, .int x)] := hl
  have tn0 : (nI 0).toInt = 0 := by decide
  have tn1 : (nI 1).toInt = 1 := by decide
  have tn9 : (nI 9).toInt = 9 := by decide
  refine lv_iload_n hx hb dX4_isKind_0 rfl (lv_at hl 0 rfl) ?_
  refine lv_if_lt (tgt := 14) hx hb dX4_isKind_1 (by decide) (fun c_7 => ?_) (fun c_7 => ?_)
  · refine lv_iconst (v := (nI 0)) hx hb dX4_isKind_14 (by decide) ?_
    exact endRz hx hb hr hlocks dX4_isKind_15 (by decide) (by (try simp only [lc_lt, lc_gt, lc_le, lc_ge, lc_eq] at c_7); (try simp only [ti_lt, ti_le, ti_eq, ti_0] at c_7); first | exact (inI_1 (by omega) (by omega)).symm | exact (inI_0 (by omega)).symm)
  · refine lv_iload_n hx hb dX4_isKind_4 rfl (lv_at hl 0 rfl) ?_
    refine lv_bipush (v := (nI 9)) hx hb dX4_isKind_5 (by decide) ?_
    refine lv_icmp_gt (tgt := 14) hx hb dX4_isKind_7 (by decide) (fun c_8 => ?_) (fun c_8 => ?_)
    · refine lv_iconst (v := (nI 0)) hx hb dX4_isKind_14 (by decide) ?_
      exact endRz hx hb hr hlocks dX4_isKind_15 (by decide) (by (try simp only [lc_lt, lc_gt, lc_le, lc_ge, lc_eq] at c_7); (try simp only [lc_lt, lc_gt, lc_le, lc_ge, lc_eq] at c_8); (try simp only [ti_lt, ti_le, ti_eq, ti_0] at c_7); (try simp only [ti_lt, ti_le, ti_eq, ti_0] at c_8); first | exact (inI_1 (by omega) (by omega)).symm | exact (inI_0 (by omega)).symm)
    · refine lv_iconst (v := (nI 1)) hx hb dX4_isKind_10 (by decide) ?_
      refine lv_goto (tgt := 15) hx hb dX4_isKind_11 (by decide) ?_
      exact endRz hx hb hr hlocks dX4_isKind_15 (by decide) (by (try simp only [lc_lt, lc_gt, lc_le, lc_ge, lc_eq] at c_7); (try simp only [lc_lt, lc_gt, lc_le, lc_ge, lc_eq] at c_8); (try simp only [ti_lt, ti_le, ti_eq, ti_0] at c_7); (try simp only [ti_lt, ti_le, ti_eq, ti_0] at c_8); first | exact (inI_1 (by omega) (by omega)).symm | exact (inI_0 (by omega)).symm)

set_option maxHeartbeats 4000000 in
set_option maxRecDepth 100000 in
/-- is v between -/
theorem c_X5_within (l : Launch) (g : gE) (v lo hi : Int64)  : Met l yX5_within wsX5_within ({ frames := 0, cells := 0, slots := 0, locals := 0 }) (va_Pc [.long v, .long lo, .long hi] (ro g [])) (vp_Si (fun r : Int32 => r = inI v.toInt lo.toInt hi.toInt)) 0 0 nA := by
  refine ofRo (cc := cX5_within) (maxL := 6) (ret := (some .boolean)) (by decide) rfl (Nat.le_of_ble_eq_true rfl) (fun p e s m below meth c hx hb hr hml hts hown hlocks hnm hP hK hZ hS ls hl => ?_)
  have hown : s.vm.findClass RX5 = some m.cls := hown
  have hl : lv_has ls 6 [(0, .long v), (2, .long lo), (4, .long hi)] := hl
  have tn0 : (nI 0).toInt = 0 := by decide
  have tn1 : (nI 1).toInt = 1 := by decide
  refine lv_lload_n hx hb dX5_within_0 rfl (lv_at hl 0 rfl) ?_
  refine lv_lload_n hx hb dX5_within_1 rfl (lv_at hl 1 rfl) ?_
  refine W.lcmp hx hb dX5_within_2 ?_
  refine lv_if_lt (tgt := 17) hx hb dX5_within_3 (by decide) (fun c_9 => ?_) (fun c_9 => ?_)
  · refine lv_iconst (v := (nI 0)) hx hb dX5_within_17 (by decide) ?_
    exact endRz hx hb hr hlocks dX5_within_18 (by decide) (by (try simp only [lc_lt, lc_gt, lc_le, lc_ge, lc_eq] at c_9); (try simp only [ti_lt, ti_le, ti_eq, ti_0] at c_9); first | exact (inI_1 (by omega) (by omega)).symm | exact (inI_0 (by omega)).symm)
  · refine lv_lload_n hx hb dX5_within_6 rfl (lv_at hl 0 rfl) ?_
    refine lv_lload hx hb dX5_within_7 (lv_at hl 2 rfl) ?_
    refine W.lcmp hx hb dX5_within_9 ?_
    refine lv_if_gt (tgt := 17) hx hb dX5_within_10 (by decide) (fun c_10 => ?_) (fun c_10 => ?_)
    · refine lv_iconst (v := (nI 0)) hx hb dX5_within_17 (by decide) ?_
      exact endRz hx hb hr hlocks dX5_within_18 (by decide) (by (try simp only [lc_lt, lc_gt, lc_le, lc_ge, lc_eq] at c_9); (try simp only [lc_lt, lc_gt, lc_le, lc_ge, lc_eq] at c_10); (try simp only [ti_lt, ti_le, ti_eq, ti_0] at c_9); (try simp only [ti_lt, ti_le, ti_eq, ti_0] at c_10); first | exact (inI_1 (by omega) (by omega)).symm | exact (inI_0 (by omega)).symm)
    · refine lv_iconst (v := (nI 1)) hx hb dX5_within_13 (by decide) ?_
      refine lv_goto (tgt := 18) hx hb dX5_within_14 (by decide) ?_
      exact endRz hx hb hr hlocks dX5_within_18 (by decide) (by (try simp only [lc_lt, lc_gt, lc_le, lc_ge, lc_eq] at c_9); (try simp only [lc_lt, lc_gt, lc_le, lc_ge, lc_eq] at c_10); (try simp only [ti_lt, ti_le, ti_eq, ti_0] at c_9); (try simp only [ti_lt, ti_le, ti_eq, ti_0] at c_10); first | exact (inI_1 (by omega) (by omega)).symm | exact (inI_0 (by omega)).symm)

set_option maxHeartbeats 4000000 in
set_option maxRecDepth 100000 in
/-- does it hold on day x -/
theorem c_X2_holdsOn (l : Launch) (g : gE) (k kb : Nat) (fr un cn cl : Int32) (x : Int64)  : Met l yX2_holdsOn wsX2_holdsOn ({ frames := 0, cells := 0, slots := 0, locals := 0 }) (va_Pc [.ref k, .long x] (ro g [(k, .inr (3, [.int fr, .int un, .ref kb, .int cn, .int cl]))])) (vp_Si (fun r : Int32 => r = inI x.toInt fr.toInt un.toInt)) 0 0 nA := by
  refine ofRo (cc := cX2_holdsOn) (maxL := 3) (ret := (some .boolean)) (by decide) rfl (Nat.le_of_ble_eq_true rfl) (fun p e s m below meth c hx hb hr hml hts hown hlocks hnm hP hK hZ hS ls hl => ?_)
  have hown : s.vm.findClass RX2 = some m.cls := hown
  have hl : lv_has ls 3 [(0, .ref k), (1, .long x)] := hl
  have tn0 : (nI 0).toInt = 0 := by decide
  have tn1 : (nI 1).toInt = 1 := by decide
  have hiX2 : ∀ w ∈ wsX20, w ∈ wsX2_holdsOn := by decide +kernel
  refine lv_aload_n hx hb dX2_holdsOn_0 rfl (lv_at hl 0 rfl) ?_
  refine va_get (D := g.1) (ci := 3) (v := .int fr) (C := RX2) (T := TX2) (N := 5) hx hb hts hiX2 hown hK.1 hP 0 rfl rfl 0 (by decide) (hts (.fieldLink RX2 13 "StampMaker$Key" "from" "I") (by decide +kernel)) (fun _ h9 => h9) rfl dX2_holdsOn_1 ?_
  refine lv_i2l hx hb dX2_holdsOn_4 rfl ?_
  refine lv_lload_n hx hb dX2_holdsOn_5 rfl (lv_at hl 1 rfl) ?_
  refine W.lcmp hx hb dX2_holdsOn_6 ?_
  refine lv_if_gt (tgt := 24) hx hb dX2_holdsOn_7 (by decide) (fun c_11 => ?_) (fun c_11 => ?_)
  · refine lv_iconst (v := (nI 0)) hx hb dX2_holdsOn_24 (by decide) ?_
    exact endRz hx hb hr hlocks dX2_holdsOn_25 (by decide) (by (try simp only [lc_lt, lc_gt, lc_le, lc_ge, lc_eq] at c_11); (try simp only [ti_lt, ti_le, ti_eq, ti_0] at c_11); (try simp only [Int32.toInt_toInt64] at c_11); first | exact (inI_1 (by omega) (by omega)).symm | exact (inI_0 (by omega)).symm)
  · refine lv_lload_n hx hb dX2_holdsOn_10 rfl (lv_at hl 1 rfl) ?_
    refine lv_aload_n hx hb dX2_holdsOn_11 rfl (lv_at hl 0 rfl) ?_
    refine va_get (D := g.1) (ci := 3) (v := .int un) (C := RX2) (T := TX2) (N := 5) hx hb hts hiX2 hown hK.1 hP 0 rfl rfl 1 (by decide) (hts (.fieldLink RX2 17 "StampMaker$Key" "until" "I") (by decide +kernel)) (fun _ h9 => h9) rfl dX2_holdsOn_12 ?_
    refine lv_i2l hx hb dX2_holdsOn_15 rfl ?_
    refine W.lcmp hx hb dX2_holdsOn_16 ?_
    refine lv_if_gt (tgt := 24) hx hb dX2_holdsOn_17 (by decide) (fun c_12 => ?_) (fun c_12 => ?_)
    · refine lv_iconst (v := (nI 0)) hx hb dX2_holdsOn_24 (by decide) ?_
      exact endRz hx hb hr hlocks dX2_holdsOn_25 (by decide) (by (try simp only [lc_lt, lc_gt, lc_le, lc_ge, lc_eq] at c_11); (try simp only [lc_lt, lc_gt, lc_le, lc_ge, lc_eq] at c_12); (try simp only [ti_lt, ti_le, ti_eq, ti_0] at c_11); (try simp only [ti_lt, ti_le, ti_eq, ti_0] at c_12); (try simp only [Int32.toInt_toInt64] at c_11); (try simp only [Int32.toInt_toInt64] at c_12); first | exact (inI_1 (by omega) (by omega)).symm | exact (inI_0 (by omega)).symm)
    · refine lv_iconst (v := (nI 1)) hx hb dX2_holdsOn_20 (by decide) ?_
      refine lv_goto (tgt := 25) hx hb dX2_holdsOn_21 (by decide) ?_
      exact endRz hx hb hr hlocks dX2_holdsOn_25 (by decide) (by (try simp only [lc_lt, lc_gt, lc_le, lc_ge, lc_eq] at c_11); (try simp only [lc_lt, lc_gt, lc_le, lc_ge, lc_eq] at c_12); (try simp only [ti_lt, ti_le, ti_eq, ti_0] at c_11); (try simp only [ti_lt, ti_le, ti_eq, ti_0] at c_12); (try simp only [Int32.toInt_toInt64] at c_11); (try simp only [Int32.toInt_toInt64] at c_12); first | exact (inI_1 (by omega) (by omega)).symm | exact (inI_0 (by omega)).symm)

set_option maxHeartbeats 4000000 in
set_option maxRecDepth 100000 in
/-- its size -/
theorem c_X2_size (l : Launch) (g : gE) (k kb : Nat) (fr un cn cl : Int32)  : Met l yX2_size wsX2_size ({ frames := 0, cells := 0, slots := 0, locals := 0 }) (va_Pc [.ref k] (ro g [(k, .inr (3, [.int fr, .int un, .ref kb, .int cn, .int cl]))])) (vp_Si (fun r : Int32 => r = cn)) 0 0 nA := by
  refine ofRo (cc := cX2_size) (maxL := 1) (ret := (some .int)) (by decide) rfl (Nat.le_of_ble_eq_true rfl) (fun p e s m below meth c hx hb hr hml hts hown hlocks hnm hP hK hZ hS ls hl => ?_)
  have hown : s.vm.findClass RX2 = some m.cls := hown
  have hl : lv_has ls 1 [(0, .ref k)] := hl
  have hiX2 : ∀ w ∈ wsX20, w ∈ wsX2_size := by decide +kernel
  refine lv_aload_n hx hb dX2_size_0 rfl (lv_at hl 0 rfl) ?_
  refine va_get (D := g.1) (ci := 3) (v := .int cn) (C := RX2) (T := TX2) (N := 5) hx hb hts hiX2 hown hK.1 hP 0 rfl rfl 3 (by decide) (hts (.fieldLink RX2 24 "StampMaker$Key" "count" "I") (by decide +kernel)) (fun _ h9 => h9) rfl dX2_size_1 ?_
  exact endRi hx hb hr hlocks dX2_size_4 (rfl)

set_option maxHeartbeats 4000000 in
set_option maxRecDepth 100000 in
/-- byte i, as 0 .. 255 -/
theorem c_X2_octetAt (l : Launch) (g : gE) (k kb : Nat) (fr un cn cl : Int32) (f : Nat → Int32) (i : Nat) (hi : i < 32) : Met l yX2_octetAt wsX2_octetAt ({ frames := 0, cells := 0, slots := 0, locals := 0 }) (va_Pc [.ref k, .int (nI i)] (ro g [(k, .inr (3, [.int fr, .int un, .ref kb, .int cn, .int cl])), (kb, .inl (g.2.1 1, 32, .inl f))])) (vp_Si (fun r : Int32 => r = (f i &&& nI 255))) 0 0 nA := by
  refine ofRo (cc := cX2_octetAt) (maxL := 2) (ret := (some .int)) (by decide) rfl (Nat.le_of_ble_eq_true rfl) (fun p e s m below meth c hx hb hr hml hts hown hlocks hnm hP hK hZ hS ls hl => ?_)
  have hown : s.vm.findClass RX2 = some m.cls := hown
  have hl : lv_has ls 2 [(0, .ref k), (1, .int (nI i))] := hl
  have tn0 : (nI 0).toInt = 0 := by decide
  have tn32 : (nI 32).toInt = 32 := by decide
  have tn255 : (nI 255).toInt = 255 := by decide
  have hiX2 : ∀ w ∈ wsX20, w ∈ wsX2_octetAt := by decide +kernel
  refine lv_iload_n hx hb dX2_octetAt_0 rfl (lv_at hl 1 rfl) ?_
  refine lv_if_lt (tgt := 23) hx hb dX2_octetAt_1 (by decide) (fun c9 => absurd c9 (nI_pos (by omega))) (fun _ => ?_)
  refine lv_iload_n hx hb dX2_octetAt_4 rfl (lv_at hl 1 rfl) ?_
  refine lv_bipush (v := (nI 32)) hx hb dX2_octetAt_5 (by decide) ?_
  refine lv_icmp_ge (tgt := 23) hx hb dX2_octetAt_7 (by decide) (fun c9 => absurd c9 (nI_ge (by omega) (by omega))) (fun _ => ?_)
  refine lv_aload_n hx hb dX2_octetAt_10 rfl (lv_at hl 0 rfl) ?_
  refine va_get (D := g.1) (ci := 3) (v := .ref kb) (C := RX2) (T := TX2) (N := 5) hx hb hts hiX2 hown hK.1 hP 0 rfl rfl 2 (by decide) (hts (.fieldLink RX2 9 "StampMaker$Key" "bytes" "[B") (by decide +kernel)) (fun _ h9 => h9) rfl dX2_octetAt_11 ?_
  refine lv_iload_n hx hb dX2_octetAt_14 rfl (lv_at hl 1 rfl) ?_
  refine va_bald hx hb hK.1 hP 1 1 rfl rfl (vp_in_nI (by omega) (by omega)) dX2_octetAt_15 ?_
  refine lv_rei (x' := f i) (congrArg f (nI_clamp (by omega))) ?_
  refine lv_sipush (v := (nI 255)) hx hb dX2_octetAt_16 (by decide) ?_
  refine lv_iand hx hb dX2_octetAt_19 ?_
  refine lv_goto (tgt := 24) hx hb dX2_octetAt_20 (by decide) ?_
  exact endRi hx hb hr hlocks dX2_octetAt_24 (rfl)

set_option maxHeartbeats 4000000 in
set_option maxRecDepth 100000 in
/-- closed -/
theorem c_X2_close (l : Launch) (g : gE) (hsz : Nat) (k kb : Nat) (fr un cn cl : Int32)  : Met l yX2_close wsX2_close ({ frames := 0, cells := 0, slots := 0, locals := 0 }) (va_Pc [.ref k] (wr g [(k, .inr (3, [.int fr, .int un, .ref kb, .int cn, .int cl]))] hsz)) (va_Qv (fun (u : Unit) => True) (wB g (va_A [(k, .inr (3, [.int fr, .int un, .ref kb, .int cn, .int cl]))] hsz) (fun u : Unit => [(k, .inr (3, [.int fr, .int un, .ref kb, .int cn, .int (nI 1)]))])) (va_A [(k, .inr (3, [.int fr, .int un, .ref kb, .int cn, .int cl]))] hsz)) 0 0 (va_A [(k, .inr (3, [.int fr, .int un, .ref kb, .int cn, .int cl]))] hsz) := by
  refine ofWv (cc := cX2_close) (maxL := 1) (ret := none) (by decide) rfl (Nat.le_of_ble_eq_true rfl) (fun p e s m below meth c hx hb hr hml hts hown hlocks hnm A H hH hA hP hD hK hZ hS ls hl => ?_)
  have hown : s.vm.findClass RX2 = some m.cls := hown
  have hl : lv_has ls 1 [(0, .ref k)] := hl
  have hiX2 : ∀ w ∈ wsX20, w ∈ wsX2_close := by decide +kernel
  refine lv_aload_n hx hb dX2_close_0 rfl (lv_at hl 0 rfl) ?_
  refine lv_iconst (v := (nI 1)) hx hb dX2_close_1 (by decide) ?_
  refine va_put (D := g.1) (ci := 3) (v := .int (nI 1)) (ty := .boolean) (C := RX2) (T := TX2) (N := 5) hx hb hts hiX2 tyX2 tyX2_ok nmX2 hown hK.1 hP hD hS 0 rfl rfl 4 (by decide) (hts (.fieldLink RX2 20 "StampMaker$Key" "closed" "Z") (by decide +kernel)) (fun _ h9 => h9) rfl (by decide +kernel) (by decide) (by decide) (Nat.le_of_ble_eq_true rfl) dX2_close_2 (fun H locs hP hD hS => ?_)
  have hP : va_P g.1 vwCl [(k, .inr (3, [.int fr, .int un, .ref kb, .int cn, .int (nI 1)]))] H := hP
  have hD : va_D A [(k, .inr (3, [.int fr, .int un, .ref kb, .int cn, .int (nI 1)]))] := hD
  exact endWv () hx hb hr hlocks hS dX2_close_5 hP hD (trivial)
end
section
/-- the first letter that is c, from place i on -/
def woG (c : Int32) : Nat → Nat → Nat
  | 0, i => i
  | k + 1, i => if aL i = c then i else woG c k (i + 1)
/-- which letter c is; 32: none -/
def wo (c : Int32) : Nat := woG c 32 0
/-- the same, -1 for none -/
def rW (c : Int32) : Int32 := if wo c < 32 then nI (wo c) else -1
theorem aL_char : ∀ a, a < 32 → ((aL a &&& nI 255).toUInt32 % 65536).toInt32 = aL a := by decide
theorem aL_nar : ∀ a, a < 32 → narrow .char (.int (aL a)) = .int (aL a) := by decide
set_option maxHeartbeats 4000000 in
set_option maxRecDepth 100000 in
/-- an index in its range -/
theorem c_J3_ci0 (l : Launch) (g : gE) (a b : Nat) (hab : a < b) (hb2 : b < 2147483648) : Met l yJ3_checkIndex_8e157 wsJ3_checkIndex_8e157 ({ frames := 0, cells := 0, slots := 0, locals := 0 }) (va_Pc [.int (nI a), .int (nI b), .null] (ro g [])) (vp_Si (fun r : Int32 => r = nI a)) 0 0 nA := by
  refine ofRo (cc := cJ3_checkIndex_8e157) (maxL := 3) (ret := (some .int)) (by decide) rfl (Nat.le_of_ble_eq_true rfl) (fun p e s m below meth c hx hb hr hml hts hown hlocks hnm hP hK hZ hS ls hl => ?_)
  have hown : s.vm.findClass RJ3 = some m.cls := hown
  have hl : lv_has ls 3 [(0, .int (nI a)), (1, .int (nI b)), (2, .null)] := hl
  refine lv_iload_n hx hb dJ3_checkIndex_8e157_0 rfl (lv_at hl 0 rfl) ?_
  refine lv_if_lt (tgt := 9) hx hb dJ3_checkIndex_8e157_1 (by decide) (fun c9 => absurd c9 (nI_pos (by omega))) (fun _ => ?_)
  refine lv_iload_n hx hb dJ3_checkIndex_8e157_4 rfl (lv_at hl 0 rfl) ?_
  refine lv_iload_n hx hb dJ3_checkIndex_8e157_5 rfl (lv_at hl 1 rfl) ?_
  refine lv_icmp_lt (tgt := 16) hx hb dJ3_checkIndex_8e157_6 (by decide) (fun _ => ?_) (fun c9 => absurd (nI_lt (by omega) (by omega)) c9)
  refine lv_iload_n hx hb dJ3_checkIndex_8e157_16 rfl (lv_at hl 0 rfl) ?_
  exact endRi hx hb hr hlocks dJ3_checkIndex_8e157_17 (rfl)

set_option maxHeartbeats 4000000 in
set_option maxRecDepth 100000 in
/-- an index in its range -/
theorem c_J3_ciR (l : Launch) (g : gE) (a b : Nat) (tq : Nat) (hab : a < b) (hb2 : b < 2147483648) : Met l yJ3_checkIndex_8e157 wsJ3_checkIndex_8e157 ({ frames := 0, cells := 0, slots := 0, locals := 0 }) (va_Pc [.int (nI a), .int (nI b), .ref tq] (ro g [])) (vp_Si (fun r : Int32 => r = nI a)) 0 0 nA := by
  refine ofRo (cc := cJ3_checkIndex_8e157) (maxL := 3) (ret := (some .int)) (by decide) rfl (Nat.le_of_ble_eq_true rfl) (fun p e s m below meth c hx hb hr hml hts hown hlocks hnm hP hK hZ hS ls hl => ?_)
  have hown : s.vm.findClass RJ3 = some m.cls := hown
  have hl : lv_has ls 3 [(0, .int (nI a)), (1, .int (nI b)), (2, .ref tq)] := hl
  refine lv_iload_n hx hb dJ3_checkIndex_8e157_0 rfl (lv_at hl 0 rfl) ?_
  refine lv_if_lt (tgt := 9) hx hb dJ3_checkIndex_8e157_1 (by decide) (fun c9 => absurd c9 (nI_pos (by omega))) (fun _ => ?_)
  refine lv_iload_n hx hb dJ3_checkIndex_8e157_4 rfl (lv_at hl 0 rfl) ?_
  refine lv_iload_n hx hb dJ3_checkIndex_8e157_5 rfl (lv_at hl 1 rfl) ?_
  refine lv_icmp_lt (tgt := 16) hx hb dJ3_checkIndex_8e157_6 (by decide) (fun _ => ?_) (fun c9 => absurd (nI_lt (by omega) (by omega)) c9)
  refine lv_iload_n hx hb dJ3_checkIndex_8e157_16 rfl (lv_at hl 0 rfl) ?_
  exact endRi hx hb hr hlocks dJ3_checkIndex_8e157_17 (rfl)

set_option maxHeartbeats 4000000 in
set_option maxRecDepth 100000 in
/-- an index in its range -/
theorem c_J0_checkIndex (l : Launch) (g : gE) (a b : Nat) (hab : a < b) (hb2 : b < 2147483648) : Met l yJ0_checkIndex_df160 wsJ0_checkIndex_df160 ({ frames := 1, cells := 0, slots := 0, locals := 22 }) (va_Pc [.int (nI a), .int (nI b)] (ro g [])) (va_Sv (fun r : Unit => True)) 0 0 nA := by
  refine ofRo (cc := cJ0_checkIndex_df160) (maxL := 2) (ret := none) (by decide) rfl (Nat.le_of_ble_eq_true rfl) (fun p e s m below meth c hx hb hr hml hts hown hlocks hnm hP hK hZ hS ls hl => ?_)
  have hown : s.vm.findClass RJ0 = some m.cls := hown
  have hl : lv_has ls 2 [(0, .int (nI a)), (1, .int (nI b))] := hl
  refine lv_iload_n hx hb dJ0_checkIndex_df160_0 rfl (lv_at hl 0 rfl) ?_
  refine lv_iload_n hx hb dJ0_checkIndex_df160_1 rfl (lv_at hl 1 rfl) ?_
  rcases hZ.2.2.2.2.2.1 with hq | ⟨tq, hq⟩
  · refine va_gets hx hb hq hS hown (hts (.fieldLink RJ0 1053 "jdk/internal/util/Preconditions" "SIOOBE_FORMATTER" "Ljava/util/function/BiFunction;") (by decide +kernel)) (fun _ h9 => h9) dJ0_checkIndex_df160_2 ?_
    refine cSi (rest := []) ⟨hx, hb, hml, hown, hts⟩ [.int (nI a), .int (nI b), .null] (c_J3_ci0 l g (a := a) (b := b) hab hb2) (va_cwS 3 hts gJ0_checkIndex_df160_J3_checkIndex_8e157 rfl rfl rfl (by decide +kernel) ⟨Nat.le_of_ble_eq_true rfl, Nat.le_of_ble_eq_true rfl⟩) hK hZ hS (subP hP [] rfl) rfl hl.1 rfl (Nat.le_of_ble_eq_true rfl) dJ0_checkIndex_df160_5 ⟨Nat.zero_le _, Nat.zero_le _⟩ (fun r_13 hr_13 => ?_)
    obtain rfl : r_13 = nI a := hr_13
    refine lv_pop hx hb dJ0_checkIndex_df160_8 rfl ?_
    exact endRv hx hb hr hlocks dJ0_checkIndex_df160_9 (trivial)
  · refine va_gets hx hb hq hS hown (hts (.fieldLink RJ0 1053 "jdk/internal/util/Preconditions" "SIOOBE_FORMATTER" "Ljava/util/function/BiFunction;") (by decide +kernel)) (fun _ h9 => h9) dJ0_checkIndex_df160_2 ?_
    refine cSi (rest := []) ⟨hx, hb, hml, hown, hts⟩ [.int (nI a), .int (nI b), .ref tq] (c_J3_ciR l g (a := a) (b := b) (tq := tq) hab hb2) (va_cwS 3 hts gJ0_checkIndex_df160_J3_checkIndex_8e157 rfl rfl rfl (by decide +kernel) ⟨Nat.le_of_ble_eq_true rfl, Nat.le_of_ble_eq_true rfl⟩) hK hZ hS (subP hP [] rfl) rfl hl.1 rfl (Nat.le_of_ble_eq_true rfl) dJ0_checkIndex_df160_5 ⟨Nat.zero_le _, Nat.zero_le _⟩ (fun r_14 hr_14 => ?_)
    obtain rfl : r_14 = nI a := hr_14
    refine lv_pop hx hb dJ0_checkIndex_df160_8 rfl ?_
    exact endRv hx hb hr hlocks dJ0_checkIndex_df160_9 (trivial)

set_option maxHeartbeats 4000000 in
set_option maxRecDepth 100000 in
/-- the letter at a -/
theorem c_J1_charAt (l : Launch) (g : gE) (a : Nat) (ha : a < 32) : Met l yJ1_charAt_3b067 wsJ1_charAt_3b067 ({ frames := 2, cells := 0, slots := 0, locals := 43 }) (va_Pc [.ref (g.2.2 3), .int (nI a)] (ro g [])) (vp_Si (fun r : Int32 => r = aL a)) 0 0 nA := by
  refine ofRo (cc := cJ1_charAt_3b067) (maxL := 2) (ret := (some .char)) (by decide) rfl (Nat.le_of_ble_eq_true rfl) (fun p e s m below meth c hx hb hr hml hts hown hlocks hnm hP hK hZ hS ls hl => ?_)
  have hown : s.vm.findClass RJ1 = some m.cls := hown
  have hl : lv_has ls 2 [(0, .ref (g.2.2 3)), (1, .int (nI a))] := hl
  refine lv_iload_n hx hb dJ1_charAt_3b067_0 rfl (lv_at hl 1 rfl) ?_
  refine lv_aload_n hx hb dJ1_charAt_3b067_1 rfl (lv_at hl 0 rfl) ?_
  refine va_tlen (v := nI 32) hx hb (hZ.2.2.2.2.2.2.1.1 0 (by decide)).2.2.2 hS rfl dJ1_charAt_3b067_2 ?_
  refine cSv (rest := []) ⟨hx, hb, hml, hown, hts⟩ [.int (nI a), .int (nI 32)] (c_J0_checkIndex l g (a := a) (b := 32) ha (by decide)) (va_cwS 2 hts gJ1_charAt_3b067_J0_checkIndex_df160 rfl rfl rfl (by decide +kernel) ⟨Nat.le_of_ble_eq_true rfl, Nat.le_of_ble_eq_true rfl⟩) hK hZ hS (subP hP [] rfl) rfl hl.1 rfl (Nat.le_of_ble_eq_true rfl) dJ1_charAt_3b067_3 ⟨Nat.zero_le _, Nat.zero_le _⟩ (fun hr_15 => ?_)
  refine lv_aload_n hx hb dJ1_charAt_3b067_6 rfl (lv_at hl 0 rfl) ?_
  refine lv_iload_n hx hb dJ1_charAt_3b067_7 rfl (lv_at hl 1 rfl) ?_
  refine va_tb (v := .int (aL a)) hx hb (hZ.2.2.2.2.2.2.1.1 0 (by decide)).2.2.2 hS (vp_in_nI (show a < 32 by omega) (by decide)) (by rw [nI_clamp (by omega)]; rfl) dJ1_charAt_3b067_8 ?_
  refine lv_sipush (v := (nI 255)) hx hb dJ1_charAt_3b067_9 (by decide) ?_
  refine lv_iand hx hb dJ1_charAt_3b067_12 ?_
  refine lv_i2c hx hb dJ1_charAt_3b067_13 rfl ?_
  refine lv_rei (x' := aL a) (aL_char a ha) ?_
  exact endRz hx hb hr hlocks dJ1_charAt_3b067_14 (aL_nar a ha) (rfl)

set_option maxHeartbeats 4000000 in
set_option maxRecDepth 100000 in
/-- the constant is latin -/
theorem c_J0_isLatin1 (l : Launch) (g : gE)   : Met l yJ0_isLatin1_aae02 wsJ0_isLatin1_aae02 ({ frames := 0, cells := 0, slots := 0, locals := 0 }) (va_Pc [.ref (g.2.2 2)] (ro g [])) (vp_Si (fun r : Int32 => r = 1)) 0 0 nA := by
  refine ofRo (cc := cJ0_isLatin1_aae02) (maxL := 1) (ret := (some .boolean)) (by decide) rfl (Nat.le_of_ble_eq_true rfl) (fun p e s m below meth c hx hb hr hml hts hown hlocks hnm hP hK hZ hS ls hl => ?_)
  have hown : s.vm.findClass RJ0 = some m.cls := hown
  have hl : lv_has ls 1 [(0, .ref (g.2.2 2))] := hl
  have hiJ0 : ∀ w ∈ wsJ00, w ∈ wsJ0_isLatin1_aae02 := by decide +kernel
  refine va_gets hx hb hZ.2.2.2.2.1 hS hown (hts (.fieldLink RJ0 38 "java/lang/String" "COMPACT_STRINGS" "Z") (by decide +kernel)) (fun _ h9 => h9) dJ0_isLatin1_aae02_0 ?_
  refine lv_if_eq (tgt := 17) hx hb dJ0_isLatin1_aae02_3 (by decide) (fun c9 => absurd c9 (by decide)) (fun _ => ?_)
  refine lv_aload_n hx hb dJ0_isLatin1_aae02_6 rfl (lv_at hl 0 rfl) ?_
  refine vk_getf hx hb (hZ.2.2.2.2.2.2.1.1 0 (by decide)).2.1 hS hown (hts (.fieldLink RJ0 15 "java/lang/String" "coder" "B") (by decide +kernel)) (fun _ h9 => h9) dJ0_isLatin1_aae02_7 ?_
  refine lv_if_ne (tgt := 17) hx hb dJ0_isLatin1_aae02_10 (by decide) (fun c9 => absurd ((rfl : (0 : Int32) = 0)) c9) (fun _ => ?_)
  refine lv_iconst (v := (nI 1)) hx hb dJ0_isLatin1_aae02_13 (by decide) ?_
  refine lv_goto (tgt := 18) hx hb dJ0_isLatin1_aae02_14 (by decide) ?_
  exact endRz hx hb hr hlocks dJ0_isLatin1_aae02_18 (by decide) (rfl)

set_option maxHeartbeats 4000000 in
set_option maxRecDepth 100000 in
/-- its coder -/
theorem c_J0_coder (l : Launch) (g : gE)   : Met l yJ0_coder_7d493 wsJ0_coder_7d493 ({ frames := 0, cells := 0, slots := 0, locals := 0 }) (va_Pc [.ref (g.2.2 2)] (ro g [])) (vp_Si (fun r : Int32 => r = 0)) 0 0 nA := by
  refine ofRo (cc := cJ0_coder_7d493) (maxL := 1) (ret := (some .byte)) (by decide) rfl (Nat.le_of_ble_eq_true rfl) (fun p e s m below meth c hx hb hr hml hts hown hlocks hnm hP hK hZ hS ls hl => ?_)
  have hown : s.vm.findClass RJ0 = some m.cls := hown
  have hl : lv_has ls 1 [(0, .ref (g.2.2 2))] := hl
  have hiJ0 : ∀ w ∈ wsJ00, w ∈ wsJ0_coder_7d493 := by decide +kernel
  refine va_gets hx hb hZ.2.2.2.2.1 hS hown (hts (.fieldLink RJ0 38 "java/lang/String" "COMPACT_STRINGS" "Z") (by decide +kernel)) (fun _ h9 => h9) dJ0_coder_7d493_0 ?_
  refine lv_if_eq (tgt := 13) hx hb dJ0_coder_7d493_3 (by decide) (fun c9 => absurd c9 (by decide)) (fun _ => ?_)
  refine lv_aload_n hx hb dJ0_coder_7d493_6 rfl (lv_at hl 0 rfl) ?_
  refine vk_getf hx hb (hZ.2.2.2.2.2.2.1.1 0 (by decide)).2.1 hS hown (hts (.fieldLink RJ0 15 "java/lang/String" "coder" "B") (by decide +kernel)) (fun _ h9 => h9) dJ0_coder_7d493_7 ?_
  refine lv_goto (tgt := 14) hx hb dJ0_coder_7d493_10 (by decide) ?_
  exact endRz hx hb hr hlocks dJ0_coder_7d493_14 (by decide) (rfl)

set_option maxHeartbeats 4000000 in
set_option maxRecDepth 100000 in
/-- its length -/
theorem c_J0_length (l : Launch) (g : gE)   : Met l yJ0_length_8abf5 wsJ0_length_8abf5 ({ frames := 1, cells := 0, slots := 0, locals := 20 }) (va_Pc [.ref (g.2.2 2)] (ro g [])) (vp_Si (fun r : Int32 => r = nI 32)) 0 0 nA := by
  refine ofRo (cc := cJ0_length_8abf5) (maxL := 1) (ret := (some .int)) (by decide) rfl (Nat.le_of_ble_eq_true rfl) (fun p e s m below meth c hx hb hr hml hts hown hlocks hnm hP hK hZ hS ls hl => ?_)
  have hown : s.vm.findClass RJ0 = some m.cls := hown
  have hl : lv_has ls 1 [(0, .ref (g.2.2 2))] := hl
  have hiJ0 : ∀ w ∈ wsJ00, w ∈ wsJ0_length_8abf5 := by decide +kernel
  refine lv_aload_n hx hb dJ0_length_8abf5_0 rfl (lv_at hl 0 rfl) ?_
  refine vk_getf hx hb (hZ.2.2.2.2.2.2.1.1 0 (by decide)).2.2.1 hS hown (hts (.fieldLink RJ0 9 "java/lang/String" "value" "[B") (by decide +kernel)) (fun _ h9 => h9) dJ0_length_8abf5_1 ?_
  refine va_tlen (v := nI 32) hx hb (hZ.2.2.2.2.2.2.1.1 0 (by decide)).2.2.2 hS rfl dJ0_length_8abf5_4 ?_
  refine lv_aload_n hx hb dJ0_length_8abf5_5 rfl (lv_at hl 0 rfl) ?_
  refine cVi (rest := [.int (nI 32)]) ⟨hx, hb, hml, hown, hts⟩ [] (c_J0_coder l g ) (cwV 0 hts gJ0_length_8abf5_J0_coder_7d493 rfl rfl rfl (by decide +kernel) ⟨Nat.le_of_ble_eq_true rfl, Nat.le_of_ble_eq_true rfl⟩) hK hZ hS (subP hP [] rfl) (vk_recv (i := 0) hZ.2.2.2.2.2.2.1 (by decide) hS) rfl hl.1 rfl (Nat.le_of_ble_eq_true rfl) dJ0_length_8abf5_6 ⟨Nat.zero_le _, Nat.zero_le _⟩ (fun r_16 hr_16 => ?_)
  obtain rfl : r_16 = 0 := hr_16
  refine lv_ishr hx hb dJ0_length_8abf5_9 ?_
  exact endRi hx hb hr hlocks dJ0_length_8abf5_10 (by decide)

set_option maxHeartbeats 4000000 in
set_option maxRecDepth 100000 in
/-- its letter at a -/
theorem c_J0_charAt (l : Launch) (g : gE) (a : Nat) (ha : a < 32) : Met l yJ0_charAt_5068e wsJ0_charAt_5068e ({ frames := 3, cells := 0, slots := 0, locals := 64 }) (va_Pc [.ref (g.2.2 2), .int (nI a)] (ro g [])) (vp_Si (fun r : Int32 => r = aL a)) 0 0 nA := by
  refine ofRo (cc := cJ0_charAt_5068e) (maxL := 2) (ret := (some .char)) (by decide) rfl (Nat.le_of_ble_eq_true rfl) (fun p e s m below meth c hx hb hr hml hts hown hlocks hnm hP hK hZ hS ls hl => ?_)
  have hown : s.vm.findClass RJ0 = some m.cls := hown
  have hl : lv_has ls 2 [(0, .ref (g.2.2 2)), (1, .int (nI a))] := hl
  have hiJ0 : ∀ w ∈ wsJ00, w ∈ wsJ0_charAt_5068e := by decide +kernel
  refine lv_aload_n hx hb dJ0_charAt_5068e_0 rfl (lv_at hl 0 rfl) ?_
  refine cVi (rest := []) ⟨hx, hb, hml, hown, hts⟩ [] (c_J0_isLatin1 l g ) (cwV 0 hts gJ0_charAt_5068e_J0_isLatin1_aae02 rfl rfl rfl (by decide +kernel) ⟨Nat.le_of_ble_eq_true rfl, Nat.le_of_ble_eq_true rfl⟩) hK hZ hS (subP hP [] rfl) (vk_recv (i := 0) hZ.2.2.2.2.2.2.1 (by decide) hS) rfl hl.1 rfl (Nat.le_of_ble_eq_true rfl) dJ0_charAt_5068e_1 ⟨Nat.zero_le _, Nat.zero_le _⟩ (fun r_17 hr_17 => ?_)
  obtain rfl : r_17 = 1 := hr_17
  refine lv_if_eq (tgt := 16) hx hb dJ0_charAt_5068e_4 (by decide) (fun c9 => absurd c9 (by decide)) (fun _ => ?_)
  refine lv_aload_n hx hb dJ0_charAt_5068e_7 rfl (lv_at hl 0 rfl) ?_
  refine vk_getf hx hb (hZ.2.2.2.2.2.2.1.1 0 (by decide)).2.2.1 hS hown (hts (.fieldLink RJ0 9 "java/lang/String" "value" "[B") (by decide +kernel)) (fun _ h9 => h9) dJ0_charAt_5068e_8 ?_
  refine lv_iload_n hx hb dJ0_charAt_5068e_11 rfl (lv_at hl 1 rfl) ?_
  refine cSi (rest := []) ⟨hx, hb, hml, hown, hts⟩ [.ref (g.2.2 3), .int (nI a)] (c_J1_charAt l g (a := a) ha) (va_cwS 2 hts gJ0_charAt_5068e_J1_charAt_3b067 rfl rfl rfl (by decide +kernel) ⟨Nat.le_of_ble_eq_true rfl, Nat.le_of_ble_eq_true rfl⟩) hK hZ hS (subP hP [] rfl) rfl hl.1 rfl (Nat.le_of_ble_eq_true rfl) dJ0_charAt_5068e_12 ⟨Nat.zero_le _, Nat.zero_le _⟩ (fun r_18 hr_18 => ?_)
  obtain rfl : r_18 = aL a := hr_18
  exact endRz hx hb hr hlocks dJ0_charAt_5068e_15 (aL_nar a ha) (rfl)

set_option maxHeartbeats 4000000 in
set_option maxRecDepth 100000 in
/-- the letter of the low five bits -/
theorem c_X4_letterFor (l : Launch) (g : gE) (x : Int32)  : Met l yX4_letterFor wsX4_letterFor ({ frames := 4, cells := 0, slots := 0, locals := 85 }) (va_Pc [.int x] (ro g [])) (vp_Si (fun r : Int32 => r = aL (x.toBitVec.toNat % 32))) 0 0 nA := by
  refine ofRo (cc := cX4_letterFor) (maxL := 1) (ret := (some .int)) (by decide) rfl (Nat.le_of_ble_eq_true rfl) (fun p e s m below meth c hx hb hr hml hts hown hlocks hnm hP hK hZ hS ls hl => ?_)
  have hown : s.vm.findClass RX4 = some m.cls := hown
  have hl : lv_has ls 1 [(0, .int x)] := hl
  refine va_ldcS hx hb hown hK.2.2.2.2.1 dX4_letterFor_0 ?_
  refine lv_iload_n hx hb dX4_letterFor_2 rfl (lv_at hl 0 rfl) ?_
  refine lv_bipush (v := (nI 31)) hx hb dX4_letterFor_3 (by decide) ?_
  refine lv_iand hx hb dX4_letterFor_5 ?_
  refine lv_rei (x' := (nI (x.toBitVec.toNat % 32))) (pk_and x 5 (by decide)) ?_
  refine cVi (rest := []) ⟨hx, hb, hml, hown, hts⟩ [.int (nI (x.toBitVec.toNat % 32))] (c_J0_charAt l g (a := (x.toBitVec.toNat % 32)) (Nat.mod_lt _ (by decide))) (cwV 1 hts gX4_letterFor_J0_charAt_5068e rfl rfl rfl (by decide +kernel) ⟨Nat.le_of_ble_eq_true rfl, Nat.le_of_ble_eq_true rfl⟩) hK hZ hS (subP hP [] rfl) (vk_recv (i := 0) hZ.2.2.2.2.2.2.1 (by decide) hS) rfl hl.1 rfl (Nat.le_of_ble_eq_true rfl) dX4_letterFor_6 ⟨Nat.zero_le _, Nat.zero_le _⟩ (fun r_19 hr_19 => ?_)
  obtain rfl : r_19 = aL (x.toBitVec.toNat % 32) := hr_19
  exact endRi hx hb hr hlocks dX4_letterFor_9 (rfl)

set_option maxHeartbeats 4000000 in
set_option maxRecDepth 100000 in
/-- letter a -/
theorem c_X5_sign (l : Launch) (g : gE) (a : Nat) (ha : a < 32) : Met l yX5_sign wsX5_sign ({ frames := 4, cells := 0, slots := 0, locals := 85 }) (va_Pc [.int (nI a)] (ro g [])) (vp_Si (fun r : Int32 => r = aL a)) 0 0 nA := by
  refine ofRo (cc := cX5_sign) (maxL := 1) (ret := (some .int)) (by decide) rfl (Nat.le_of_ble_eq_true rfl) (fun p e s m below meth c hx hb hr hml hts hown hlocks hnm hP hK hZ hS ls hl => ?_)
  have hown : s.vm.findClass RX5 = some m.cls := hown
  have hl : lv_has ls 1 [(0, .int (nI a))] := hl
  refine va_ldcS hx hb hown hK.2.2.2.2.2 dX5_sign_0 ?_
  refine lv_iload_n hx hb dX5_sign_2 rfl (lv_at hl 0 rfl) ?_
  refine cVi (rest := []) ⟨hx, hb, hml, hown, hts⟩ [.int (nI a)] (c_J0_charAt l g (a := a) ha) (cwV 1 hts gX5_sign_J0_charAt_5068e rfl rfl rfl (by decide +kernel) ⟨Nat.le_of_ble_eq_true rfl, Nat.le_of_ble_eq_true rfl⟩) hK hZ hS (subP hP [] rfl) (vk_recv (i := 0) hZ.2.2.2.2.2.2.1 (by decide) hS) rfl hl.1 rfl (Nat.le_of_ble_eq_true rfl) dX5_sign_3 ⟨Nat.zero_le _, Nat.zero_le _⟩ (fun r_20 hr_20 => ?_)
  obtain rfl : r_20 = aL a := hr_20
  exact endRi hx hb hr hlocks dX5_sign_6 (rfl)

set_option maxHeartbeats 4000000 in
set_option maxRecDepth 100000 in
/-- which letter x is -/
theorem c_X4_worthOf (l : Launch) (g : gE) (x : Int32)  : Met l yX4_worthOf wsX4_worthOf ({ frames := 4, cells := 0, slots := 0, locals := 85 }) (va_Pc [.int x] (ro g [])) (vp_Si (fun r : Int32 => r = rW x)) 0 0 nA := by
  refine ofRo (cc := cX4_worthOf) (maxL := 2) (ret := (some .int)) (by decide) rfl (Nat.le_of_ble_eq_true rfl) (fun p e s m below meth c hx hb hr hml hts hown hlocks hnm hP hK hZ hS ls hl => ?_)
  have hown : s.vm.findClass RX4 = some m.cls := hown
  have hl : lv_has ls 2 [(0, .int x)] := hl
  refine lv_iconst (v := (nI 0)) hx hb dX4_worthOf_0 (by decide) ?_
  refine lv_istore_n (lv' := [(1, .int (nI 0)), (0, .int x)]) hx hb dX4_worthOf_1 rfl hl (by decide) rfl (fun ls hl => ?_)
  have L1 : ∀ (fu : Nat) (i : Nat), (33 ≤ i + fu) → (i ≤ 32) → (woG x (32 - i) i = wo x) → ∀ ls : Array Slot, lv_has ls 2 [(0, .int x), (1, .int (nI i))] → W p l e (headSpec wsX4_worthOf ({ frames := 4, cells := 0, slots := 0, locals := 85 } : Room)).room s m ([.int x] : List Value).toArray below meth c s.heap [] 0 0 (MQ below (vp_Si (fun r : Int32 => r = rW x)) ([.int x] : List Value).toArray s 0 0 nA) (F0 m 2 ls []) := by
    intro fu
    induction fu with
    | zero => intro i h1 h2 h3 ls hl; exact absurd h1 (by omega)
    | succ fu ihL1 =>
      intro i h1 h2 h3 ls hl
      refine lv_iload_n hx hb dX4_worthOf_2 rfl (lv_at hl 1 rfl) ?_
      refine va_ldcS hx hb hown hK.2.2.2.2.1 dX4_worthOf_3 ?_
      refine cVi (rest := [.int (nI i)]) ⟨hx, hb, hml, hown, hts⟩ [] (c_J0_length l g ) (cwV 0 hts gX4_worthOf_J0_length_8abf5 rfl rfl rfl (by decide +kernel) ⟨Nat.le_of_ble_eq_true rfl, Nat.le_of_ble_eq_true rfl⟩) hK hZ hS (subP hP [] rfl) (vk_recv (i := 0) hZ.2.2.2.2.2.2.1 (by decide) hS) rfl hl.1 rfl (Nat.le_of_ble_eq_true rfl) dX4_worthOf_5 ⟨Nat.zero_le _, Nat.zero_le _⟩ (fun r_21 hr_21 => ?_)
      obtain rfl : r_21 = nI 32 := hr_21
      refine lv_icmp_ge (tgt := 29) hx hb dX4_worthOf_8 (by decide) (fun c_22 => ?_) (fun c_22 => ?_)
      · refine lv_iconst (v := (-1)) hx hb dX4_worthOf_29 (by decide) ?_
        exact endRi hx hb hr hlocks dX4_worthOf_30 (by
                    have e : i = 32 := by rcases Nat.lt_or_ge i 32 with q | q; exact absurd c_22 (nI_ge q (by omega)); omega
                    subst e
                    have h4 : wo x = 32 := h3.symm
                    show (-1 : Int32) = rW x
                    unfold rW
                    rw [if_neg (by omega)])
      · have hi : i < 32 := by rcases Nat.lt_or_ge i 32 with q | q; exact q; exact absurd (nI_le q (by omega)) c_22
        refine va_ldcS hx hb hown hK.2.2.2.2.1 dX4_worthOf_11 ?_
        refine lv_iload_n hx hb dX4_worthOf_13 rfl (lv_at hl 1 rfl) ?_
        refine cVi (rest := []) ⟨hx, hb, hml, hown, hts⟩ [.int (nI i)] (c_J0_charAt l g (a := i) hi) (cwV 1 hts gX4_worthOf_J0_charAt_5068e rfl rfl rfl (by decide +kernel) ⟨Nat.le_of_ble_eq_true rfl, Nat.le_of_ble_eq_true rfl⟩) hK hZ hS (subP hP [] rfl) (vk_recv (i := 0) hZ.2.2.2.2.2.2.1 (by decide) hS) rfl hl.1 rfl (Nat.le_of_ble_eq_true rfl) dX4_worthOf_14 ⟨Nat.zero_le _, Nat.zero_le _⟩ (fun r_23 hr_23 => ?_)
        obtain rfl : r_23 = aL i := hr_23
        refine lv_iload_n hx hb dX4_worthOf_17 rfl (lv_at hl 0 rfl) ?_
        have h5 : woG x (32 - i) i = if aL i = x then i else woG x (32 - (i + 1)) (i + 1) := by rw [show 32 - i = (32 - (i + 1)) + 1 by omega]; rfl
        refine lv_icmp_ne (tgt := 23) hx hb dX4_worthOf_18 (by decide) (fun c_24 => ?_) (fun c_24 => ?_)
        · refine lv_iinc (v := (nI (i + 1))) (lv' := [(1, .int (nI (i + 1))), (0, .int x)]) hx hb dX4_worthOf_23 hl (k := 1) rfl (nI_1 _) (by decide) rfl (fun ls hl => ?_)
          refine lv_goto (tgt := 2) hx hb dX4_worthOf_26 (by decide) ?_
          exact ihL1 (i + 1) (by omega) (by omega) (by rw [← h3, h5, if_neg c_24]) ls (lv_sub hl [1, 0] rfl)
        · refine lv_iload_n hx hb dX4_worthOf_21 rfl (lv_at hl 1 rfl) ?_
          exact endRi hx hb hr hlocks dX4_worthOf_22 (by
                        rw [if_pos c_24] at h5
                        have h4 : wo x = i := by rw [← h3, h5]
                        show nI i = rW x
                        unfold rW
                        rw [h4, if_pos hi])
  exact L1 33 0 (by omega) (by omega) (rfl) ls (lv_sub hl [1, 0] rfl)

set_option maxHeartbeats 4000000 in
set_option maxRecDepth 100000 in
/-- which letter x is -/
theorem c_X5_valueOf (l : Launch) (g : gE) (x : Int32)  : Met l yX5_valueOf wsX5_valueOf ({ frames := 5, cells := 0, slots := 0, locals := 105 }) (va_Pc [.int x] (ro g [])) (vp_Si (fun r : Int32 => r = rW x)) 0 0 nA := by
  refine ofRo (cc := cX5_valueOf) (maxL := 2) (ret := (some .int)) (by decide) rfl (Nat.le_of_ble_eq_true rfl) (fun p e s m below meth c hx hb hr hml hts hown hlocks hnm hP hK hZ hS ls hl => ?_)
  have hown : s.vm.findClass RX5 = some m.cls := hown
  have hl : lv_has ls 2 [(0, .int x)] := hl
  refine lv_iconst (v := (nI 0)) hx hb dX5_valueOf_0 (by decide) ?_
  refine lv_istore_n (lv' := [(1, .int (nI 0)), (0, .int x)]) hx hb dX5_valueOf_1 rfl hl (by decide) rfl (fun ls hl => ?_)
  have L1 : ∀ (fu : Nat) (i : Nat), (33 ≤ i + fu) → (i ≤ 32) → (woG x (32 - i) i = wo x) → ∀ ls : Array Slot, lv_has ls 2 [(0, .int x), (1, .int (nI i))] → W p l e (headSpec wsX5_valueOf ({ frames := 5, cells := 0, slots := 0, locals := 105 } : Room)).room s m ([.int x] : List Value).toArray below meth c s.heap [] 0 0 (MQ below (vp_Si (fun r : Int32 => r = rW x)) ([.int x] : List Value).toArray s 0 0 nA) (F0 m 2 ls []) := by
    intro fu
    induction fu with
    | zero => intro i h1 h2 h3 ls hl; exact absurd h1 (by omega)
    | succ fu ihL1 =>
      intro i h1 h2 h3 ls hl
      refine lv_iload_n hx hb dX5_valueOf_2 rfl (lv_at hl 1 rfl) ?_
      refine lv_bipush (v := (nI 32)) hx hb dX5_valueOf_3 (by decide) ?_
      refine lv_icmp_ge (tgt := 24) hx hb dX5_valueOf_5 (by decide) (fun c_25 => ?_) (fun c_25 => ?_)
      · refine lv_iconst (v := (-1)) hx hb dX5_valueOf_24 (by decide) ?_
        exact endRi hx hb hr hlocks dX5_valueOf_25 (by
                    have e : i = 32 := by rcases Nat.lt_or_ge i 32 with q | q; exact absurd c_25 (nI_ge q (by omega)); omega
                    subst e
                    have h4 : wo x = 32 := h3.symm
                    show (-1 : Int32) = rW x
                    unfold rW
                    rw [if_neg (by omega)])
      · have hi : i < 32 := by rcases Nat.lt_or_ge i 32 with q | q; exact q; exact absurd (nI_le q (by omega)) c_25
        refine lv_iload_n hx hb dX5_valueOf_8 rfl (lv_at hl 1 rfl) ?_
        refine cSi (rest := []) ⟨hx, hb, hml, hown, hts⟩ [.int (nI i)] (c_X5_sign l g (a := i) hi) (va_cwS 1 hts gX5_valueOf_X5_sign rfl rfl rfl (by decide +kernel) ⟨Nat.le_of_ble_eq_true rfl, Nat.le_of_ble_eq_true rfl⟩) hK hZ hS (subP hP [] rfl) rfl hl.1 rfl (Nat.le_of_ble_eq_true rfl) dX5_valueOf_9 ⟨Nat.zero_le _, Nat.zero_le _⟩ (fun r_26 hr_26 => ?_)
        obtain rfl : r_26 = aL i := hr_26
        refine lv_iload_n hx hb dX5_valueOf_12 rfl (lv_at hl 0 rfl) ?_
        have h5 : woG x (32 - i) i = if aL i = x then i else woG x (32 - (i + 1)) (i + 1) := by rw [show 32 - i = (32 - (i + 1)) + 1 by omega]; rfl
        refine lv_icmp_ne (tgt := 18) hx hb dX5_valueOf_13 (by decide) (fun c_27 => ?_) (fun c_27 => ?_)
        · refine lv_iinc (v := (nI (i + 1))) (lv' := [(1, .int (nI (i + 1))), (0, .int x)]) hx hb dX5_valueOf_18 hl (k := 1) rfl (nI_1 _) (by decide) rfl (fun ls hl => ?_)
          refine lv_goto (tgt := 2) hx hb dX5_valueOf_21 (by decide) ?_
          exact ihL1 (i + 1) (by omega) (by omega) (by rw [← h3, h5, if_neg c_27]) ls (lv_sub hl [1, 0] rfl)
        · refine lv_iload_n hx hb dX5_valueOf_16 rfl (lv_at hl 1 rfl) ?_
          exact endRi hx hb hr hlocks dX5_valueOf_17 (by
                        rw [if_pos c_27] at h5
                        have h4 : wo x = i := by rw [← h3, h5]
                        show nI i = rW x
                        unfold rW
                        rw [h4, if_pos hi])
  exact L1 33 0 (by omega) (by omega) (rfl) ls (lv_sub hl [1, 0] rfl)
end
section
/-! the digest, in numbers: message bytes, message words, stretched words, rounds -/
/-- a byte as 0 .. 255 -/
def by8 (x : Int32) : Nat := x.toBitVec.toNat % 256
/-- byte a of the message block: the key's bytes, the seven of the 55 bits, 128, zeros -/
def mb (f : Nat → Int32) (sz N a : Nat) : Nat := if a < sz then by8 (f a) else if a - sz < 7 then 2 * N / 2 ^ (48 - 8 * (a - sz)) % 256 else if a - sz = 7 then 128 else 0
/-- four bytes side by side -/
def m4 (f : Nat → Int32) (sz N t : Nat) : Nat := ((mb f sz N (4 * t) * 256 + mb f sz N (4 * t + 1)) * 256 + mb f sz N (4 * t + 2)) * 256 + mb f sz N (4 * t + 3)
/-- word t of the block -/
def mW (f : Nat → Int32) (sz N t : Nat) : Int32 := if t < 14 then nI (m4 f sz N t) else if t = 15 then nI (8 * (sz + 7)) else 0
/-- a stretched word out of the sixteen ahead of it -/
def stE (f : Nat → Int32) (t : Nat) : Int32 := ((f (t - 16) + ((rorE (f (t - 15)) (nI 7) ^^^ rorE (f (t - 15)) (nI 18)) ^^^ ((f (t - 15)).toUInt32 >>> ((nI 3).toUInt32 &&& Int32.toUInt32 31)).toInt32)) + f (t - 7)) + ((rorE (f (t - 2)) (nI 17) ^^^ rorE (f (t - 2)) (nI 19)) ^^^ ((f (t - 2)).toUInt32 >>> ((nI 10).toUInt32 &&& Int32.toUInt32 31)).toInt32)
def wF (f : Nat → Int32) : Nat → (Nat → Int32)
  | 0 => f
  | n + 1 => upd (wF f n) (16 + n) (stE (wF f n) (16 + n))
theorem stE_cong {f f' : Nat → Int32} {t : Nat} (ht : 16 ≤ t) (h : ∀ j, j < t → f j = f' j) : stE f t = stE f' t := by
  unfold stE
  rw [h (t - 16) (by omega), h (t - 15) (by omega), h (t - 7) (by omega), h (t - 2) (by omega)]
/-- a row that holds the stretched words so far holds one more when the next is put -/
theorem wF_step {f f' : Nat → Int32} {n : Nat} (h : ∀ j, j < 16 + n → f' j = wF f n j) : ∀ j, j < 16 + (n + 1) → upd f' (16 + n) (stE f' (16 + n)) j = wF f (n + 1) j := by
  intro j hj
  rw [wF]
  by_cases e : j = 16 + n
  · subst e
    simp only [upd, if_true]
    exact stE_cong (by omega) h
  · simp only [upd, if_neg e]
    exact h j (by omega)
theorem wF_cong {f f' : Nat → Int32} (h : ∀ j, j < 16 → f j = f' j) : ∀ n j, j < 16 + n → wF f n j = wF f' n j
  | 0, j, hj => h j (by omega)
  | n + 1, j, hj => by
    rw [wF, wF]
    have ih := wF_cong h n
    by_cases e : j = 16 + n
    · subst e
      simp only [upd, if_true]
      exact stE_cong (by omega) ih
    · simp only [upd, if_neg e]
      exact ih j (by omega)
/-- a round -/
def rU (k w : Int32) (st : Nat → Int32) : Int32 := (((st 7 + ((rorE (st 4) (nI 6) ^^^ rorE (st 4) (nI 11)) ^^^ rorE (st 4) (nI 25))) + ((st 4 &&& st 5) ^^^ ((st 4 ^^^ (-1)) &&& st 6))) + k) + w
def rV (st : Nat → Int32) : Int32 := ((rorE (st 0) (nI 2) ^^^ rorE (st 0) (nI 13)) ^^^ rorE (st 0) (nI 22)) + (((st 0 &&& st 1) ^^^ (st 0 &&& st 2)) ^^^ (st 1 &&& st 2))
def rnd (k w : Int32) (st : Nat → Int32) (j : Nat) : Int32 := if j = 0 then rU k w st + rV st else if j = 4 then st 3 + rU k w st else st (j - 1)
def rN (W : Nat → Int32) : Nat → (Nat → Int32)
  | 0 => sBeg
  | t + 1 => rnd (sK t) (W t) (rN W t)
theorem rN_cong {W W' : Nat → Int32} {n : Nat} (h : ∀ j, j < n → W j = W' j) : ∀ t, t ≤ n → rN W t = rN W' t
  | 0, _ => rfl
  | t + 1, ht => by rw [rN, rN, rN_cong h t (by omega), h t (by omega)]
/-- number j of the digest -/
def dG (f : Nat → Int32) (sz N j : Nat) : Int32 := sBeg j + rN (wF (mW f sz N) 48) 64 j
theorem by8_lt (x : Int32) : by8 x < 256 := Nat.mod_lt _ (by decide)
theorem mb_lt (f : Nat → Int32) (sz N a : Nat) : mb f sz N a < 256 := by
  unfold mb
  split
  · exact by8_lt _
  · split
    · exact Nat.mod_lt _ (by decide)
    · split <;> omega
theorem mb_cong {f f' : Nat → Int32} {sz N a : Nat} (h : ∀ j, j < sz → by8 (f j) = by8 (f' j)) : mb f sz N a = mb f' sz N a := by
  unfold mb
  split
  · rename_i q; exact h a q
  · rfl
theorem m4_cong {f f' : Nat → Int32} {sz N t : Nat} (h : ∀ j, j < sz → by8 (f j) = by8 (f' j)) : m4 f sz N t = m4 f' sz N t := by
  unfold m4
  rw [mb_cong h, mb_cong h, mb_cong h, mb_cong h]
theorem mW_cong {f f' : Nat → Int32} {sz N t : Nat} (h : ∀ j, j < sz → by8 (f j) = by8 (f' j)) : mW f sz N t = mW f' sz N t := by
  unfold mW
  rw [m4_cong h]
theorem dG_cong {f f' : Nat → Int32} {sz N j : Nat} (h : ∀ j, j < sz → by8 (f j) = by8 (f' j)) : dG f sz N j = dG f' sz N j := by
  unfold dG
  rw [rN_cong (n := 64) (fun j hj => wF_cong (fun j _ => mW_cong h) 48 j (by omega)) 64 (Nat.le_refl _)]
theorem m4_lt (f : Nat → Int32) (sz N t : Nat) : m4 f sz N t < 4294967296 := by
  have h0 := mb_lt f sz N (4 * t)
  have h1 := mb_lt f sz N (4 * t + 1)
  have h2 := mb_lt f sz N (4 * t + 2)
  have h3 := mb_lt f sz N (4 * t + 3)
  unfold m4
  omega
/-! numbers of 32 and 64 bits as natural numbers -/
theorem tb_n {n : Nat} (h : n < 4294967296) : (nI n).toBitVec.toNat = n := pk_tn (by omega)
theorem nI_inj {a b : Int32} (h : a.toBitVec.toNat = b.toBitVec.toNat) : a = b := by
  apply Int32.toBitVec_inj.mp
  exact BitVec.eq_of_toNat_eq h
theorem nI_of32 (x : Int32) : x = nI x.toBitVec.toNat := nI_inj (by rw [tb_n (x.toBitVec.isLt)])
theorem and255 (x : Int32) : (x &&& nI 255) = nI (by8 x) := pk_and x 8 (by decide)
theorem andN {n : Nat} (k : Nat) {mk : Nat} (hn : n < 4294967296) (hk : mk = 2 ^ k - 1) (hm : mk < 4294967296) : (nI n &&& nI mk) = nI (n % 2 ^ k) := pk_andN (by omega) k (by rw [tb_n hm, hk])
theorem orN (a b : Nat) : nI a ||| nI b = nI (a ||| b) := by
  apply Int32.toBitVec_inj.1
  show BitVec.ofNat 32 a ||| BitVec.ofNat 32 b = BitVec.ofNat 32 (a ||| b)
  apply BitVec.eq_of_getLsbD_eq
  intro i hi
  simp [hi]
theorem orS {a k : Nat} (b : Nat) (h : a < 2 ^ k) : nI (2 ^ k * b) ||| nI a = nI (2 ^ k * b + a) := by rw [orN, Nat.two_pow_add_eq_or_of_lt h]
/-- shifted left by eight, a byte put in -/
theorem shl8or {a b : Nat} (ha : a < 16777216) (hb : b < 256) : ((nI a <<< (nI 8 &&& 31)) ||| nI b) = nI (a * 256 + b) := by
  rw [pk_shlN (nI 8 &&& 31) 8 (by decide) (by omega), show a * 2 ^ 8 = 2 ^ 8 * a by omega, orS a (show b < 2 ^ 8 by omega), show 2 ^ 8 * a + b = a * 256 + b by omega]
/-- longs -/
theorem lN_inj {a b : Int64} (h : a.toBitVec.toNat = b.toBitVec.toNat) : a = b := by
  apply Int64.toBitVec_inj.mp
  exact BitVec.eq_of_toNat_eq h
theorem lb_n {n : Nat} (h : n < 18446744073709551616) : (lN n).toBitVec.toNat = n := by
  show (BitVec.ofNat 64 n).toNat = n
  rw [BitVec.toNat_ofNat]
  exact Nat.mod_eq_of_lt (by omega)
theorem lcu : ∀ k, k < 64 → ((nI k).toInt64.toUInt64 &&& Int64.toUInt64 63) = UInt64.ofNat k := by decide
theorem lcs : ∀ k, k < 64 → ((nI k).toInt64 &&& 63) = lN k := by decide
theorem lsm : ∀ k, k < 64 → (BitVec.ofNat 64 k).smod 64 = BitVec.ofNat 64 k := by decide
/-- a long shifted right, zeros come in -/
theorem l_ushr {n k : Nat} (hn : n < 18446744073709551616) (hk : k < 64) : ((lN n).toUInt64 >>> ((nI k).toInt64.toUInt64 &&& Int64.toUInt64 63)).toInt64 = lN (n / 2 ^ k) := by
  rw [lcu k hk]
  apply lN_inj
  have h1 : n / 2 ^ k ≤ n := Nat.div_le_self _ _
  rw [lb_n (by omega)]
  show ((BitVec.ofNat 64 n) >>> ((BitVec.ofNat 64 k) % 64)).toNat = n / 2 ^ k
  rw [BitVec.ushiftRight_eq', BitVec.toNat_ushiftRight, Nat.shiftRight_eq_div_pow]
  have h2 : ((BitVec.ofNat 64 k) % (64 : BitVec 64)).toNat = k := by
    rw [BitVec.toNat_umod, BitVec.toNat_ofNat]
    show k % 2 ^ 64 % 64 = k
    rw [Nat.mod_eq_of_lt (show k < 2 ^ 64 by omega), Nat.mod_eq_of_lt hk]
  rw [h2, BitVec.toNat_ofNat, Nat.mod_eq_of_lt (by omega)]
theorem l_i {n : Nat} : (lN n).toInt32 = nI n := lN_i n
/-- a long shifted left -/
theorem l_shl {n k : Nat} (hk : k < 64) (hn : n * 2 ^ k < 18446744073709551616) : lN n <<< ((nI k).toInt64 &&& 63) = lN (n * 2 ^ k) := by
  rw [lcs k hk]
  have h0 : n ≤ n * 2 ^ k := Nat.le_mul_of_pos_right n (Nat.two_pow_pos k)
  apply lN_inj
  rw [lb_n hn]
  show ((BitVec.ofNat 64 n) <<< ((BitVec.ofNat 64 k).smod 64)).toNat = n * 2 ^ k
  rw [lsm k hk, BitVec.shiftLeft_eq', BitVec.toNat_shiftLeft, BitVec.toNat_ofNat, BitVec.toNat_ofNat, Nat.shiftLeft_eq, Nat.mod_eq_of_lt (show k < 2 ^ 64 by omega), Nat.mod_eq_of_lt (show n < 2 ^ 64 by omega), Nat.mod_eq_of_lt (by omega)]
theorem lorN (a b : Nat) : lN a ||| lN b = lN (a ||| b) := by
  apply Int64.toBitVec_inj.1
  show BitVec.ofNat 64 a ||| BitVec.ofNat 64 b = BitVec.ofNat 64 (a ||| b)
  apply BitVec.eq_of_getLsbD_eq
  intro i hi
  simp [hi]
theorem lorS {a k : Nat} (b : Nat) (h : a < 2 ^ k) : lN (2 ^ k * b) ||| lN a = lN (2 ^ k * b + a) := by rw [lorN, Nat.two_pow_add_eq_or_of_lt h]
theorem landG (a b : Nat) : lN a &&& lN b = lN (a &&& b) := by
  apply Int64.toBitVec_inj.1
  show BitVec.ofNat 64 a &&& BitVec.ofNat 64 b = BitVec.ofNat 64 (a &&& b)
  apply BitVec.eq_of_getLsbD_eq
  intro i hi
  simp [hi]
theorem landN {n : Nat} (k : Nat) : lN n &&& lN (2 ^ k - 1) = lN (n % 2 ^ k) := by rw [landG, Nat.and_two_pow_sub_one_eq_mod]
theorem nI_L {n : Nat} (h : n < 2147483648) : (nI n).toInt64 = lN n := nI_l (by omega)
/-- the byte of the 55 bits and a bit 0, as the class cuts it -/
theorem cutB {N b : Nat} (hN : N < 36028797018963968) (hb : b < 7) : ((((lN N <<< ((nI 1).toInt64 &&& 63))).toUInt64 >>> ((nI (48 - 8 * b)).toInt64.toUInt64 &&& Int64.toUInt64 63)).toInt64.toInt32 &&& nI 255) = nI (2 * N / 2 ^ (48 - 8 * b) % 256) := by
  rw [l_shl (by decide) (by omega), l_ushr (by omega) (by omega), l_i, and255, by8]
  show nI ((BitVec.ofNat 32 (N * 2 ^ 1 / 2 ^ (48 - 8 * b))).toNat % 256) = _
  rw [BitVec.toNat_ofNat, Nat.mod_mod_of_dvd _ (by decide), show N * 2 ^ 1 = 2 * N by omega]
end
section
/-- a number's first 25 bits -/
def fB (x : Int32) : Int32 := (x.toUInt32 >>> ((nI 7).toUInt32 &&& Int32.toUInt32 31)).toInt32
/-- eight bits of a number, as a byte -/
def oB (x : Int32) (n : Nat) : Int32 := ((x.toUInt32 >>> ((nI n).toUInt32 &&& Int32.toUInt32 31)).toInt32).toInt8.toInt32
theorem rn_0 (W : Nat → Int32) (t : Nat) : rU (sK t) (W t) (rN W t) + rV (rN W t) = rN W (t + 1) 0 := rfl
theorem rn_4 (W : Nat → Int32) (t : Nat) : rN W t 3 + rU (sK t) (W t) (rN W t) = rN W (t + 1) 4 := rfl
theorem rn_1 (W : Nat → Int32) (t : Nat) : rN W t 0 = rN W (t + 1) 1 := rfl
theorem rn_2 (W : Nat → Int32) (t : Nat) : rN W t 1 = rN W (t + 1) 2 := rfl
theorem rn_3 (W : Nat → Int32) (t : Nat) : rN W t 2 = rN W (t + 1) 3 := rfl
theorem rn_5 (W : Nat → Int32) (t : Nat) : rN W t 4 = rN W (t + 1) 5 := rfl
theorem rn_6 (W : Nat → Int32) (t : Nat) : rN W t 5 = rN W (t + 1) 6 := rfl
theorem rn_7 (W : Nat → Int32) (t : Nat) : rN W t 6 = rN W (t + 1) 7 := rfl
theorem accS {F fs G : Nat → Int32} {k : Nat} {x : Int32} (h : ∀ j, j < 8 → F j = if j < k then G j else fs j) (hx : x = G k) : ∀ j, j < 8 → upd F k x j = if j < k + 1 then G j else fs j := by
  intro j hj
  unfold upd
  by_cases e : j = k
  · subst e
    rw [if_pos rfl, if_pos (by omega), hx]
  · rw [if_neg e, h j hj]
    by_cases q : j < k
    · rw [if_pos q, if_pos (by omega)]
    · rw [if_neg q, if_neg (by omega)]
theorem fillS {F G : Nat → Int32} {k : Nat} {x : Int32} (h : ∀ j, j < k → F j = G j) (hx : x = G k) : ∀ j, j < k + 1 → upd F k x j = G j := by
  intro j hj
  unfold upd
  by_cases e : j = k
  · subst e
    rw [if_pos rfl, hx]
  · rw [if_neg e]
    exact h j (by omega)
set_option maxHeartbeats 4000000 in
set_option maxRecDepth 100000 in
/-- byte a of the block -/
theorem c_X0_blockByte (l : Launch) (g : gE) (k kb : Nat) (fr un cl : Int32) (f : Nat → Int32) (sz N : Nat) (a : Nat) (hz : sz ≤ 32) (hN : N < 36028797018963968) (ha : a < 56) : Met l yX0_blockByte wsX0_blockByte ({ frames := 1, cells := 0, slots := 0, locals := 21 }) (va_Pc [.ref k, .long (lN N), .int (nI a)] (ro g [(k, .inr (3, [.int fr, .int un, .ref kb, .int (nI sz), .int cl])), (kb, .inl (g.2.1 1, 32, .inl f))])) (vp_Si (fun r : Int32 => r = nI (mb f sz N a))) 0 0 nA := by
  refine ofRo (cc := cX0_blockByte) (maxL := 5) (ret := (some .int)) (by decide) rfl (Nat.le_of_ble_eq_true rfl) (fun p e s m below meth c hx hb hr hml hts hown hlocks hnm hP hK hZ hS ls hl => ?_)
  have hown : s.vm.findClass RX0 = some m.cls := hown
  have hl : lv_has ls 5 [(0, .ref k), (1, .long (lN N)), (3, .int (nI a))] := hl
  refine lv_iload_n hx hb dX0_blockByte_0 rfl (lv_at hl 2 rfl) ?_
  refine lv_aload_n hx hb dX0_blockByte_1 rfl (lv_at hl 0 rfl) ?_
  refine cVi (rest := [.int (nI a)]) ⟨hx, hb, hml, hown, hts⟩ [] (c_X2_size l g (k := k) (kb := kb) (fr := fr) (un := un) (cn := (nI sz)) (cl := cl)) (cwV 0 hts gX0_blockByte_X2_size rfl rfl rfl (by decide +kernel) ⟨Nat.le_of_ble_eq_true rfl, Nat.le_of_ble_eq_true rfl⟩) hK hZ hS (subP hP [0] rfl) (va_recv hK.1 hP (ci := 3) (q0 := 0) rfl rfl) rfl hl.1 rfl (Nat.le_of_ble_eq_true rfl) dX0_blockByte_2 ⟨Nat.zero_le _, Nat.zero_le _⟩ (fun r_28 hr_28 => ?_)
  obtain rfl : r_28 = (nI sz) := hr_28
  rcases Nat.lt_or_ge a sz with q | q
  · refine lv_isub hx hb dX0_blockByte_5 ?_
    refine lv_istore (lv' := [(4, .int ((nI a) - (nI sz))), (0, .ref k), (1, .long (lN N)), (3, .int (nI a))]) hx hb dX0_blockByte_6 hl (by decide) rfl (fun ls hl => ?_)
    refine lv_iload hx hb dX0_blockByte_8 (lv_at hl 0 rfl) ?_
    refine lv_if_ge (tgt := 19) hx hb dX0_blockByte_10 (by decide) (fun c9 => absurd c9 (nle0 (pk_sneg (by omega) q))) (fun _ => ?_)
    refine lv_aload_n hx hb dX0_blockByte_13 rfl (lv_at hl 1 rfl) ?_
    refine lv_iload_n hx hb dX0_blockByte_14 rfl (lv_at hl 3 rfl) ?_
    refine cVi (rest := []) ⟨hx, hb, hml, hown, hts⟩ [.int (nI a)] (c_X2_octetAt l g (k := k) (kb := kb) (fr := fr) (un := un) (cn := (nI sz)) (cl := cl) (f := f) (i := a) (by omega)) (cwV 1 hts gX0_blockByte_X2_octetAt rfl rfl rfl (by decide +kernel) ⟨Nat.le_of_ble_eq_true rfl, Nat.le_of_ble_eq_true rfl⟩) hK hZ hS (subP hP [0, 1] rfl) (va_recv hK.1 hP (ci := 3) (q0 := 0) rfl rfl) rfl hl.1 rfl (Nat.le_of_ble_eq_true rfl) dX0_blockByte_15 ⟨Nat.zero_le _, Nat.zero_le _⟩ (fun r_29 hr_29 => ?_)
    obtain rfl : r_29 = (f a &&& nI 255) := hr_29
    exact endRi hx hb hr hlocks dX0_blockByte_18 (by rw [and255]; unfold mb; rw [if_pos q])
  · refine lv_isub hx hb dX0_blockByte_5 ?_
    refine lv_rei (x' := (nI (a - sz))) (pk_sub q) ?_
    refine lv_istore (lv' := [(4, .int (nI (a - sz))), (0, .ref k), (1, .long (lN N)), (3, .int (nI a))]) hx hb dX0_blockByte_6 hl (by decide) rfl (fun ls hl => ?_)
    refine lv_iload hx hb dX0_blockByte_8 (lv_at hl 0 rfl) ?_
    refine lv_if_ge (tgt := 19) hx hb dX0_blockByte_10 (by decide) (fun _ => ?_) (fun c9 => absurd (nI_pos' (by omega)) c9)
    refine lv_iload hx hb dX0_blockByte_19 (lv_at hl 0 rfl) ?_
    refine lv_bipush (v := (nI 7)) hx hb dX0_blockByte_21 (by decide) ?_
    rcases Nat.lt_or_ge (a - sz) 7 with q2 | q2
    · refine lv_icmp_ge (tgt := 44) hx hb dX0_blockByte_23 (by decide) (fun c9 => absurd c9 (nI_ge q2 (by omega))) (fun _ => ?_)
      refine lv_lload_n hx hb dX0_blockByte_26 rfl (lv_at hl 2 rfl) ?_
      refine lv_iconst (v := (nI 1)) hx hb dX0_blockByte_27 (by decide) ?_
      refine lv_lshl hx hb dX0_blockByte_28 rfl ?_
      refine lv_bipush (v := (nI 48)) hx hb dX0_blockByte_29 (by decide) ?_
      refine lv_bipush (v := (nI 8)) hx hb dX0_blockByte_31 (by decide) ?_
      refine lv_iload hx hb dX0_blockByte_33 (lv_at hl 0 rfl) ?_
      refine lv_imul hx hb dX0_blockByte_35 ?_
      refine lv_rei (x' := (nI (8 * (a - sz)))) (pk_mul _ _) ?_
      refine lv_isub hx hb dX0_blockByte_36 ?_
      refine lv_rei (x' := (nI (48 - 8 * (a - sz)))) (pk_sub (by omega)) ?_
      refine lv_lushr hx hb dX0_blockByte_37 rfl ?_
      refine lv_l2i hx hb dX0_blockByte_38 rfl ?_
      refine lv_sipush (v := (nI 255)) hx hb dX0_blockByte_39 (by decide) ?_
      refine lv_iand hx hb dX0_blockByte_42 ?_
      exact endRi hx hb hr hlocks dX0_blockByte_43 (by rw [cutB hN q2]; unfold mb; rw [if_neg (by omega), if_pos q2])
    · refine lv_icmp_ge (tgt := 44) hx hb dX0_blockByte_23 (by decide) (fun _ => ?_) (fun c9 => absurd (nI_le q2 (by omega)) c9)
      refine lv_iload hx hb dX0_blockByte_44 (lv_at hl 0 rfl) ?_
      refine lv_bipush (v := (nI 7)) hx hb dX0_blockByte_46 (by decide) ?_
      by_cases q3 : a - sz = 7
      · refine lv_icmp_ne (tgt := 57) hx hb dX0_blockByte_48 (by decide) (fun c9 => absurd (by rw [q3]) c9) (fun _ => ?_)
        refine lv_sipush (v := (nI 128)) hx hb dX0_blockByte_51 (by decide) ?_
        refine lv_goto (tgt := 58) hx hb dX0_blockByte_54 (by decide) ?_
        exact endRi hx hb hr hlocks dX0_blockByte_58 (by unfold mb; rw [if_neg (by omega), if_neg (by omega), if_pos q3])
      · refine lv_icmp_ne (tgt := 57) hx hb dX0_blockByte_48 (by decide) (fun _ => ?_) (fun c9 => absurd c9 (fun z => q3 ((nI_eq (by omega) (by omega)).mp z)))
        refine lv_iconst (v := (nI 0)) hx hb dX0_blockByte_57 (by decide) ?_
        exact endRi hx hb hr hlocks dX0_blockByte_58 (by unfold mb; rw [if_neg (by omega), if_neg (by omega), if_neg q3])

set_option maxHeartbeats 4000000 in
set_option maxRecDepth 100000 in
/-- word t of the block -/
theorem c_X0_numberOf (l : Launch) (g : gE) (k kb : Nat) (fr un cl : Int32) (f : Nat → Int32) (sz N : Nat) (t : Nat) (hz : sz ≤ 32) (hN : N < 36028797018963968) (ht : t < 14) : Met l yX0_numberOf wsX0_numberOf ({ frames := 2, cells := 0, slots := 0, locals := 45 }) (va_Pc [.ref k, .long (lN N), .int (nI (4 * t))] (ro g [(k, .inr (3, [.int fr, .int un, .ref kb, .int (nI sz), .int cl])), (kb, .inl (g.2.1 1, 32, .inl f))])) (vp_Si (fun r : Int32 => r = nI (m4 f sz N t))) 0 0 nA := by
  refine ofRo (cc := cX0_numberOf) (maxL := 6) (ret := (some .int)) (by decide) rfl (Nat.le_of_ble_eq_true rfl) (fun p e s m below meth c hx hb hr hml hts hown hlocks hnm hP hK hZ hS ls hl => ?_)
  have hown : s.vm.findClass RX0 = some m.cls := hown
  have hl : lv_has ls 6 [(0, .ref k), (1, .long (lN N)), (3, .int (nI (4 * t)))] := hl
  have g0 := mb_lt f sz N (4 * t)
  have g1 := mb_lt f sz N (4 * t + 1)
  have g2 := mb_lt f sz N (4 * t + 2)
  have g3 := mb_lt f sz N (4 * t + 3)
  refine lv_iconst (v := (nI 0)) hx hb dX0_numberOf_0 (by decide) ?_
  refine lv_istore (lv' := [(4, .int (nI 0)), (0, .ref k), (1, .long (lN N)), (3, .int (nI (4 * t)))]) hx hb dX0_numberOf_1 hl (by decide) rfl (fun ls hl => ?_)
  refine lv_iload_n hx hb dX0_numberOf_3 rfl (lv_at hl 3 rfl) ?_
  refine lv_istore (lv' := [(5, .int (nI (4 * t))), (4, .int (nI 0)), (0, .ref k), (1, .long (lN N)), (3, .int (nI (4 * t)))]) hx hb dX0_numberOf_4 hl (by decide) rfl (fun ls hl => ?_)
  refine lv_iload hx hb dX0_numberOf_6 (lv_at hl 0 rfl) ?_
  refine lv_iload_n hx hb dX0_numberOf_8 rfl (lv_at hl 4 rfl) ?_
  refine lv_iconst (v := (nI 4)) hx hb dX0_numberOf_9 (by decide) ?_
  refine lv_iadd hx hb dX0_numberOf_10 ?_
  refine lv_rei (x' := (nI (4 * t + 4))) (nI_add _ _) ?_
  refine lv_icmp_ge (tgt := 35) hx hb dX0_numberOf_11 (by decide) (fun c9 => absurd c9 (nI_ge (by omega) (by omega))) (fun _ => ?_)
  refine lv_iload hx hb dX0_numberOf_14 (lv_at hl 1 rfl) ?_
  refine lv_bipush (v := (nI 8)) hx hb dX0_numberOf_16 (by decide) ?_
  refine lv_ishl hx hb dX0_numberOf_18 ?_
  refine lv_aload_n hx hb dX0_numberOf_19 rfl (lv_at hl 2 rfl) ?_
  refine lv_lload_n hx hb dX0_numberOf_20 rfl (lv_at hl 3 rfl) ?_
  refine lv_iload hx hb dX0_numberOf_21 (lv_at hl 0 rfl) ?_
  refine cSi (rest := [.int ((nI 0) <<< ((nI 8) &&& 31))]) ⟨hx, hb, hml, hown, hts⟩ [.ref k, .long (lN N), .int (nI (4 * t))] (c_X0_blockByte l g (k := k) (kb := kb) (fr := fr) (un := un) (cl := cl) (f := f) (sz := sz) (N := N) (a := (4 * t)) hz hN (by omega)) (va_cwS 3 hts gX0_numberOf_X0_blockByte rfl rfl rfl (by decide +kernel) ⟨Nat.le_of_ble_eq_true rfl, Nat.le_of_ble_eq_true rfl⟩) hK hZ hS (subP hP [0, 1] rfl) rfl hl.1 rfl (Nat.le_of_ble_eq_true rfl) dX0_numberOf_23 ⟨Nat.zero_le _, Nat.zero_le _⟩ (fun r_30 hr_30 => ?_)
  obtain rfl : r_30 = (nI (mb f sz N (4 * t))) := hr_30
  refine lv_ior hx hb dX0_numberOf_26 ?_
  refine lv_rei (x' := (nI (mb f sz N (4 * t)))) (by rw [shl8or (by omega) (by omega)]; rw [Nat.zero_mul, Nat.zero_add]) ?_
  refine lv_istore (lv' := [(4, .int (nI (mb f sz N (4 * t)))), (5, .int (nI (4 * t))), (0, .ref k), (1, .long (lN N)), (3, .int (nI (4 * t)))]) hx hb dX0_numberOf_27 hl (by decide) rfl (fun ls hl => ?_)
  refine lv_iinc (v := (nI (4 * t + 1))) (lv' := [(5, .int (nI (4 * t + 1))), (4, .int (nI (mb f sz N (4 * t)))), (0, .ref k), (1, .long (lN N)), (3, .int (nI (4 * t)))]) hx hb dX0_numberOf_29 hl (k := 1) rfl (nI_1 _) (by decide) rfl (fun ls hl => ?_)
  refine lv_goto (tgt := 6) hx hb dX0_numberOf_32 (by decide) ?_
  refine lv_iload hx hb dX0_numberOf_6 (lv_at hl 0 rfl) ?_
  refine lv_iload_n hx hb dX0_numberOf_8 rfl (lv_at hl 4 rfl) ?_
  refine lv_iconst (v := (nI 4)) hx hb dX0_numberOf_9 (by decide) ?_
  refine lv_iadd hx hb dX0_numberOf_10 ?_
  refine lv_rei (x' := (nI (4 * t + 4))) (nI_add _ _) ?_
  refine lv_icmp_ge (tgt := 35) hx hb dX0_numberOf_11 (by decide) (fun c9 => absurd c9 (nI_ge (by omega) (by omega))) (fun _ => ?_)
  refine lv_iload hx hb dX0_numberOf_14 (lv_at hl 1 rfl) ?_
  refine lv_bipush (v := (nI 8)) hx hb dX0_numberOf_16 (by decide) ?_
  refine lv_ishl hx hb dX0_numberOf_18 ?_
  refine lv_aload_n hx hb dX0_numberOf_19 rfl (lv_at hl 2 rfl) ?_
  refine lv_lload_n hx hb dX0_numberOf_20 rfl (lv_at hl 3 rfl) ?_
  refine lv_iload hx hb dX0_numberOf_21 (lv_at hl 0 rfl) ?_
  refine cSi (rest := [.int ((nI (mb f sz N (4 * t))) <<< ((nI 8) &&& 31))]) ⟨hx, hb, hml, hown, hts⟩ [.ref k, .long (lN N), .int (nI (4 * t + 1))] (c_X0_blockByte l g (k := k) (kb := kb) (fr := fr) (un := un) (cl := cl) (f := f) (sz := sz) (N := N) (a := (4 * t + 1)) hz hN (by omega)) (va_cwS 3 hts gX0_numberOf_X0_blockByte rfl rfl rfl (by decide +kernel) ⟨Nat.le_of_ble_eq_true rfl, Nat.le_of_ble_eq_true rfl⟩) hK hZ hS (subP hP [0, 1] rfl) rfl hl.1 rfl (Nat.le_of_ble_eq_true rfl) dX0_numberOf_23 ⟨Nat.zero_le _, Nat.zero_le _⟩ (fun r_31 hr_31 => ?_)
  obtain rfl : r_31 = (nI (mb f sz N (4 * t + 1))) := hr_31
  refine lv_ior hx hb dX0_numberOf_26 ?_
  refine lv_rei (x' := (nI ((mb f sz N (4 * t)) * 256 + mb f sz N (4 * t + 1)))) (by rw [shl8or (by omega) (by omega)]) ?_
  refine lv_istore (lv' := [(4, .int (nI ((mb f sz N (4 * t)) * 256 + mb f sz N (4 * t + 1)))), (5, .int (nI (4 * t + 1))), (0, .ref k), (1, .long (lN N)), (3, .int (nI (4 * t)))]) hx hb dX0_numberOf_27 hl (by decide) rfl (fun ls hl => ?_)
  refine lv_iinc (v := (nI (4 * t + 2))) (lv' := [(5, .int (nI (4 * t + 2))), (4, .int (nI ((mb f sz N (4 * t)) * 256 + mb f sz N (4 * t + 1)))), (0, .ref k), (1, .long (lN N)), (3, .int (nI (4 * t)))]) hx hb dX0_numberOf_29 hl (k := 1) rfl (nI_1 _) (by decide) rfl (fun ls hl => ?_)
  refine lv_goto (tgt := 6) hx hb dX0_numberOf_32 (by decide) ?_
  refine lv_iload hx hb dX0_numberOf_6 (lv_at hl 0 rfl) ?_
  refine lv_iload_n hx hb dX0_numberOf_8 rfl (lv_at hl 4 rfl) ?_
  refine lv_iconst (v := (nI 4)) hx hb dX0_numberOf_9 (by decide) ?_
  refine lv_iadd hx hb dX0_numberOf_10 ?_
  refine lv_rei (x' := (nI (4 * t + 4))) (nI_add _ _) ?_
  refine lv_icmp_ge (tgt := 35) hx hb dX0_numberOf_11 (by decide) (fun c9 => absurd c9 (nI_ge (by omega) (by omega))) (fun _ => ?_)
  refine lv_iload hx hb dX0_numberOf_14 (lv_at hl 1 rfl) ?_
  refine lv_bipush (v := (nI 8)) hx hb dX0_numberOf_16 (by decide) ?_
  refine lv_ishl hx hb dX0_numberOf_18 ?_
  refine lv_aload_n hx hb dX0_numberOf_19 rfl (lv_at hl 2 rfl) ?_
  refine lv_lload_n hx hb dX0_numberOf_20 rfl (lv_at hl 3 rfl) ?_
  refine lv_iload hx hb dX0_numberOf_21 (lv_at hl 0 rfl) ?_
  refine cSi (rest := [.int ((nI ((mb f sz N (4 * t)) * 256 + mb f sz N (4 * t + 1))) <<< ((nI 8) &&& 31))]) ⟨hx, hb, hml, hown, hts⟩ [.ref k, .long (lN N), .int (nI (4 * t + 2))] (c_X0_blockByte l g (k := k) (kb := kb) (fr := fr) (un := un) (cl := cl) (f := f) (sz := sz) (N := N) (a := (4 * t + 2)) hz hN (by omega)) (va_cwS 3 hts gX0_numberOf_X0_blockByte rfl rfl rfl (by decide +kernel) ⟨Nat.le_of_ble_eq_true rfl, Nat.le_of_ble_eq_true rfl⟩) hK hZ hS (subP hP [0, 1] rfl) rfl hl.1 rfl (Nat.le_of_ble_eq_true rfl) dX0_numberOf_23 ⟨Nat.zero_le _, Nat.zero_le _⟩ (fun r_32 hr_32 => ?_)
  obtain rfl : r_32 = (nI (mb f sz N (4 * t + 2))) := hr_32
  refine lv_ior hx hb dX0_numberOf_26 ?_
  refine lv_rei (x' := (nI (((mb f sz N (4 * t)) * 256 + mb f sz N (4 * t + 1)) * 256 + mb f sz N (4 * t + 2)))) (by rw [shl8or (by omega) (by omega)]) ?_
  refine lv_istore (lv' := [(4, .int (nI (((mb f sz N (4 * t)) * 256 + mb f sz N (4 * t + 1)) * 256 + mb f sz N (4 * t + 2)))), (5, .int (nI (4 * t + 2))), (0, .ref k), (1, .long (lN N)), (3, .int (nI (4 * t)))]) hx hb dX0_numberOf_27 hl (by decide) rfl (fun ls hl => ?_)
  refine lv_iinc (v := (nI (4 * t + 3))) (lv' := [(5, .int (nI (4 * t + 3))), (4, .int (nI (((mb f sz N (4 * t)) * 256 + mb f sz N (4 * t + 1)) * 256 + mb f sz N (4 * t + 2)))), (0, .ref k), (1, .long (lN N)), (3, .int (nI (4 * t)))]) hx hb dX0_numberOf_29 hl (k := 1) rfl (nI_1 _) (by decide) rfl (fun ls hl => ?_)
  refine lv_goto (tgt := 6) hx hb dX0_numberOf_32 (by decide) ?_
  refine lv_iload hx hb dX0_numberOf_6 (lv_at hl 0 rfl) ?_
  refine lv_iload_n hx hb dX0_numberOf_8 rfl (lv_at hl 4 rfl) ?_
  refine lv_iconst (v := (nI 4)) hx hb dX0_numberOf_9 (by decide) ?_
  refine lv_iadd hx hb dX0_numberOf_10 ?_
  refine lv_rei (x' := (nI (4 * t + 4))) (nI_add _ _) ?_
  refine lv_icmp_ge (tgt := 35) hx hb dX0_numberOf_11 (by decide) (fun c9 => absurd c9 (nI_ge (by omega) (by omega))) (fun _ => ?_)
  refine lv_iload hx hb dX0_numberOf_14 (lv_at hl 1 rfl) ?_
  refine lv_bipush (v := (nI 8)) hx hb dX0_numberOf_16 (by decide) ?_
  refine lv_ishl hx hb dX0_numberOf_18 ?_
  refine lv_aload_n hx hb dX0_numberOf_19 rfl (lv_at hl 2 rfl) ?_
  refine lv_lload_n hx hb dX0_numberOf_20 rfl (lv_at hl 3 rfl) ?_
  refine lv_iload hx hb dX0_numberOf_21 (lv_at hl 0 rfl) ?_
  refine cSi (rest := [.int ((nI (((mb f sz N (4 * t)) * 256 + mb f sz N (4 * t + 1)) * 256 + mb f sz N (4 * t + 2))) <<< ((nI 8) &&& 31))]) ⟨hx, hb, hml, hown, hts⟩ [.ref k, .long (lN N), .int (nI (4 * t + 3))] (c_X0_blockByte l g (k := k) (kb := kb) (fr := fr) (un := un) (cl := cl) (f := f) (sz := sz) (N := N) (a := (4 * t + 3)) hz hN (by omega)) (va_cwS 3 hts gX0_numberOf_X0_blockByte rfl rfl rfl (by decide +kernel) ⟨Nat.le_of_ble_eq_true rfl, Nat.le_of_ble_eq_true rfl⟩) hK hZ hS (subP hP [0, 1] rfl) rfl hl.1 rfl (Nat.le_of_ble_eq_true rfl) dX0_numberOf_23 ⟨Nat.zero_le _, Nat.zero_le _⟩ (fun r_33 hr_33 => ?_)
  obtain rfl : r_33 = (nI (mb f sz N (4 * t + 3))) := hr_33
  refine lv_ior hx hb dX0_numberOf_26 ?_
  refine lv_rei (x' := (nI ((((mb f sz N (4 * t)) * 256 + mb f sz N (4 * t + 1)) * 256 + mb f sz N (4 * t + 2)) * 256 + mb f sz N (4 * t + 3)))) (by rw [shl8or (by omega) (by omega)]) ?_
  refine lv_istore (lv' := [(4, .int (nI ((((mb f sz N (4 * t)) * 256 + mb f sz N (4 * t + 1)) * 256 + mb f sz N (4 * t + 2)) * 256 + mb f sz N (4 * t + 3)))), (5, .int (nI (4 * t + 3))), (0, .ref k), (1, .long (lN N)), (3, .int (nI (4 * t)))]) hx hb dX0_numberOf_27 hl (by decide) rfl (fun ls hl => ?_)
  refine lv_iinc (v := (nI (4 * t + 4))) (lv' := [(5, .int (nI (4 * t + 4))), (4, .int (nI ((((mb f sz N (4 * t)) * 256 + mb f sz N (4 * t + 1)) * 256 + mb f sz N (4 * t + 2)) * 256 + mb f sz N (4 * t + 3)))), (0, .ref k), (1, .long (lN N)), (3, .int (nI (4 * t)))]) hx hb dX0_numberOf_29 hl (k := 1) rfl (nI_1 _) (by decide) rfl (fun ls hl => ?_)
  refine lv_goto (tgt := 6) hx hb dX0_numberOf_32 (by decide) ?_
  refine lv_iload hx hb dX0_numberOf_6 (lv_at hl 0 rfl) ?_
  refine lv_iload_n hx hb dX0_numberOf_8 rfl (lv_at hl 4 rfl) ?_
  refine lv_iconst (v := (nI 4)) hx hb dX0_numberOf_9 (by decide) ?_
  refine lv_iadd hx hb dX0_numberOf_10 ?_
  refine lv_rei (x' := (nI (4 * t + 4))) (nI_add _ _) ?_
  refine lv_icmp_ge (tgt := 35) hx hb dX0_numberOf_11 (by decide) (fun _ => ?_) (fun c9 => absurd (nI_le (Nat.le_refl _) (by omega)) c9)
  refine lv_iload hx hb dX0_numberOf_35 (lv_at hl 1 rfl) ?_
  exact endRi hx hb hr hlocks dX0_numberOf_37 (rfl)

set_option maxHeartbeats 4000000 in
set_option maxRecDepth 100000 in
/-- the words stretched -/
theorem c_X0_stretch (l : Launch) (g : gE) (hsz : Nat) (dg wa st : Nat) (rk : Int32) (f : Nat → Int32)  : Met l yX0_stretch wsX0_stretch ({ frames := 1, cells := 0, slots := 0, locals := 21 }) (va_Pc [.ref dg] (wr g [(dg, .inr (2, [.ref wa, .ref st, .int rk])), (wa, .inl (g.2.1 0, 64, .inl f))] hsz)) (va_Qv (fun (u : (Nat → Int32)) => ∀ j, j < 64 → u j = wF f 48 j) (wB g (va_A [(dg, .inr (2, [.ref wa, .ref st, .int rk])), (wa, .inl (g.2.1 0, 64, .inl f))] hsz) (fun u : (Nat → Int32) => [(dg, .inr (2, [.ref wa, .ref st, .int rk])), (wa, .inl (g.2.1 0, 64, .inl u))])) (va_A [(dg, .inr (2, [.ref wa, .ref st, .int rk])), (wa, .inl (g.2.1 0, 64, .inl f))] hsz)) 0 0 (va_A [(dg, .inr (2, [.ref wa, .ref st, .int rk])), (wa, .inl (g.2.1 0, 64, .inl f))] hsz) := by
  refine ofWv (cc := cX0_stretch) (maxL := 6) (ret := none) (by decide) rfl (Nat.le_of_ble_eq_true rfl) (fun p e s m below meth c hx hb hr hml hts hown hlocks hnm A H hH hA hP hD hK hZ hS ls hl => ?_)
  have hown : s.vm.findClass RX0 = some m.cls := hown
  have hl : lv_has ls 6 [(0, .ref dg)] := hl
  have hiX0 : ∀ w ∈ wsX00, w ∈ wsX0_stretch := by decide +kernel
  refine lv_bipush (v := (nI 16)) hx hb dX0_stretch_0 (by decide) ?_
  refine lv_istore_n (lv' := [(1, .int (nI 16)), (0, .ref dg)]) hx hb dX0_stretch_2 rfl hl (by decide) rfl (fun ls hl => ?_)
  have L1 : ∀ (fu : Nat) (n : Nat) (F : Nat → Int32), (49 ≤ n + fu) → (n ≤ 48) → (∀ j, j < 16 + n → F j = wF f n j) → ∀ (H : Heap) (locs : List Loc), va_P g.1 vwCl [(dg, .inr (2, [.ref wa, .ref st, .int rk])), (wa, .inl (g.2.1 0, 64, .inl F))] H → va_D A [(dg, .inr (2, [.ref wa, .ref st, .int rk])), (wa, .inl (g.2.1 0, 64, .inl F))] → va_S A s.heap H locs → ∀ ls : Array Slot, lv_has ls 6 [(0, .ref dg), (1, .int (nI (16 + n)))] → W p l e (headSpec wsX0_stretch ({ frames := 1, cells := 0, slots := 0, locals := 21 } : Room)).room s m ([.ref dg] : List Value).toArray below meth c H locs 0 0 (MQ below (va_Qv (fun (u : (Nat → Int32)) => ∀ j, j < 64 → u j = wF f 48 j) (wB g A (fun u : (Nat → Int32) => [(dg, .inr (2, [.ref wa, .ref st, .int rk])), (wa, .inl (g.2.1 0, 64, .inl u))])) A) ([.ref dg] : List Value).toArray s 0 0 A) (F0 m 3 ls []) := by
    intro fu
    induction fu with
    | zero => intro n F h1 h2 h3 H locs hP hD hS ls hl; exact absurd h1 (by omega)
    | succ fu ihL1 =>
      intro n F h1 h2 h3 H locs hP hD hS ls hl
      refine lv_iload_n hx hb dX0_stretch_3 rfl (lv_at hl 1 rfl) ?_
      refine lv_bipush (v := (nI 64)) hx hb dX0_stretch_4 (by decide) ?_
      rcases Nat.lt_or_ge n 48 with q | q
      · refine lv_icmp_ge (tgt := 106) hx hb dX0_stretch_6 (by decide) (fun c9 => absurd c9 (nI_ge (by omega) (by omega))) (fun _ => ?_)
        refine lv_aload_n hx hb dX0_stretch_9 rfl (lv_at hl 0 rfl) ?_
        refine va_get (D := g.1) (ci := 2) (v := .ref wa) (C := RX0) (T := TX0) (N := 3) hx hb hts hiX0 hown hK.1 hP 0 rfl rfl 0 (by decide) (hts (.fieldLink RX0 9 "StampMaker$Digest" "w" "[I") (by decide +kernel)) (fun _ h9 => h9) rfl dX0_stretch_10 ?_
        refine lv_iload_n hx hb dX0_stretch_13 rfl (lv_at hl 1 rfl) ?_
        refine lv_bipush (v := (nI 15)) hx hb dX0_stretch_14 (by decide) ?_
        refine lv_isub hx hb dX0_stretch_16 ?_
        refine lv_rei (x' := (nI (16 + n - 15))) (pk_sub (by omega)) ?_
        refine va_iald hx hb hK.1 hP 1 0 rfl rfl (vp_in_nI (by omega) (by omega)) dX0_stretch_17 ?_
        refine lv_rei (x' := F (16 + n - 15)) (congrArg F (nI_clamp (by omega))) ?_
        refine lv_istore_n (lv' := [(2, .int (F (16 + n - 15))), (0, .ref dg), (1, .int (nI (16 + n)))]) hx hb dX0_stretch_18 rfl hl (by decide) rfl (fun ls hl => ?_)
        refine lv_iload_n hx hb dX0_stretch_19 rfl (lv_at hl 0 rfl) ?_
        refine lv_bipush (v := (nI 7)) hx hb dX0_stretch_20 (by decide) ?_
        refine cSi (rest := []) ⟨hx, hb, hml, hown, hts⟩ [.int (F (16 + n - 15)), .int (nI 7)] (c_X0_ror l g (x := (F (16 + n - 15))) (n := (nI 7))) (va_cwS 2 hts gX0_stretch_X0_ror rfl rfl rfl (by decide +kernel) ⟨Nat.le_of_ble_eq_true rfl, Nat.le_of_ble_eq_true rfl⟩) hK hZ hS (subP hP [] rfl) rfl hl.1 rfl (Nat.le_of_ble_eq_true rfl) dX0_stretch_22 ⟨Nat.zero_le _, Nat.zero_le _⟩ (fun r_34 hr_34 => ?_)
        obtain rfl : r_34 = (rorE (F (16 + n - 15)) (nI 7)) := hr_34
        refine lv_iload_n hx hb dX0_stretch_25 rfl (lv_at hl 0 rfl) ?_
        refine lv_bipush (v := (nI 18)) hx hb dX0_stretch_26 (by decide) ?_
        refine cSi (rest := [.int (rorE (F (16 + n - 15)) (nI 7))]) ⟨hx, hb, hml, hown, hts⟩ [.int (F (16 + n - 15)), .int (nI 18)] (c_X0_ror l g (x := (F (16 + n - 15))) (n := (nI 18))) (va_cwS 2 hts gX0_stretch_X0_ror rfl rfl rfl (by decide +kernel) ⟨Nat.le_of_ble_eq_true rfl, Nat.le_of_ble_eq_true rfl⟩) hK hZ hS (subP hP [] rfl) rfl hl.1 rfl (Nat.le_of_ble_eq_true rfl) dX0_stretch_28 ⟨Nat.zero_le _, Nat.zero_le _⟩ (fun r_35 hr_35 => ?_)
        obtain rfl : r_35 = (rorE (F (16 + n - 15)) (nI 18)) := hr_35
        refine lv_ixor hx hb dX0_stretch_31 ?_
        refine lv_iload_n hx hb dX0_stretch_32 rfl (lv_at hl 0 rfl) ?_
        refine lv_iconst (v := (nI 3)) hx hb dX0_stretch_33 (by decide) ?_
        refine lv_iushr hx hb dX0_stretch_34 rfl ?_
        refine lv_ixor hx hb dX0_stretch_35 ?_
        refine lv_istore_n (lv' := [(3, .int (((rorE (F (16 + n - 15)) (nI 7)) ^^^ (rorE (F (16 + n - 15)) (nI 18))) ^^^ ((((F (16 + n - 15))).toUInt32 >>> (((nI 3)).toUInt32 &&& Int32.toUInt32 31)).toInt32))), (2, .int (F (16 + n - 15))), (0, .ref dg), (1, .int (nI (16 + n)))]) hx hb dX0_stretch_36 rfl hl (by decide) rfl (fun ls hl => ?_)
        refine lv_aload_n hx hb dX0_stretch_37 rfl (lv_at hl 2 rfl) ?_
        refine va_get (D := g.1) (ci := 2) (v := .ref wa) (C := RX0) (T := TX0) (N := 3) hx hb hts hiX0 hown hK.1 hP 0 rfl rfl 0 (by decide) (hts (.fieldLink RX0 9 "StampMaker$Digest" "w" "[I") (by decide +kernel)) (fun _ h9 => h9) rfl dX0_stretch_38 ?_
        refine lv_iload_n hx hb dX0_stretch_41 rfl (lv_at hl 3 rfl) ?_
        refine lv_iconst (v := (nI 2)) hx hb dX0_stretch_42 (by decide) ?_
        refine lv_isub hx hb dX0_stretch_43 ?_
        refine lv_rei (x' := (nI (16 + n - 2))) (pk_sub (by omega)) ?_
        refine va_iald hx hb hK.1 hP 1 0 rfl rfl (vp_in_nI (by omega) (by omega)) dX0_stretch_44 ?_
        refine lv_rei (x' := F (16 + n - 2)) (congrArg F (nI_clamp (by omega))) ?_
        refine lv_istore (lv' := [(4, .int (F (16 + n - 2))), (3, .int (((rorE (F (16 + n - 15)) (nI 7)) ^^^ (rorE (F (16 + n - 15)) (nI 18))) ^^^ ((((F (16 + n - 15))).toUInt32 >>> (((nI 3)).toUInt32 &&& Int32.toUInt32 31)).toInt32))), (2, .int (F (16 + n - 15))), (0, .ref dg), (1, .int (nI (16 + n)))]) hx hb dX0_stretch_45 hl (by decide) rfl (fun ls hl => ?_)
        refine lv_iload hx hb dX0_stretch_47 (lv_at hl 0 rfl) ?_
        refine lv_bipush (v := (nI 17)) hx hb dX0_stretch_49 (by decide) ?_
        refine cSi (rest := []) ⟨hx, hb, hml, hown, hts⟩ [.int (F (16 + n - 2)), .int (nI 17)] (c_X0_ror l g (x := (F (16 + n - 2))) (n := (nI 17))) (va_cwS 2 hts gX0_stretch_X0_ror rfl rfl rfl (by decide +kernel) ⟨Nat.le_of_ble_eq_true rfl, Nat.le_of_ble_eq_true rfl⟩) hK hZ hS (subP hP [] rfl) rfl hl.1 rfl (Nat.le_of_ble_eq_true rfl) dX0_stretch_51 ⟨Nat.zero_le _, Nat.zero_le _⟩ (fun r_36 hr_36 => ?_)
        obtain rfl : r_36 = (rorE (F (16 + n - 2)) (nI 17)) := hr_36
        refine lv_iload hx hb dX0_stretch_54 (lv_at hl 0 rfl) ?_
        refine lv_bipush (v := (nI 19)) hx hb dX0_stretch_56 (by decide) ?_
        refine cSi (rest := [.int (rorE (F (16 + n - 2)) (nI 17))]) ⟨hx, hb, hml, hown, hts⟩ [.int (F (16 + n - 2)), .int (nI 19)] (c_X0_ror l g (x := (F (16 + n - 2))) (n := (nI 19))) (va_cwS 2 hts gX0_stretch_X0_ror rfl rfl rfl (by decide +kernel) ⟨Nat.le_of_ble_eq_true rfl, Nat.le_of_ble_eq_true rfl⟩) hK hZ hS (subP hP [] rfl) rfl hl.1 rfl (Nat.le_of_ble_eq_true rfl) dX0_stretch_58 ⟨Nat.zero_le _, Nat.zero_le _⟩ (fun r_37 hr_37 => ?_)
        obtain rfl : r_37 = (rorE (F (16 + n - 2)) (nI 19)) := hr_37
        refine lv_ixor hx hb dX0_stretch_61 ?_
        refine lv_iload hx hb dX0_stretch_62 (lv_at hl 0 rfl) ?_
        refine lv_bipush (v := (nI 10)) hx hb dX0_stretch_64 (by decide) ?_
        refine lv_iushr hx hb dX0_stretch_66 rfl ?_
        refine lv_ixor hx hb dX0_stretch_67 ?_
        refine lv_istore (lv' := [(5, .int (((rorE (F (16 + n - 2)) (nI 17)) ^^^ (rorE (F (16 + n - 2)) (nI 19))) ^^^ ((((F (16 + n - 2))).toUInt32 >>> (((nI 10)).toUInt32 &&& Int32.toUInt32 31)).toInt32))), (4, .int (F (16 + n - 2))), (3, .int (((rorE (F (16 + n - 15)) (nI 7)) ^^^ (rorE (F (16 + n - 15)) (nI 18))) ^^^ ((((F (16 + n - 15))).toUInt32 >>> (((nI 3)).toUInt32 &&& Int32.toUInt32 31)).toInt32))), (2, .int (F (16 + n - 15))), (0, .ref dg), (1, .int (nI (16 + n)))]) hx hb dX0_stretch_68 hl (by decide) rfl (fun ls hl => ?_)
        refine lv_aload_n hx hb dX0_stretch_70 rfl (lv_at hl 4 rfl) ?_
        refine va_get (D := g.1) (ci := 2) (v := .ref wa) (C := RX0) (T := TX0) (N := 3) hx hb hts hiX0 hown hK.1 hP 0 rfl rfl 0 (by decide) (hts (.fieldLink RX0 9 "StampMaker$Digest" "w" "[I") (by decide +kernel)) (fun _ h9 => h9) rfl dX0_stretch_71 ?_
        refine lv_iload_n hx hb dX0_stretch_74 rfl (lv_at hl 5 rfl) ?_
        refine lv_aload_n hx hb dX0_stretch_75 rfl (lv_at hl 4 rfl) ?_
        refine va_get (D := g.1) (ci := 2) (v := .ref wa) (C := RX0) (T := TX0) (N := 3) hx hb hts hiX0 hown hK.1 hP 0 rfl rfl 0 (by decide) (hts (.fieldLink RX0 9 "StampMaker$Digest" "w" "[I") (by decide +kernel)) (fun _ h9 => h9) rfl dX0_stretch_76 ?_
        refine lv_iload_n hx hb dX0_stretch_79 rfl (lv_at hl 5 rfl) ?_
        refine lv_bipush (v := (nI 16)) hx hb dX0_stretch_80 (by decide) ?_
        refine lv_isub hx hb dX0_stretch_82 ?_
        refine lv_rei (x' := (nI (16 + n - 16))) (pk_sub (by omega)) ?_
        refine va_iald hx hb hK.1 hP 1 0 rfl rfl (vp_in_nI (by omega) (by omega)) dX0_stretch_83 ?_
        refine lv_rei (x' := F (16 + n - 16)) (congrArg F (nI_clamp (by omega))) ?_
        refine lv_iload_n hx hb dX0_stretch_84 rfl (lv_at hl 2 rfl) ?_
        refine lv_iadd hx hb dX0_stretch_85 ?_
        refine lv_aload_n hx hb dX0_stretch_86 rfl (lv_at hl 4 rfl) ?_
        refine va_get (D := g.1) (ci := 2) (v := .ref wa) (C := RX0) (T := TX0) (N := 3) hx hb hts hiX0 hown hK.1 hP 0 rfl rfl 0 (by decide) (hts (.fieldLink RX0 9 "StampMaker$Digest" "w" "[I") (by decide +kernel)) (fun _ h9 => h9) rfl dX0_stretch_87 ?_
        refine lv_iload_n hx hb dX0_stretch_90 rfl (lv_at hl 5 rfl) ?_
        refine lv_bipush (v := (nI 7)) hx hb dX0_stretch_91 (by decide) ?_
        refine lv_isub hx hb dX0_stretch_93 ?_
        refine lv_rei (x' := (nI (16 + n - 7))) (pk_sub (by omega)) ?_
        refine va_iald hx hb hK.1 hP 1 0 rfl rfl (vp_in_nI (by omega) (by omega)) dX0_stretch_94 ?_
        refine lv_rei (x' := F (16 + n - 7)) (congrArg F (nI_clamp (by omega))) ?_
        refine lv_iadd hx hb dX0_stretch_95 ?_
        refine lv_iload hx hb dX0_stretch_96 (lv_at hl 0 rfl) ?_
        refine lv_iadd hx hb dX0_stretch_98 ?_
        refine lv_rei (x' := (stE F (16 + n))) (rfl) ?_
        refine va_iast hx hb hK.1 hP hD hS 1 0 rfl rfl (vp_in_nI (by omega) (by omega)) dX0_stretch_99 (fun H locs hP hD hS => ?_)
        rw [nI_clamp (by omega)] at hP hD
        have hP : va_P g.1 vwCl [(dg, .inr (2, [.ref wa, .ref st, .int rk])), (wa, .inl (g.2.1 0, 64, .inl (upd F (16 + n) (stE F (16 + n)))))] H := hP
        have hD : va_D A [(dg, .inr (2, [.ref wa, .ref st, .int rk])), (wa, .inl (g.2.1 0, 64, .inl (upd F (16 + n) (stE F (16 + n)))))] := hD
        refine lv_iinc (v := (nI (16 + (n + 1)))) (lv' := [(1, .int (nI (16 + (n + 1)))), (5, .int (((rorE (F (16 + n - 2)) (nI 17)) ^^^ (rorE (F (16 + n - 2)) (nI 19))) ^^^ ((((F (16 + n - 2))).toUInt32 >>> (((nI 10)).toUInt32 &&& Int32.toUInt32 31)).toInt32))), (4, .int (F (16 + n - 2))), (3, .int (((rorE (F (16 + n - 15)) (nI 7)) ^^^ (rorE (F (16 + n - 15)) (nI 18))) ^^^ ((((F (16 + n - 15))).toUInt32 >>> (((nI 3)).toUInt32 &&& Int32.toUInt32 31)).toInt32))), (2, .int (F (16 + n - 15))), (0, .ref dg)]) hx hb dX0_stretch_100 hl (k := 5) rfl (nI_1 _) (by decide) rfl (fun ls hl => ?_)
        refine lv_goto (tgt := 3) hx hb dX0_stretch_103 (by decide) ?_
        exact ihL1 (n + 1) (upd F (16 + n) (stE F (16 + n))) (by omega) (by omega) (wF_step h3) _ _ hP hD hS ls (lv_sub hl [5, 0] rfl)
      · refine lv_icmp_ge (tgt := 106) hx hb dX0_stretch_6 (by decide) (fun _ => ?_) (fun c9 => absurd (nI_le (by omega) (by omega)) c9)
        exact endWv F hx hb hr hlocks hS dX0_stretch_106 hP hD (fun j hj => by rw [h3 j (by omega), show n = 48 by omega])
  exact L1 49 0 f (by omega) (by omega) (fun j _ => rfl) _ _ hP hD hS ls (lv_sub hl [1, 0] rfl)

set_option maxHeartbeats 4000000 in
set_option maxRecDepth 100000 in
/-- the rounds -/
theorem c_X0_mix (l : Launch) (g : gE) (hsz : Nat) (dg wa st : Nat) (rk : Int32) (fw fs : Nat → Int32) (h0 : ∀ j, j < 8 → fs j = sBeg j) : Met l yX0_mix wsX0_mix ({ frames := 1, cells := 0, slots := 0, locals := 21 }) (va_Pc [.ref dg] (wr g [(dg, .inr (2, [.ref wa, .ref st, .int rk])), (wa, .inl (g.2.1 0, 64, .inl fw)), (st, .inl (g.2.1 0, 8, .inl fs))] hsz)) (va_Qv (fun (u : (Nat → Int32)) => ∀ j, j < 8 → u j = sBeg j + rN fw 64 j) (wB g (va_A [(dg, .inr (2, [.ref wa, .ref st, .int rk])), (wa, .inl (g.2.1 0, 64, .inl fw)), (st, .inl (g.2.1 0, 8, .inl fs))] hsz) (fun u : (Nat → Int32) => [(dg, .inr (2, [.ref wa, .ref st, .int rk])), (wa, .inl (g.2.1 0, 64, .inl fw)), (st, .inl (g.2.1 0, 8, .inl u))])) (va_A [(dg, .inr (2, [.ref wa, .ref st, .int rk])), (wa, .inl (g.2.1 0, 64, .inl fw)), (st, .inl (g.2.1 0, 8, .inl fs))] hsz)) 0 0 (va_A [(dg, .inr (2, [.ref wa, .ref st, .int rk])), (wa, .inl (g.2.1 0, 64, .inl fw)), (st, .inl (g.2.1 0, 8, .inl fs))] hsz) := by
  refine ofWv (cc := cX0_mix) (maxL := 12) (ret := none) (by decide) rfl (Nat.le_of_ble_eq_true rfl) (fun p e s m below meth c hx hb hr hml hts hown hlocks hnm A H hH hA hP hD hK hZ hS ls hl => ?_)
  have hown : s.vm.findClass RX0 = some m.cls := hown
  have hl : lv_has ls 12 [(0, .ref dg)] := hl
  have hiX0 : ∀ w ∈ wsX00, w ∈ wsX0_mix := by decide +kernel
  refine lv_aload_n hx hb dX0_mix_0 rfl (lv_at hl 0 rfl) ?_
  refine va_get (D := g.1) (ci := 2) (v := .ref st) (C := RX0) (T := TX0) (N := 3) hx hb hts hiX0 hown hK.1 hP 0 rfl rfl 1 (by decide) (hts (.fieldLink RX0 13 "StampMaker$Digest" "state" "[I") (by decide +kernel)) (fun _ h9 => h9) rfl dX0_mix_1 ?_
  refine lv_iconst (v := (nI 0)) hx hb dX0_mix_4 (by decide) ?_
  refine va_iald hx hb hK.1 hP 2 0 rfl rfl (vp_in_nI (by omega) (by omega)) dX0_mix_5 ?_
  refine lv_rei (x' := fs 0) (congrArg fs (nI_clamp (by omega))) ?_
  refine lv_rei (x' := (rN fw 0 0)) (h0 0 (by decide)) ?_
  refine lv_istore_n (lv' := [(1, .int (rN fw 0 0)), (0, .ref dg)]) hx hb dX0_mix_6 rfl hl (by decide) rfl (fun ls hl => ?_)
  refine lv_aload_n hx hb dX0_mix_7 rfl (lv_at hl 1 rfl) ?_
  refine va_get (D := g.1) (ci := 2) (v := .ref st) (C := RX0) (T := TX0) (N := 3) hx hb hts hiX0 hown hK.1 hP 0 rfl rfl 1 (by decide) (hts (.fieldLink RX0 13 "StampMaker$Digest" "state" "[I") (by decide +kernel)) (fun _ h9 => h9) rfl dX0_mix_8 ?_
  refine lv_iconst (v := (nI 1)) hx hb dX0_mix_11 (by decide) ?_
  refine va_iald hx hb hK.1 hP 2 0 rfl rfl (vp_in_nI (by omega) (by omega)) dX0_mix_12 ?_
  refine lv_rei (x' := fs 1) (congrArg fs (nI_clamp (by omega))) ?_
  refine lv_rei (x' := (rN fw 0 1)) (h0 1 (by decide)) ?_
  refine lv_istore_n (lv' := [(2, .int (rN fw 0 1)), (1, .int (rN fw 0 0)), (0, .ref dg)]) hx hb dX0_mix_13 rfl hl (by decide) rfl (fun ls hl => ?_)
  refine lv_aload_n hx hb dX0_mix_14 rfl (lv_at hl 2 rfl) ?_
  refine va_get (D := g.1) (ci := 2) (v := .ref st) (C := RX0) (T := TX0) (N := 3) hx hb hts hiX0 hown hK.1 hP 0 rfl rfl 1 (by decide) (hts (.fieldLink RX0 13 "StampMaker$Digest" "state" "[I") (by decide +kernel)) (fun _ h9 => h9) rfl dX0_mix_15 ?_
  refine lv_iconst (v := (nI 2)) hx hb dX0_mix_18 (by decide) ?_
  refine va_iald hx hb hK.1 hP 2 0 rfl rfl (vp_in_nI (by omega) (by omega)) dX0_mix_19 ?_
  refine lv_rei (x' := fs 2) (congrArg fs (nI_clamp (by omega))) ?_
  refine lv_rei (x' := (rN fw 0 2)) (h0 2 (by decide)) ?_
  refine lv_istore_n (lv' := [(3, .int (rN fw 0 2)), (2, .int (rN fw 0 1)), (1, .int (rN fw 0 0)), (0, .ref dg)]) hx hb dX0_mix_20 rfl hl (by decide) rfl (fun ls hl => ?_)
  refine lv_aload_n hx hb dX0_mix_21 rfl (lv_at hl 3 rfl) ?_
  refine va_get (D := g.1) (ci := 2) (v := .ref st) (C := RX0) (T := TX0) (N := 3) hx hb hts hiX0 hown hK.1 hP 0 rfl rfl 1 (by decide) (hts (.fieldLink RX0 13 "StampMaker$Digest" "state" "[I") (by decide +kernel)) (fun _ h9 => h9) rfl dX0_mix_22 ?_
  refine lv_iconst (v := (nI 3)) hx hb dX0_mix_25 (by decide) ?_
  refine va_iald hx hb hK.1 hP 2 0 rfl rfl (vp_in_nI (by omega) (by omega)) dX0_mix_26 ?_
  refine lv_rei (x' := fs 3) (congrArg fs (nI_clamp (by omega))) ?_
  refine lv_rei (x' := (rN fw 0 3)) (h0 3 (by decide)) ?_
  refine lv_istore (lv' := [(4, .int (rN fw 0 3)), (3, .int (rN fw 0 2)), (2, .int (rN fw 0 1)), (1, .int (rN fw 0 0)), (0, .ref dg)]) hx hb dX0_mix_27 hl (by decide) rfl (fun ls hl => ?_)
  refine lv_aload_n hx hb dX0_mix_29 rfl (lv_at hl 4 rfl) ?_
  refine va_get (D := g.1) (ci := 2) (v := .ref st) (C := RX0) (T := TX0) (N := 3) hx hb hts hiX0 hown hK.1 hP 0 rfl rfl 1 (by decide) (hts (.fieldLink RX0 13 "StampMaker$Digest" "state" "[I") (by decide +kernel)) (fun _ h9 => h9) rfl dX0_mix_30 ?_
  refine lv_iconst (v := (nI 4)) hx hb dX0_mix_33 (by decide) ?_
  refine va_iald hx hb hK.1 hP 2 0 rfl rfl (vp_in_nI (by omega) (by omega)) dX0_mix_34 ?_
  refine lv_rei (x' := fs 4) (congrArg fs (nI_clamp (by omega))) ?_
  refine lv_rei (x' := (rN fw 0 4)) (h0 4 (by decide)) ?_
  refine lv_istore (lv' := [(5, .int (rN fw 0 4)), (4, .int (rN fw 0 3)), (3, .int (rN fw 0 2)), (2, .int (rN fw 0 1)), (1, .int (rN fw 0 0)), (0, .ref dg)]) hx hb dX0_mix_35 hl (by decide) rfl (fun ls hl => ?_)
  refine lv_aload_n hx hb dX0_mix_37 rfl (lv_at hl 5 rfl) ?_
  refine va_get (D := g.1) (ci := 2) (v := .ref st) (C := RX0) (T := TX0) (N := 3) hx hb hts hiX0 hown hK.1 hP 0 rfl rfl 1 (by decide) (hts (.fieldLink RX0 13 "StampMaker$Digest" "state" "[I") (by decide +kernel)) (fun _ h9 => h9) rfl dX0_mix_38 ?_
  refine lv_iconst (v := (nI 5)) hx hb dX0_mix_41 (by decide) ?_
  refine va_iald hx hb hK.1 hP 2 0 rfl rfl (vp_in_nI (by omega) (by omega)) dX0_mix_42 ?_
  refine lv_rei (x' := fs 5) (congrArg fs (nI_clamp (by omega))) ?_
  refine lv_rei (x' := (rN fw 0 5)) (h0 5 (by decide)) ?_
  refine lv_istore (lv' := [(6, .int (rN fw 0 5)), (5, .int (rN fw 0 4)), (4, .int (rN fw 0 3)), (3, .int (rN fw 0 2)), (2, .int (rN fw 0 1)), (1, .int (rN fw 0 0)), (0, .ref dg)]) hx hb dX0_mix_43 hl (by decide) rfl (fun ls hl => ?_)
  refine lv_aload_n hx hb dX0_mix_45 rfl (lv_at hl 6 rfl) ?_
  refine va_get (D := g.1) (ci := 2) (v := .ref st) (C := RX0) (T := TX0) (N := 3) hx hb hts hiX0 hown hK.1 hP 0 rfl rfl 1 (by decide) (hts (.fieldLink RX0 13 "StampMaker$Digest" "state" "[I") (by decide +kernel)) (fun _ h9 => h9) rfl dX0_mix_46 ?_
  refine lv_bipush (v := (nI 6)) hx hb dX0_mix_49 (by decide) ?_
  refine va_iald hx hb hK.1 hP 2 0 rfl rfl (vp_in_nI (by omega) (by omega)) dX0_mix_51 ?_
  refine lv_rei (x' := fs 6) (congrArg fs (nI_clamp (by omega))) ?_
  refine lv_rei (x' := (rN fw 0 6)) (h0 6 (by decide)) ?_
  refine lv_istore (lv' := [(7, .int (rN fw 0 6)), (6, .int (rN fw 0 5)), (5, .int (rN fw 0 4)), (4, .int (rN fw 0 3)), (3, .int (rN fw 0 2)), (2, .int (rN fw 0 1)), (1, .int (rN fw 0 0)), (0, .ref dg)]) hx hb dX0_mix_52 hl (by decide) rfl (fun ls hl => ?_)
  refine lv_aload_n hx hb dX0_mix_54 rfl (lv_at hl 7 rfl) ?_
  refine va_get (D := g.1) (ci := 2) (v := .ref st) (C := RX0) (T := TX0) (N := 3) hx hb hts hiX0 hown hK.1 hP 0 rfl rfl 1 (by decide) (hts (.fieldLink RX0 13 "StampMaker$Digest" "state" "[I") (by decide +kernel)) (fun _ h9 => h9) rfl dX0_mix_55 ?_
  refine lv_bipush (v := (nI 7)) hx hb dX0_mix_58 (by decide) ?_
  refine va_iald hx hb hK.1 hP 2 0 rfl rfl (vp_in_nI (by omega) (by omega)) dX0_mix_60 ?_
  refine lv_rei (x' := fs 7) (congrArg fs (nI_clamp (by omega))) ?_
  refine lv_rei (x' := (rN fw 0 7)) (h0 7 (by decide)) ?_
  refine lv_istore (lv' := [(8, .int (rN fw 0 7)), (7, .int (rN fw 0 6)), (6, .int (rN fw 0 5)), (5, .int (rN fw 0 4)), (4, .int (rN fw 0 3)), (3, .int (rN fw 0 2)), (2, .int (rN fw 0 1)), (1, .int (rN fw 0 0)), (0, .ref dg)]) hx hb dX0_mix_61 hl (by decide) rfl (fun ls hl => ?_)
  refine lv_iconst (v := (nI 0)) hx hb dX0_mix_63 (by decide) ?_
  refine lv_istore (lv' := [(9, .int (nI 0)), (8, .int (rN fw 0 7)), (7, .int (rN fw 0 6)), (6, .int (rN fw 0 5)), (5, .int (rN fw 0 4)), (4, .int (rN fw 0 3)), (3, .int (rN fw 0 2)), (2, .int (rN fw 0 1)), (1, .int (rN fw 0 0)), (0, .ref dg)]) hx hb dX0_mix_64 hl (by decide) rfl (fun ls hl => ?_)
  have L1 : ∀ (fu : Nat) (t : Nat), (65 ≤ t + fu) → (t ≤ 64) → ∀ (H : Heap) (locs : List Loc), va_P g.1 vwCl [(dg, .inr (2, [.ref wa, .ref st, .int rk])), (wa, .inl (g.2.1 0, 64, .inl fw)), (st, .inl (g.2.1 0, 8, .inl fs))] H → va_D A [(dg, .inr (2, [.ref wa, .ref st, .int rk])), (wa, .inl (g.2.1 0, 64, .inl fw)), (st, .inl (g.2.1 0, 8, .inl fs))] → va_S A s.heap H locs → ∀ ls : Array Slot, lv_has ls 12 [(0, .ref dg), (1, .int (rN fw t 0)), (2, .int (rN fw t 1)), (3, .int (rN fw t 2)), (4, .int (rN fw t 3)), (5, .int (rN fw t 4)), (6, .int (rN fw t 5)), (7, .int (rN fw t 6)), (8, .int (rN fw t 7)), (9, .int (nI t))] → W p l e (headSpec wsX0_mix ({ frames := 1, cells := 0, slots := 0, locals := 21 } : Room)).room s m ([.ref dg] : List Value).toArray below meth c H locs 0 0 (MQ below (va_Qv (fun (u : (Nat → Int32)) => ∀ j, j < 8 → u j = sBeg j + rN fw 64 j) (wB g A (fun u : (Nat → Int32) => [(dg, .inr (2, [.ref wa, .ref st, .int rk])), (wa, .inl (g.2.1 0, 64, .inl fw)), (st, .inl (g.2.1 0, 8, .inl u))])) A) ([.ref dg] : List Value).toArray s 0 0 A) (F0 m 66 ls []) := by
    intro fu
    induction fu with
    | zero => intro t h1 h2 H locs hP hD hS ls hl; exact absurd h1 (by omega)
    | succ fu ihL1 =>
      intro t h1 h2 H locs hP hD hS ls hl
      refine lv_iload hx hb dX0_mix_66 (lv_at hl 9 rfl) ?_
      refine lv_bipush (v := (nI 64)) hx hb dX0_mix_68 (by decide) ?_
      rcases Nat.lt_or_ge t 64 with q | q
      · refine lv_icmp_ge (tgt := 201) hx hb dX0_mix_70 (by decide) (fun c9 => absurd c9 (nI_ge (by omega) (by omega))) (fun _ => ?_)
        refine lv_iload hx hb dX0_mix_73 (lv_at hl 8 rfl) ?_
        refine lv_iload hx hb dX0_mix_75 (lv_at hl 5 rfl) ?_
        refine lv_bipush (v := (nI 6)) hx hb dX0_mix_77 (by decide) ?_
        refine cSi (rest := [.int (rN fw t 7)]) ⟨hx, hb, hml, hown, hts⟩ [.int (rN fw t 4), .int (nI 6)] (c_X0_ror l g (x := (rN fw t 4)) (n := (nI 6))) (va_cwS 2 hts gX0_mix_X0_ror rfl rfl rfl (by decide +kernel) ⟨Nat.le_of_ble_eq_true rfl, Nat.le_of_ble_eq_true rfl⟩) hK hZ hS (subP hP [] rfl) rfl hl.1 rfl (Nat.le_of_ble_eq_true rfl) dX0_mix_79 ⟨Nat.zero_le _, Nat.zero_le _⟩ (fun r_38 hr_38 => ?_)
        obtain rfl : r_38 = (rorE (rN fw t 4) (nI 6)) := hr_38
        refine lv_iload hx hb dX0_mix_82 (lv_at hl 5 rfl) ?_
        refine lv_bipush (v := (nI 11)) hx hb dX0_mix_84 (by decide) ?_
        refine cSi (rest := [.int (rorE (rN fw t 4) (nI 6)), .int (rN fw t 7)]) ⟨hx, hb, hml, hown, hts⟩ [.int (rN fw t 4), .int (nI 11)] (c_X0_ror l g (x := (rN fw t 4)) (n := (nI 11))) (va_cwS 2 hts gX0_mix_X0_ror rfl rfl rfl (by decide +kernel) ⟨Nat.le_of_ble_eq_true rfl, Nat.le_of_ble_eq_true rfl⟩) hK hZ hS (subP hP [] rfl) rfl hl.1 rfl (Nat.le_of_ble_eq_true rfl) dX0_mix_86 ⟨Nat.zero_le _, Nat.zero_le _⟩ (fun r_39 hr_39 => ?_)
        obtain rfl : r_39 = (rorE (rN fw t 4) (nI 11)) := hr_39
        refine lv_ixor hx hb dX0_mix_89 ?_
        refine lv_iload hx hb dX0_mix_90 (lv_at hl 5 rfl) ?_
        refine lv_bipush (v := (nI 25)) hx hb dX0_mix_92 (by decide) ?_
        refine cSi (rest := [.int ((rorE (rN fw t 4) (nI 6)) ^^^ (rorE (rN fw t 4) (nI 11))), .int (rN fw t 7)]) ⟨hx, hb, hml, hown, hts⟩ [.int (rN fw t 4), .int (nI 25)] (c_X0_ror l g (x := (rN fw t 4)) (n := (nI 25))) (va_cwS 2 hts gX0_mix_X0_ror rfl rfl rfl (by decide +kernel) ⟨Nat.le_of_ble_eq_true rfl, Nat.le_of_ble_eq_true rfl⟩) hK hZ hS (subP hP [] rfl) rfl hl.1 rfl (Nat.le_of_ble_eq_true rfl) dX0_mix_94 ⟨Nat.zero_le _, Nat.zero_le _⟩ (fun r_40 hr_40 => ?_)
        obtain rfl : r_40 = (rorE (rN fw t 4) (nI 25)) := hr_40
        refine lv_ixor hx hb dX0_mix_97 ?_
        refine lv_iadd hx hb dX0_mix_98 ?_
        refine lv_iload hx hb dX0_mix_99 (lv_at hl 5 rfl) ?_
        refine lv_iload hx hb dX0_mix_101 (lv_at hl 6 rfl) ?_
        refine lv_iand hx hb dX0_mix_103 ?_
        refine lv_iload hx hb dX0_mix_104 (lv_at hl 5 rfl) ?_
        refine lv_iconst (v := (-1)) hx hb dX0_mix_106 (by decide) ?_
        refine lv_ixor hx hb dX0_mix_107 ?_
        refine lv_iload hx hb dX0_mix_108 (lv_at hl 7 rfl) ?_
        refine lv_iand hx hb dX0_mix_110 ?_
        refine lv_ixor hx hb dX0_mix_111 ?_
        refine lv_iadd hx hb dX0_mix_112 ?_
        refine va_gets hx hb hZ.2.2.1 hS hown (hts (.fieldLink RX0 50 "StampMaker$Digest" "ROUND_NUMBERS" "[I") (by decide +kernel)) (fun _ h9 => h9) dX0_mix_113 ?_
        refine lv_iload hx hb dX0_mix_116 (lv_at hl 9 rfl) ?_
        refine va_ti (v := .int (sK t)) hx hb hZ.2.2.2.1 hS (vp_in_nI (by omega) (by omega)) (by rw [nI_clamp (by omega)]) dX0_mix_118 ?_
        refine lv_iadd hx hb dX0_mix_119 ?_
        refine lv_aload_n hx hb dX0_mix_120 rfl (lv_at hl 0 rfl) ?_
        refine va_get (D := g.1) (ci := 2) (v := .ref wa) (C := RX0) (T := TX0) (N := 3) hx hb hts hiX0 hown hK.1 hP 0 rfl rfl 0 (by decide) (hts (.fieldLink RX0 9 "StampMaker$Digest" "w" "[I") (by decide +kernel)) (fun _ h9 => h9) rfl dX0_mix_121 ?_
        refine lv_iload hx hb dX0_mix_124 (lv_at hl 9 rfl) ?_
        refine va_iald hx hb hK.1 hP 1 0 rfl rfl (vp_in_nI (by omega) (by omega)) dX0_mix_126 ?_
        refine lv_rei (x' := fw t) (congrArg fw (nI_clamp (by omega))) ?_
        refine lv_iadd hx hb dX0_mix_127 ?_
        refine lv_rei (x' := (rU (sK t) (fw t) (rN fw t))) (rfl) ?_
        refine lv_istore (lv' := [(10, .int (rU (sK t) (fw t) (rN fw t))), (0, .ref dg), (1, .int (rN fw t 0)), (2, .int (rN fw t 1)), (3, .int (rN fw t 2)), (4, .int (rN fw t 3)), (5, .int (rN fw t 4)), (6, .int (rN fw t 5)), (7, .int (rN fw t 6)), (8, .int (rN fw t 7)), (9, .int (nI t))]) hx hb dX0_mix_128 hl (by decide) rfl (fun ls hl => ?_)
        refine lv_iload_n hx hb dX0_mix_130 rfl (lv_at hl 2 rfl) ?_
        refine lv_iconst (v := (nI 2)) hx hb dX0_mix_131 (by decide) ?_
        refine cSi (rest := []) ⟨hx, hb, hml, hown, hts⟩ [.int (rN fw t 0), .int (nI 2)] (c_X0_ror l g (x := (rN fw t 0)) (n := (nI 2))) (va_cwS 2 hts gX0_mix_X0_ror rfl rfl rfl (by decide +kernel) ⟨Nat.le_of_ble_eq_true rfl, Nat.le_of_ble_eq_true rfl⟩) hK hZ hS (subP hP [] rfl) rfl hl.1 rfl (Nat.le_of_ble_eq_true rfl) dX0_mix_132 ⟨Nat.zero_le _, Nat.zero_le _⟩ (fun r_41 hr_41 => ?_)
        obtain rfl : r_41 = (rorE (rN fw t 0) (nI 2)) := hr_41
        refine lv_iload_n hx hb dX0_mix_135 rfl (lv_at hl 2 rfl) ?_
        refine lv_bipush (v := (nI 13)) hx hb dX0_mix_136 (by decide) ?_
        refine cSi (rest := [.int (rorE (rN fw t 0) (nI 2))]) ⟨hx, hb, hml, hown, hts⟩ [.int (rN fw t 0), .int (nI 13)] (c_X0_ror l g (x := (rN fw t 0)) (n := (nI 13))) (va_cwS 2 hts gX0_mix_X0_ror rfl rfl rfl (by decide +kernel) ⟨Nat.le_of_ble_eq_true rfl, Nat.le_of_ble_eq_true rfl⟩) hK hZ hS (subP hP [] rfl) rfl hl.1 rfl (Nat.le_of_ble_eq_true rfl) dX0_mix_138 ⟨Nat.zero_le _, Nat.zero_le _⟩ (fun r_42 hr_42 => ?_)
        obtain rfl : r_42 = (rorE (rN fw t 0) (nI 13)) := hr_42
        refine lv_ixor hx hb dX0_mix_141 ?_
        refine lv_iload_n hx hb dX0_mix_142 rfl (lv_at hl 2 rfl) ?_
        refine lv_bipush (v := (nI 22)) hx hb dX0_mix_143 (by decide) ?_
        refine cSi (rest := [.int ((rorE (rN fw t 0) (nI 2)) ^^^ (rorE (rN fw t 0) (nI 13)))]) ⟨hx, hb, hml, hown, hts⟩ [.int (rN fw t 0), .int (nI 22)] (c_X0_ror l g (x := (rN fw t 0)) (n := (nI 22))) (va_cwS 2 hts gX0_mix_X0_ror rfl rfl rfl (by decide +kernel) ⟨Nat.le_of_ble_eq_true rfl, Nat.le_of_ble_eq_true rfl⟩) hK hZ hS (subP hP [] rfl) rfl hl.1 rfl (Nat.le_of_ble_eq_true rfl) dX0_mix_145 ⟨Nat.zero_le _, Nat.zero_le _⟩ (fun r_43 hr_43 => ?_)
        obtain rfl : r_43 = (rorE (rN fw t 0) (nI 22)) := hr_43
        refine lv_ixor hx hb dX0_mix_148 ?_
        refine lv_iload_n hx hb dX0_mix_149 rfl (lv_at hl 2 rfl) ?_
        refine lv_iload_n hx hb dX0_mix_150 rfl (lv_at hl 3 rfl) ?_
        refine lv_iand hx hb dX0_mix_151 ?_
        refine lv_iload_n hx hb dX0_mix_152 rfl (lv_at hl 2 rfl) ?_
        refine lv_iload_n hx hb dX0_mix_153 rfl (lv_at hl 4 rfl) ?_
        refine lv_iand hx hb dX0_mix_154 ?_
        refine lv_ixor hx hb dX0_mix_155 ?_
        refine lv_iload_n hx hb dX0_mix_156 rfl (lv_at hl 3 rfl) ?_
        refine lv_iload_n hx hb dX0_mix_157 rfl (lv_at hl 4 rfl) ?_
        refine lv_iand hx hb dX0_mix_158 ?_
        refine lv_ixor hx hb dX0_mix_159 ?_
        refine lv_iadd hx hb dX0_mix_160 ?_
        refine lv_rei (x' := (rV (rN fw t))) (rfl) ?_
        refine lv_istore (lv' := [(11, .int (rV (rN fw t))), (10, .int (rU (sK t) (fw t) (rN fw t))), (0, .ref dg), (1, .int (rN fw t 0)), (2, .int (rN fw t 1)), (3, .int (rN fw t 2)), (4, .int (rN fw t 3)), (5, .int (rN fw t 4)), (6, .int (rN fw t 5)), (7, .int (rN fw t 6)), (8, .int (rN fw t 7)), (9, .int (nI t))]) hx hb dX0_mix_161 hl (by decide) rfl (fun ls hl => ?_)
        refine lv_iload hx hb dX0_mix_163 (lv_at hl 9 rfl) ?_
        refine lv_rei (x' := (rN fw (t + 1) 7)) (rn_7 fw t) ?_
        refine lv_istore (lv' := [(8, .int (rN fw (t + 1) 7)), (11, .int (rV (rN fw t))), (10, .int (rU (sK t) (fw t) (rN fw t))), (0, .ref dg), (1, .int (rN fw t 0)), (2, .int (rN fw t 1)), (3, .int (rN fw t 2)), (4, .int (rN fw t 3)), (5, .int (rN fw t 4)), (6, .int (rN fw t 5)), (7, .int (rN fw t 6)), (9, .int (nI t))]) hx hb dX0_mix_165 hl (by decide) rfl (fun ls hl => ?_)
        refine lv_iload hx hb dX0_mix_167 (lv_at hl 9 rfl) ?_
        refine lv_rei (x' := (rN fw (t + 1) 6)) (rn_6 fw t) ?_
        refine lv_istore (lv' := [(7, .int (rN fw (t + 1) 6)), (8, .int (rN fw (t + 1) 7)), (11, .int (rV (rN fw t))), (10, .int (rU (sK t) (fw t) (rN fw t))), (0, .ref dg), (1, .int (rN fw t 0)), (2, .int (rN fw t 1)), (3, .int (rN fw t 2)), (4, .int (rN fw t 3)), (5, .int (rN fw t 4)), (6, .int (rN fw t 5)), (9, .int (nI t))]) hx hb dX0_mix_169 hl (by decide) rfl (fun ls hl => ?_)
        refine lv_iload hx hb dX0_mix_171 (lv_at hl 9 rfl) ?_
        refine lv_rei (x' := (rN fw (t + 1) 5)) (rn_5 fw t) ?_
        refine lv_istore (lv' := [(6, .int (rN fw (t + 1) 5)), (7, .int (rN fw (t + 1) 6)), (8, .int (rN fw (t + 1) 7)), (11, .int (rV (rN fw t))), (10, .int (rU (sK t) (fw t) (rN fw t))), (0, .ref dg), (1, .int (rN fw t 0)), (2, .int (rN fw t 1)), (3, .int (rN fw t 2)), (4, .int (rN fw t 3)), (5, .int (rN fw t 4)), (9, .int (nI t))]) hx hb dX0_mix_173 hl (by decide) rfl (fun ls hl => ?_)
        refine lv_iload hx hb dX0_mix_175 (lv_at hl 9 rfl) ?_
        refine lv_iload hx hb dX0_mix_177 (lv_at hl 4 rfl) ?_
        refine lv_iadd hx hb dX0_mix_179 ?_
        refine lv_rei (x' := (rN fw (t + 1) 4)) (rn_4 fw t) ?_
        refine lv_istore (lv' := [(5, .int (rN fw (t + 1) 4)), (6, .int (rN fw (t + 1) 5)), (7, .int (rN fw (t + 1) 6)), (8, .int (rN fw (t + 1) 7)), (11, .int (rV (rN fw t))), (10, .int (rU (sK t) (fw t) (rN fw t))), (0, .ref dg), (1, .int (rN fw t 0)), (2, .int (rN fw t 1)), (3, .int (rN fw t 2)), (4, .int (rN fw t 3)), (9, .int (nI t))]) hx hb dX0_mix_180 hl (by decide) rfl (fun ls hl => ?_)
        refine lv_iload_n hx hb dX0_mix_182 rfl (lv_at hl 9 rfl) ?_
        refine lv_rei (x' := (rN fw (t + 1) 3)) (rn_3 fw t) ?_
        refine lv_istore (lv' := [(4, .int (rN fw (t + 1) 3)), (5, .int (rN fw (t + 1) 4)), (6, .int (rN fw (t + 1) 5)), (7, .int (rN fw (t + 1) 6)), (8, .int (rN fw (t + 1) 7)), (11, .int (rV (rN fw t))), (10, .int (rU (sK t) (fw t) (rN fw t))), (0, .ref dg), (1, .int (rN fw t 0)), (2, .int (rN fw t 1)), (3, .int (rN fw t 2)), (9, .int (nI t))]) hx hb dX0_mix_183 hl (by decide) rfl (fun ls hl => ?_)
        refine lv_iload_n hx hb dX0_mix_185 rfl (lv_at hl 9 rfl) ?_
        refine lv_rei (x' := (rN fw (t + 1) 2)) (rn_2 fw t) ?_
        refine lv_istore_n (lv' := [(3, .int (rN fw (t + 1) 2)), (4, .int (rN fw (t + 1) 3)), (5, .int (rN fw (t + 1) 4)), (6, .int (rN fw (t + 1) 5)), (7, .int (rN fw (t + 1) 6)), (8, .int (rN fw (t + 1) 7)), (11, .int (rV (rN fw t))), (10, .int (rU (sK t) (fw t) (rN fw t))), (0, .ref dg), (1, .int (rN fw t 0)), (2, .int (rN fw t 1)), (9, .int (nI t))]) hx hb dX0_mix_186 rfl hl (by decide) rfl (fun ls hl => ?_)
        refine lv_iload_n hx hb dX0_mix_187 rfl (lv_at hl 9 rfl) ?_
        refine lv_rei (x' := (rN fw (t + 1) 1)) (rn_1 fw t) ?_
        refine lv_istore_n (lv' := [(2, .int (rN fw (t + 1) 1)), (3, .int (rN fw (t + 1) 2)), (4, .int (rN fw (t + 1) 3)), (5, .int (rN fw (t + 1) 4)), (6, .int (rN fw (t + 1) 5)), (7, .int (rN fw (t + 1) 6)), (8, .int (rN fw (t + 1) 7)), (11, .int (rV (rN fw t))), (10, .int (rU (sK t) (fw t) (rN fw t))), (0, .ref dg), (1, .int (rN fw t 0)), (9, .int (nI t))]) hx hb dX0_mix_188 rfl hl (by decide) rfl (fun ls hl => ?_)
        refine lv_iload hx hb dX0_mix_189 (lv_at hl 8 rfl) ?_
        refine lv_iload hx hb dX0_mix_191 (lv_at hl 7 rfl) ?_
        refine lv_iadd hx hb dX0_mix_193 ?_
        refine lv_rei (x' := (rN fw (t + 1) 0)) (rn_0 fw t) ?_
        refine lv_istore_n (lv' := [(1, .int (rN fw (t + 1) 0)), (2, .int (rN fw (t + 1) 1)), (3, .int (rN fw (t + 1) 2)), (4, .int (rN fw (t + 1) 3)), (5, .int (rN fw (t + 1) 4)), (6, .int (rN fw (t + 1) 5)), (7, .int (rN fw (t + 1) 6)), (8, .int (rN fw (t + 1) 7)), (11, .int (rV (rN fw t))), (10, .int (rU (sK t) (fw t) (rN fw t))), (0, .ref dg), (9, .int (nI t))]) hx hb dX0_mix_194 rfl hl (by decide) rfl (fun ls hl => ?_)
        refine lv_iinc (v := (nI (t + 1))) (lv' := [(9, .int (nI (t + 1))), (1, .int (rN fw (t + 1) 0)), (2, .int (rN fw (t + 1) 1)), (3, .int (rN fw (t + 1) 2)), (4, .int (rN fw (t + 1) 3)), (5, .int (rN fw (t + 1) 4)), (6, .int (rN fw (t + 1) 5)), (7, .int (rN fw (t + 1) 6)), (8, .int (rN fw (t + 1) 7)), (11, .int (rV (rN fw t))), (10, .int (rU (sK t) (fw t) (rN fw t))), (0, .ref dg)]) hx hb dX0_mix_195 hl (k := 11) rfl (nI_1 _) (by decide) rfl (fun ls hl => ?_)
        refine lv_goto (tgt := 66) hx hb dX0_mix_198 (by decide) ?_
        exact ihL1 (t + 1) (by omega) (by omega) _ _ hP hD hS ls (lv_sub hl [11, 1, 2, 3, 4, 5, 6, 7, 8, 0] rfl)
      · refine lv_icmp_ge (tgt := 201) hx hb dX0_mix_70 (by decide) (fun _ => ?_) (fun c9 => absurd (nI_le q (by omega)) c9)
        obtain rfl : t = 64 := by omega
        have hF0 : ∀ j, j < 8 → fs j = if j < 0 then sBeg j + rN fw 64 j else fs j := fun j _ => (if_neg (Nat.not_lt_zero j)).symm
        refine lv_aload_n hx hb dX0_mix_201 rfl (lv_at hl 0 rfl) ?_
        refine va_get (D := g.1) (ci := 2) (v := .ref st) (C := RX0) (T := TX0) (N := 3) hx hb hts hiX0 hown hK.1 hP 0 rfl rfl 1 (by decide) (hts (.fieldLink RX0 13 "StampMaker$Digest" "state" "[I") (by decide +kernel)) (fun _ h9 => h9) rfl dX0_mix_202 ?_
        refine lv_iconst (v := (nI 0)) hx hb dX0_mix_205 (by decide) ?_
        refine lv_dup2_11 hx hb dX0_mix_206 rfl rfl ?_
        refine va_iald hx hb hK.1 hP 2 0 rfl rfl (vp_in_nI (by omega) (by omega)) dX0_mix_207 ?_
        refine lv_rei (x' := fs 0) (congrArg fs (nI_clamp (by omega))) ?_
        refine lv_iload_n hx hb dX0_mix_208 rfl (lv_at hl 1 rfl) ?_
        refine lv_iadd hx hb dX0_mix_209 ?_
        refine lv_rei (x' := (sBeg 0 + rN fw 64 0)) (by rw [hF0 0 (by decide), if_neg (by decide), h0 0 (by decide)]) ?_
        refine va_iast hx hb hK.1 hP hD hS 2 0 rfl rfl (vp_in_nI (by omega) (by omega)) dX0_mix_210 (fun H locs hP hD hS => ?_)
        rw [nI_clamp (by omega)] at hP hD
        have hP : va_P g.1 vwCl [(dg, .inr (2, [.ref wa, .ref st, .int rk])), (wa, .inl (g.2.1 0, 64, .inl fw)), (st, .inl (g.2.1 0, 8, .inl (upd fs 0 (sBeg 0 + rN fw 64 0))))] H := hP
        have hD : va_D A [(dg, .inr (2, [.ref wa, .ref st, .int rk])), (wa, .inl (g.2.1 0, 64, .inl fw)), (st, .inl (g.2.1 0, 8, .inl (upd fs 0 (sBeg 0 + rN fw 64 0))))] := hD
        obtain ⟨F1, eF1⟩ : ∃ z, z = upd fs 0 (sBeg 0 + rN fw 64 0) := ⟨_, rfl⟩
        rw [← eF1] at hP hD
        have hF1 : ∀ j, j < 8 → F1 j = if j < 1 then sBeg j + rN fw 64 j else fs j := by rw [eF1]; exact accS hF0 rfl
        refine lv_aload_n hx hb dX0_mix_211 rfl (lv_at hl 0 rfl) ?_
        refine va_get (D := g.1) (ci := 2) (v := .ref st) (C := RX0) (T := TX0) (N := 3) hx hb hts hiX0 hown hK.1 hP 0 rfl rfl 1 (by decide) (hts (.fieldLink RX0 13 "StampMaker$Digest" "state" "[I") (by decide +kernel)) (fun _ h9 => h9) rfl dX0_mix_212 ?_
        refine lv_iconst (v := (nI 1)) hx hb dX0_mix_215 (by decide) ?_
        refine lv_dup2_11 hx hb dX0_mix_216 rfl rfl ?_
        refine va_iald hx hb hK.1 hP 2 0 rfl rfl (vp_in_nI (by omega) (by omega)) dX0_mix_217 ?_
        refine lv_rei (x' := F1 1) (congrArg F1 (nI_clamp (by omega))) ?_
        refine lv_iload_n hx hb dX0_mix_218 rfl (lv_at hl 2 rfl) ?_
        refine lv_iadd hx hb dX0_mix_219 ?_
        refine lv_rei (x' := (sBeg 1 + rN fw 64 1)) (by rw [hF1 1 (by decide), if_neg (by decide), h0 1 (by decide)]) ?_
        refine va_iast hx hb hK.1 hP hD hS 2 0 rfl rfl (vp_in_nI (by omega) (by omega)) dX0_mix_220 (fun H locs hP hD hS => ?_)
        rw [nI_clamp (by omega)] at hP hD
        have hP : va_P g.1 vwCl [(dg, .inr (2, [.ref wa, .ref st, .int rk])), (wa, .inl (g.2.1 0, 64, .inl fw)), (st, .inl (g.2.1 0, 8, .inl (upd F1 1 (sBeg 1 + rN fw 64 1))))] H := hP
        have hD : va_D A [(dg, .inr (2, [.ref wa, .ref st, .int rk])), (wa, .inl (g.2.1 0, 64, .inl fw)), (st, .inl (g.2.1 0, 8, .inl (upd F1 1 (sBeg 1 + rN fw 64 1))))] := hD
        obtain ⟨F2, eF2⟩ : ∃ z, z = upd F1 1 (sBeg 1 + rN fw 64 1) := ⟨_, rfl⟩
        rw [← eF2] at hP hD
        have hF2 : ∀ j, j < 8 → F2 j = if j < 2 then sBeg j + rN fw 64 j else fs j := by rw [eF2]; exact accS hF1 rfl
        refine lv_aload_n hx hb dX0_mix_221 rfl (lv_at hl 0 rfl) ?_
        refine va_get (D := g.1) (ci := 2) (v := .ref st) (C := RX0) (T := TX0) (N := 3) hx hb hts hiX0 hown hK.1 hP 0 rfl rfl 1 (by decide) (hts (.fieldLink RX0 13 "StampMaker$Digest" "state" "[I") (by decide +kernel)) (fun _ h9 => h9) rfl dX0_mix_222 ?_
        refine lv_iconst (v := (nI 2)) hx hb dX0_mix_225 (by decide) ?_
        refine lv_dup2_11 hx hb dX0_mix_226 rfl rfl ?_
        refine va_iald hx hb hK.1 hP 2 0 rfl rfl (vp_in_nI (by omega) (by omega)) dX0_mix_227 ?_
        refine lv_rei (x' := F2 2) (congrArg F2 (nI_clamp (by omega))) ?_
        refine lv_iload_n hx hb dX0_mix_228 rfl (lv_at hl 3 rfl) ?_
        refine lv_iadd hx hb dX0_mix_229 ?_
        refine lv_rei (x' := (sBeg 2 + rN fw 64 2)) (by rw [hF2 2 (by decide), if_neg (by decide), h0 2 (by decide)]) ?_
        refine va_iast hx hb hK.1 hP hD hS 2 0 rfl rfl (vp_in_nI (by omega) (by omega)) dX0_mix_230 (fun H locs hP hD hS => ?_)
        rw [nI_clamp (by omega)] at hP hD
        have hP : va_P g.1 vwCl [(dg, .inr (2, [.ref wa, .ref st, .int rk])), (wa, .inl (g.2.1 0, 64, .inl fw)), (st, .inl (g.2.1 0, 8, .inl (upd F2 2 (sBeg 2 + rN fw 64 2))))] H := hP
        have hD : va_D A [(dg, .inr (2, [.ref wa, .ref st, .int rk])), (wa, .inl (g.2.1 0, 64, .inl fw)), (st, .inl (g.2.1 0, 8, .inl (upd F2 2 (sBeg 2 + rN fw 64 2))))] := hD
        obtain ⟨F3, eF3⟩ : ∃ z, z = upd F2 2 (sBeg 2 + rN fw 64 2) := ⟨_, rfl⟩
        rw [← eF3] at hP hD
        have hF3 : ∀ j, j < 8 → F3 j = if j < 3 then sBeg j + rN fw 64 j else fs j := by rw [eF3]; exact accS hF2 rfl
        refine lv_aload_n hx hb dX0_mix_231 rfl (lv_at hl 0 rfl) ?_
        refine va_get (D := g.1) (ci := 2) (v := .ref st) (C := RX0) (T := TX0) (N := 3) hx hb hts hiX0 hown hK.1 hP 0 rfl rfl 1 (by decide) (hts (.fieldLink RX0 13 "StampMaker$Digest" "state" "[I") (by decide +kernel)) (fun _ h9 => h9) rfl dX0_mix_232 ?_
        refine lv_iconst (v := (nI 3)) hx hb dX0_mix_235 (by decide) ?_
        refine lv_dup2_11 hx hb dX0_mix_236 rfl rfl ?_
        refine va_iald hx hb hK.1 hP 2 0 rfl rfl (vp_in_nI (by omega) (by omega)) dX0_mix_237 ?_
        refine lv_rei (x' := F3 3) (congrArg F3 (nI_clamp (by omega))) ?_
        refine lv_iload hx hb dX0_mix_238 (lv_at hl 4 rfl) ?_
        refine lv_iadd hx hb dX0_mix_240 ?_
        refine lv_rei (x' := (sBeg 3 + rN fw 64 3)) (by rw [hF3 3 (by decide), if_neg (by decide), h0 3 (by decide)]) ?_
        refine va_iast hx hb hK.1 hP hD hS 2 0 rfl rfl (vp_in_nI (by omega) (by omega)) dX0_mix_241 (fun H locs hP hD hS => ?_)
        rw [nI_clamp (by omega)] at hP hD
        have hP : va_P g.1 vwCl [(dg, .inr (2, [.ref wa, .ref st, .int rk])), (wa, .inl (g.2.1 0, 64, .inl fw)), (st, .inl (g.2.1 0, 8, .inl (upd F3 3 (sBeg 3 + rN fw 64 3))))] H := hP
        have hD : va_D A [(dg, .inr (2, [.ref wa, .ref st, .int rk])), (wa, .inl (g.2.1 0, 64, .inl fw)), (st, .inl (g.2.1 0, 8, .inl (upd F3 3 (sBeg 3 + rN fw 64 3))))] := hD
        obtain ⟨F4, eF4⟩ : ∃ z, z = upd F3 3 (sBeg 3 + rN fw 64 3) := ⟨_, rfl⟩
        rw [← eF4] at hP hD
        have hF4 : ∀ j, j < 8 → F4 j = if j < 4 then sBeg j + rN fw 64 j else fs j := by rw [eF4]; exact accS hF3 rfl
        refine lv_aload_n hx hb dX0_mix_242 rfl (lv_at hl 0 rfl) ?_
        refine va_get (D := g.1) (ci := 2) (v := .ref st) (C := RX0) (T := TX0) (N := 3) hx hb hts hiX0 hown hK.1 hP 0 rfl rfl 1 (by decide) (hts (.fieldLink RX0 13 "StampMaker$Digest" "state" "[I") (by decide +kernel)) (fun _ h9 => h9) rfl dX0_mix_243 ?_
        refine lv_iconst (v := (nI 4)) hx hb dX0_mix_246 (by decide) ?_
        refine lv_dup2_11 hx hb dX0_mix_247 rfl rfl ?_
        refine va_iald hx hb hK.1 hP 2 0 rfl rfl (vp_in_nI (by omega) (by omega)) dX0_mix_248 ?_
        refine lv_rei (x' := F4 4) (congrArg F4 (nI_clamp (by omega))) ?_
        refine lv_iload hx hb dX0_mix_249 (lv_at hl 5 rfl) ?_
        refine lv_iadd hx hb dX0_mix_251 ?_
        refine lv_rei (x' := (sBeg 4 + rN fw 64 4)) (by rw [hF4 4 (by decide), if_neg (by decide), h0 4 (by decide)]) ?_
        refine va_iast hx hb hK.1 hP hD hS 2 0 rfl rfl (vp_in_nI (by omega) (by omega)) dX0_mix_252 (fun H locs hP hD hS => ?_)
        rw [nI_clamp (by omega)] at hP hD
        have hP : va_P g.1 vwCl [(dg, .inr (2, [.ref wa, .ref st, .int rk])), (wa, .inl (g.2.1 0, 64, .inl fw)), (st, .inl (g.2.1 0, 8, .inl (upd F4 4 (sBeg 4 + rN fw 64 4))))] H := hP
        have hD : va_D A [(dg, .inr (2, [.ref wa, .ref st, .int rk])), (wa, .inl (g.2.1 0, 64, .inl fw)), (st, .inl (g.2.1 0, 8, .inl (upd F4 4 (sBeg 4 + rN fw 64 4))))] := hD
        obtain ⟨F5, eF5⟩ : ∃ z, z = upd F4 4 (sBeg 4 + rN fw 64 4) := ⟨_, rfl⟩
        rw [← eF5] at hP hD
        have hF5 : ∀ j, j < 8 → F5 j = if j < 5 then sBeg j + rN fw 64 j else fs j := by rw [eF5]; exact accS hF4 rfl
        refine lv_aload_n hx hb dX0_mix_253 rfl (lv_at hl 0 rfl) ?_
        refine va_get (D := g.1) (ci := 2) (v := .ref st) (C := RX0) (T := TX0) (N := 3) hx hb hts hiX0 hown hK.1 hP 0 rfl rfl 1 (by decide) (hts (.fieldLink RX0 13 "StampMaker$Digest" "state" "[I") (by decide +kernel)) (fun _ h9 => h9) rfl dX0_mix_254 ?_
        refine lv_iconst (v := (nI 5)) hx hb dX0_mix_257 (by decide) ?_
        refine lv_dup2_11 hx hb dX0_mix_258 rfl rfl ?_
        refine va_iald hx hb hK.1 hP 2 0 rfl rfl (vp_in_nI (by omega) (by omega)) dX0_mix_259 ?_
        refine lv_rei (x' := F5 5) (congrArg F5 (nI_clamp (by omega))) ?_
        refine lv_iload hx hb dX0_mix_260 (lv_at hl 6 rfl) ?_
        refine lv_iadd hx hb dX0_mix_262 ?_
        refine lv_rei (x' := (sBeg 5 + rN fw 64 5)) (by rw [hF5 5 (by decide), if_neg (by decide), h0 5 (by decide)]) ?_
        refine va_iast hx hb hK.1 hP hD hS 2 0 rfl rfl (vp_in_nI (by omega) (by omega)) dX0_mix_263 (fun H locs hP hD hS => ?_)
        rw [nI_clamp (by omega)] at hP hD
        have hP : va_P g.1 vwCl [(dg, .inr (2, [.ref wa, .ref st, .int rk])), (wa, .inl (g.2.1 0, 64, .inl fw)), (st, .inl (g.2.1 0, 8, .inl (upd F5 5 (sBeg 5 + rN fw 64 5))))] H := hP
        have hD : va_D A [(dg, .inr (2, [.ref wa, .ref st, .int rk])), (wa, .inl (g.2.1 0, 64, .inl fw)), (st, .inl (g.2.1 0, 8, .inl (upd F5 5 (sBeg 5 + rN fw 64 5))))] := hD
        obtain ⟨F6, eF6⟩ : ∃ z, z = upd F5 5 (sBeg 5 + rN fw 64 5) := ⟨_, rfl⟩
        rw [← eF6] at hP hD
        have hF6 : ∀ j, j < 8 → F6 j = if j < 6 then sBeg j + rN fw 64 j else fs j := by rw [eF6]; exact accS hF5 rfl
        refine lv_aload_n hx hb dX0_mix_264 rfl (lv_at hl 0 rfl) ?_
        refine va_get (D := g.1) (ci := 2) (v := .ref st) (C := RX0) (T := TX0) (N := 3) hx hb hts hiX0 hown hK.1 hP 0 rfl rfl 1 (by decide) (hts (.fieldLink RX0 13 "StampMaker$Digest" "state" "[I") (by decide +kernel)) (fun _ h9 => h9) rfl dX0_mix_265 ?_
        refine lv_bipush (v := (nI 6)) hx hb dX0_mix_268 (by decide) ?_
        refine lv_dup2_11 hx hb dX0_mix_270 rfl rfl ?_
        refine va_iald hx hb hK.1 hP 2 0 rfl rfl (vp_in_nI (by omega) (by omega)) dX0_mix_271 ?_
        refine lv_rei (x' := F6 6) (congrArg F6 (nI_clamp (by omega))) ?_
        refine lv_iload hx hb dX0_mix_272 (lv_at hl 7 rfl) ?_
        refine lv_iadd hx hb dX0_mix_274 ?_
        refine lv_rei (x' := (sBeg 6 + rN fw 64 6)) (by rw [hF6 6 (by decide), if_neg (by decide), h0 6 (by decide)]) ?_
        refine va_iast hx hb hK.1 hP hD hS 2 0 rfl rfl (vp_in_nI (by omega) (by omega)) dX0_mix_275 (fun H locs hP hD hS => ?_)
        rw [nI_clamp (by omega)] at hP hD
        have hP : va_P g.1 vwCl [(dg, .inr (2, [.ref wa, .ref st, .int rk])), (wa, .inl (g.2.1 0, 64, .inl fw)), (st, .inl (g.2.1 0, 8, .inl (upd F6 6 (sBeg 6 + rN fw 64 6))))] H := hP
        have hD : va_D A [(dg, .inr (2, [.ref wa, .ref st, .int rk])), (wa, .inl (g.2.1 0, 64, .inl fw)), (st, .inl (g.2.1 0, 8, .inl (upd F6 6 (sBeg 6 + rN fw 64 6))))] := hD
        obtain ⟨F7, eF7⟩ : ∃ z, z = upd F6 6 (sBeg 6 + rN fw 64 6) := ⟨_, rfl⟩
        rw [← eF7] at hP hD
        have hF7 : ∀ j, j < 8 → F7 j = if j < 7 then sBeg j + rN fw 64 j else fs j := by rw [eF7]; exact accS hF6 rfl
        refine lv_aload_n hx hb dX0_mix_276 rfl (lv_at hl 0 rfl) ?_
        refine va_get (D := g.1) (ci := 2) (v := .ref st) (C := RX0) (T := TX0) (N := 3) hx hb hts hiX0 hown hK.1 hP 0 rfl rfl 1 (by decide) (hts (.fieldLink RX0 13 "StampMaker$Digest" "state" "[I") (by decide +kernel)) (fun _ h9 => h9) rfl dX0_mix_277 ?_
        refine lv_bipush (v := (nI 7)) hx hb dX0_mix_280 (by decide) ?_
        refine lv_dup2_11 hx hb dX0_mix_282 rfl rfl ?_
        refine va_iald hx hb hK.1 hP 2 0 rfl rfl (vp_in_nI (by omega) (by omega)) dX0_mix_283 ?_
        refine lv_rei (x' := F7 7) (congrArg F7 (nI_clamp (by omega))) ?_
        refine lv_iload hx hb dX0_mix_284 (lv_at hl 8 rfl) ?_
        refine lv_iadd hx hb dX0_mix_286 ?_
        refine lv_rei (x' := (sBeg 7 + rN fw 64 7)) (by rw [hF7 7 (by decide), if_neg (by decide), h0 7 (by decide)]) ?_
        refine va_iast hx hb hK.1 hP hD hS 2 0 rfl rfl (vp_in_nI (by omega) (by omega)) dX0_mix_287 (fun H locs hP hD hS => ?_)
        rw [nI_clamp (by omega)] at hP hD
        have hP : va_P g.1 vwCl [(dg, .inr (2, [.ref wa, .ref st, .int rk])), (wa, .inl (g.2.1 0, 64, .inl fw)), (st, .inl (g.2.1 0, 8, .inl (upd F7 7 (sBeg 7 + rN fw 64 7))))] H := hP
        have hD : va_D A [(dg, .inr (2, [.ref wa, .ref st, .int rk])), (wa, .inl (g.2.1 0, 64, .inl fw)), (st, .inl (g.2.1 0, 8, .inl (upd F7 7 (sBeg 7 + rN fw 64 7))))] := hD
        obtain ⟨F8, eF8⟩ : ∃ z, z = upd F7 7 (sBeg 7 + rN fw 64 7) := ⟨_, rfl⟩
        rw [← eF8] at hP hD
        have hF8 : ∀ j, j < 8 → F8 j = if j < 8 then sBeg j + rN fw 64 j else fs j := by rw [eF8]; exact accS hF7 rfl
        exact endWv F8 hx hb hr hlocks hS dX0_mix_288 hP hD (fun j hj => by rw [hF8 j hj, if_pos hj])
  exact L1 65 0 (by omega) (by omega) _ _ hP hD hS ls (lv_sub hl [9, 8, 7, 6, 5, 4, 3, 2, 1, 0] rfl)

set_option maxHeartbeats 4000000 in
set_option maxRecDepth 100000 in
/-- the digest reckoned -/
theorem c_X0_reckon (l : Launch) (g : gE) (hsz : Nat) (dg wa st : Nat) (rk : Int32) (fw fs : Nat → Int32) (k kb : Nat) (fr un cl : Int32) (f : Nat → Int32) (sz N : Nat) (hz : sz ≤ 32) (hN : N < 36028797018963968) : Met l yX0_reckon wsX0_reckon ({ frames := 3, cells := 0, slots := 0, locals := 70 }) (va_Pc [.ref dg, .ref k, .long (lN N)] (wr g [(dg, .inr (2, [.ref wa, .ref st, .int rk])), (wa, .inl (g.2.1 0, 64, .inl fw)), (st, .inl (g.2.1 0, 8, .inl fs)), (k, .inr (3, [.int fr, .int un, .ref kb, .int (nI sz), .int cl])), (kb, .inl (g.2.1 1, 32, .inl f))] hsz)) (va_Qv (fun (u : ((Nat → Int32) × (Nat → Int32))) => ∀ j, j < 8 → u.2 j = dG f sz N j) (wB g (va_A [(dg, .inr (2, [.ref wa, .ref st, .int rk])), (wa, .inl (g.2.1 0, 64, .inl fw)), (st, .inl (g.2.1 0, 8, .inl fs)), (k, .inr (3, [.int fr, .int un, .ref kb, .int (nI sz), .int cl])), (kb, .inl (g.2.1 1, 32, .inl f))] hsz) (fun u : ((Nat → Int32) × (Nat → Int32)) => [(dg, .inr (2, [.ref wa, .ref st, .int (nI 1)])), (wa, .inl (g.2.1 0, 64, .inl u.1)), (st, .inl (g.2.1 0, 8, .inl u.2)), (k, .inr (3, [.int fr, .int un, .ref kb, .int (nI sz), .int cl])), (kb, .inl (g.2.1 1, 32, .inl f))])) (va_A [(dg, .inr (2, [.ref wa, .ref st, .int rk])), (wa, .inl (g.2.1 0, 64, .inl fw)), (st, .inl (g.2.1 0, 8, .inl fs)), (k, .inr (3, [.int fr, .int un, .ref kb, .int (nI sz), .int cl])), (kb, .inl (g.2.1 1, 32, .inl f))] hsz)) 0 0 (va_A [(dg, .inr (2, [.ref wa, .ref st, .int rk])), (wa, .inl (g.2.1 0, 64, .inl fw)), (st, .inl (g.2.1 0, 8, .inl fs)), (k, .inr (3, [.int fr, .int un, .ref kb, .int (nI sz), .int cl])), (kb, .inl (g.2.1 1, 32, .inl f))] hsz) := by
  refine ofWv (cc := cX0_reckon) (maxL := 5) (ret := none) (by decide) rfl (Nat.le_of_ble_eq_true rfl) (fun p e s m below meth c hx hb hr hml hts hown hlocks hnm A H hH hA hP hD hK hZ hS ls hl => ?_)
  have hown : s.vm.findClass RX0 = some m.cls := hown
  have hl : lv_has ls 5 [(0, .ref dg), (1, .ref k), (2, .long (lN N))] := hl
  have hiX0 : ∀ w ∈ wsX00, w ∈ wsX0_reckon := by decide +kernel
  refine lv_iconst (v := (nI 0)) hx hb dX0_reckon_0 (by decide) ?_
  refine lv_istore (lv' := [(4, .int (nI 0)), (0, .ref dg), (1, .ref k), (2, .long (lN N))]) hx hb dX0_reckon_1 hl (by decide) rfl (fun ls hl => ?_)
  have L1 : ∀ (fu : Nat) (t : Nat) (F : Nat → Int32), (15 ≤ t + fu) → (t ≤ 14) → (∀ j, j < t → F j = mW f sz N j) → ∀ (H : Heap) (locs : List Loc), va_P g.1 vwCl [(dg, .inr (2, [.ref wa, .ref st, .int rk])), (wa, .inl (g.2.1 0, 64, .inl F)), (st, .inl (g.2.1 0, 8, .inl fs)), (k, .inr (3, [.int fr, .int un, .ref kb, .int (nI sz), .int cl])), (kb, .inl (g.2.1 1, 32, .inl f))] H → va_D A [(dg, .inr (2, [.ref wa, .ref st, .int rk])), (wa, .inl (g.2.1 0, 64, .inl F)), (st, .inl (g.2.1 0, 8, .inl fs)), (k, .inr (3, [.int fr, .int un, .ref kb, .int (nI sz), .int cl])), (kb, .inl (g.2.1 1, 32, .inl f))] → va_S A s.heap H locs → ∀ ls : Array Slot, lv_has ls 5 [(0, .ref dg), (1, .ref k), (2, .long (lN N)), (4, .int (nI t))] → W p l e (headSpec wsX0_reckon ({ frames := 3, cells := 0, slots := 0, locals := 70 } : Room)).room s m ([.ref dg, .ref k, .long (lN N)] : List Value).toArray below meth c H locs 0 0 (MQ below (va_Qv (fun (u : ((Nat → Int32) × (Nat → Int32))) => ∀ j, j < 8 → u.2 j = dG f sz N j) (wB g A (fun u : ((Nat → Int32) × (Nat → Int32)) => [(dg, .inr (2, [.ref wa, .ref st, .int (nI 1)])), (wa, .inl (g.2.1 0, 64, .inl u.1)), (st, .inl (g.2.1 0, 8, .inl u.2)), (k, .inr (3, [.int fr, .int un, .ref kb, .int (nI sz), .int cl])), (kb, .inl (g.2.1 1, 32, .inl f))])) A) ([.ref dg, .ref k, .long (lN N)] : List Value).toArray s 0 0 A) (F0 m 3 ls []) := by
    intro fu
    induction fu with
    | zero => intro t F h1 h2 h3 H locs hP hD hS ls hl; exact absurd h1 (by omega)
    | succ fu ihL1 =>
      intro t F h1 h2 h3 H locs hP hD hS ls hl
      refine lv_iload hx hb dX0_reckon_3 (lv_at hl 3 rfl) ?_
      refine lv_bipush (v := (nI 14)) hx hb dX0_reckon_5 (by decide) ?_
      rcases Nat.lt_or_ge t 14 with q | q
      · refine lv_icmp_ge (tgt := 32) hx hb dX0_reckon_7 (by decide) (fun c9 => absurd c9 (nI_ge (by omega) (by omega))) (fun _ => ?_)
        refine lv_aload_n hx hb dX0_reckon_10 rfl (lv_at hl 0 rfl) ?_
        refine va_get (D := g.1) (ci := 2) (v := .ref wa) (C := RX0) (T := TX0) (N := 3) hx hb hts hiX0 hown hK.1 hP 0 rfl rfl 0 (by decide) (hts (.fieldLink RX0 9 "StampMaker$Digest" "w" "[I") (by decide +kernel)) (fun _ h9 => h9) rfl dX0_reckon_11 ?_
        refine lv_iload hx hb dX0_reckon_14 (lv_at hl 3 rfl) ?_
        refine lv_aload_n hx hb dX0_reckon_16 rfl (lv_at hl 1 rfl) ?_
        refine lv_lload_n hx hb dX0_reckon_17 rfl (lv_at hl 2 rfl) ?_
        refine lv_iconst (v := (nI 4)) hx hb dX0_reckon_18 (by decide) ?_
        refine lv_iload hx hb dX0_reckon_19 (lv_at hl 3 rfl) ?_
        refine lv_imul hx hb dX0_reckon_21 ?_
        refine lv_rei (x' := (nI (4 * t))) (pk_mul _ _) ?_
        refine cSi (rest := [.int (nI t), .ref wa]) ⟨hx, hb, hml, hown, hts⟩ [.ref k, .long (lN N), .int (nI (4 * t))] (c_X0_numberOf l g (k := k) (kb := kb) (fr := fr) (un := un) (cl := cl) (f := f) (sz := sz) (N := N) (t := t) hz hN q) (va_cwS 3 hts gX0_reckon_X0_numberOf rfl rfl rfl (by decide +kernel) ⟨Nat.le_of_ble_eq_true rfl, Nat.le_of_ble_eq_true rfl⟩) hK hZ hS (subP hP [3, 4] rfl) rfl hl.1 rfl (Nat.le_of_ble_eq_true rfl) dX0_reckon_22 ⟨Nat.zero_le _, Nat.zero_le _⟩ (fun r_44 hr_44 => ?_)
        obtain rfl : r_44 = (nI (m4 f sz N t)) := hr_44
        refine va_iast hx hb hK.1 hP hD hS 1 0 rfl rfl (vp_in_nI (by omega) (by omega)) dX0_reckon_25 (fun H locs hP hD hS => ?_)
        rw [nI_clamp (by omega)] at hP hD
        have hP : va_P g.1 vwCl [(dg, .inr (2, [.ref wa, .ref st, .int rk])), (wa, .inl (g.2.1 0, 64, .inl (upd F t (nI (m4 f sz N t))))), (st, .inl (g.2.1 0, 8, .inl fs)), (k, .inr (3, [.int fr, .int un, .ref kb, .int (nI sz), .int cl])), (kb, .inl (g.2.1 1, 32, .inl f))] H := hP
        have hD : va_D A [(dg, .inr (2, [.ref wa, .ref st, .int rk])), (wa, .inl (g.2.1 0, 64, .inl (upd F t (nI (m4 f sz N t))))), (st, .inl (g.2.1 0, 8, .inl fs)), (k, .inr (3, [.int fr, .int un, .ref kb, .int (nI sz), .int cl])), (kb, .inl (g.2.1 1, 32, .inl f))] := hD
        refine lv_iinc (v := (nI (t + 1))) (lv' := [(4, .int (nI (t + 1))), (0, .ref dg), (1, .ref k), (2, .long (lN N))]) hx hb dX0_reckon_26 hl (k := 3) rfl (nI_1 _) (by decide) rfl (fun ls hl => ?_)
        refine lv_goto (tgt := 3) hx hb dX0_reckon_29 (by decide) ?_
        exact ihL1 (t + 1) (upd F t (nI (m4 f sz N t))) (by omega) (by omega) (fillS h3 (by unfold mW; rw [if_pos q])) _ _ hP hD hS ls (lv_sub hl [1, 2, 3, 0] rfl)
      · refine lv_icmp_ge (tgt := 32) hx hb dX0_reckon_7 (by decide) (fun _ => ?_) (fun c9 => absurd (nI_le q (by omega)) c9)
        obtain rfl : t = 14 := by omega
        refine lv_aload_n hx hb dX0_reckon_32 rfl (lv_at hl 0 rfl) ?_
        refine va_get (D := g.1) (ci := 2) (v := .ref wa) (C := RX0) (T := TX0) (N := 3) hx hb hts hiX0 hown hK.1 hP 0 rfl rfl 0 (by decide) (hts (.fieldLink RX0 9 "StampMaker$Digest" "w" "[I") (by decide +kernel)) (fun _ h9 => h9) rfl dX0_reckon_33 ?_
        refine lv_bipush (v := (nI 14)) hx hb dX0_reckon_36 (by decide) ?_
        refine lv_iconst (v := (nI 0)) hx hb dX0_reckon_38 (by decide) ?_
        refine va_iast hx hb hK.1 hP hD hS 1 0 rfl rfl (vp_in_nI (by omega) (by omega)) dX0_reckon_39 (fun H locs hP hD hS => ?_)
        rw [nI_clamp (by omega)] at hP hD
        have hP : va_P g.1 vwCl [(dg, .inr (2, [.ref wa, .ref st, .int rk])), (wa, .inl (g.2.1 0, 64, .inl (upd F 14 (nI 0)))), (st, .inl (g.2.1 0, 8, .inl fs)), (k, .inr (3, [.int fr, .int un, .ref kb, .int (nI sz), .int cl])), (kb, .inl (g.2.1 1, 32, .inl f))] H := hP
        have hD : va_D A [(dg, .inr (2, [.ref wa, .ref st, .int rk])), (wa, .inl (g.2.1 0, 64, .inl (upd F 14 (nI 0)))), (st, .inl (g.2.1 0, 8, .inl fs)), (k, .inr (3, [.int fr, .int un, .ref kb, .int (nI sz), .int cl])), (kb, .inl (g.2.1 1, 32, .inl f))] := hD
        refine lv_aload_n hx hb dX0_reckon_40 rfl (lv_at hl 0 rfl) ?_
        refine va_get (D := g.1) (ci := 2) (v := .ref wa) (C := RX0) (T := TX0) (N := 3) hx hb hts hiX0 hown hK.1 hP 0 rfl rfl 0 (by decide) (hts (.fieldLink RX0 9 "StampMaker$Digest" "w" "[I") (by decide +kernel)) (fun _ h9 => h9) rfl dX0_reckon_41 ?_
        refine lv_bipush (v := (nI 15)) hx hb dX0_reckon_44 (by decide) ?_
        refine lv_bipush (v := (nI 8)) hx hb dX0_reckon_46 (by decide) ?_
        refine lv_aload_n hx hb dX0_reckon_48 rfl (lv_at hl 1 rfl) ?_
        refine cVi (rest := [.int (nI 8), .int (nI 15), .ref wa]) ⟨hx, hb, hml, hown, hts⟩ [] (c_X2_size l g (k := k) (kb := kb) (fr := fr) (un := un) (cn := (nI sz)) (cl := cl)) (cwV 0 hts gX0_reckon_X2_size rfl rfl rfl (by decide +kernel) ⟨Nat.le_of_ble_eq_true rfl, Nat.le_of_ble_eq_true rfl⟩) hK hZ hS (subP hP [3] rfl) (va_recv hK.1 hP (ci := 3) (q0 := 3) rfl rfl) rfl hl.1 rfl (Nat.le_of_ble_eq_true rfl) dX0_reckon_49 ⟨Nat.zero_le _, Nat.zero_le _⟩ (fun r_45 hr_45 => ?_)
        obtain rfl : r_45 = (nI sz) := hr_45
        refine lv_bipush (v := (nI 7)) hx hb dX0_reckon_52 (by decide) ?_
        refine lv_iadd hx hb dX0_reckon_54 ?_
        refine lv_rei (x' := (nI (sz + 7))) (nI_add _ _) ?_
        refine lv_imul hx hb dX0_reckon_55 ?_
        refine lv_rei (x' := (nI (8 * (sz + 7)))) (pk_mul _ _) ?_
        refine va_iast hx hb hK.1 hP hD hS 1 0 rfl rfl (vp_in_nI (by omega) (by omega)) dX0_reckon_56 (fun H locs hP hD hS => ?_)
        rw [nI_clamp (by omega)] at hP hD
        have hP : va_P g.1 vwCl [(dg, .inr (2, [.ref wa, .ref st, .int rk])), (wa, .inl (g.2.1 0, 64, .inl (upd (upd F 14 (nI 0)) 15 (nI (8 * (sz + 7)))))), (st, .inl (g.2.1 0, 8, .inl fs)), (k, .inr (3, [.int fr, .int un, .ref kb, .int (nI sz), .int cl])), (kb, .inl (g.2.1 1, 32, .inl f))] H := hP
        have hD : va_D A [(dg, .inr (2, [.ref wa, .ref st, .int rk])), (wa, .inl (g.2.1 0, 64, .inl (upd (upd F 14 (nI 0)) 15 (nI (8 * (sz + 7)))))), (st, .inl (g.2.1 0, 8, .inl fs)), (k, .inr (3, [.int fr, .int un, .ref kb, .int (nI sz), .int cl])), (kb, .inl (g.2.1 1, 32, .inl f))] := hD
        refine lv_aload_n hx hb dX0_reckon_57 rfl (lv_at hl 0 rfl) ?_
        obtain ⟨G1, eG1⟩ : ∃ z, z = upd (upd F 14 (nI 0)) 15 (nI (8 * (sz + 7))) := ⟨_, rfl⟩
        rw [← eG1] at hP hD
        have hG1 : ∀ j, j < 16 → G1 j = mW f sz N j := by rw [eG1]; exact fillS (fillS h3 rfl) rfl
        refine wVv (rest := []) ⟨hx, hb, hml, hown, hts⟩ [] [0, 1] (c_X0_stretch l g H.size (dg := dg) (wa := wa) (st := st) (rk := rk) (f := G1)) (cwV 0 hts gX0_reckon_X0_stretch rfl rfl rfl (by decide +kernel) ⟨Nat.le_of_ble_eq_true rfl, Nat.le_of_ble_eq_true rfl⟩) hK hZ hS hP hD hA rfl (by decide) (fun _ => Nat.le_of_ble_eq_true rfl) (fun _ => rfl) (va_recv hK.1 hP (ci := 2) (q0 := 0) rfl rfl) rfl hl.1 rfl (Nat.le_of_ble_eq_true rfl) dX0_reckon_58 ⟨Nat.le_of_ble_eq_true rfl, Nat.le_of_ble_eq_true rfl⟩ (fun u H locs hz1 hP hD hS => ?_)
        obtain ⟨G2, rfl⟩ : ∃ z, z = u := ⟨_, rfl⟩
        have hP : va_P g.1 vwCl [(dg, .inr (2, [.ref wa, .ref st, .int rk])), (wa, .inl (g.2.1 0, 64, .inl G2)), (st, .inl (g.2.1 0, 8, .inl fs)), (k, .inr (3, [.int fr, .int un, .ref kb, .int (nI sz), .int cl])), (kb, .inl (g.2.1 1, 32, .inl f))] H := hP
        have hD : va_D A [(dg, .inr (2, [.ref wa, .ref st, .int rk])), (wa, .inl (g.2.1 0, 64, .inl G2)), (st, .inl (g.2.1 0, 8, .inl fs)), (k, .inr (3, [.int fr, .int un, .ref kb, .int (nI sz), .int cl])), (kb, .inl (g.2.1 1, 32, .inl f))] := hD
        refine lv_iconst (v := (nI 0)) hx hb dX0_reckon_61 (by decide) ?_
        refine lv_istore (lv' := [(4, .int (nI 0)), (0, .ref dg), (1, .ref k), (2, .long (lN N))]) hx hb dX0_reckon_62 hl (by decide) rfl (fun ls hl => ?_)
        have L2 : ∀ (fu : Nat) (i : Nat) (S : Nat → Int32), (9 ≤ i + fu) → (i ≤ 8) → (∀ j, j < i → S j = sBeg j) → ∀ (H : Heap) (locs : List Loc), va_P g.1 vwCl [(dg, .inr (2, [.ref wa, .ref st, .int rk])), (wa, .inl (g.2.1 0, 64, .inl G2)), (st, .inl (g.2.1 0, 8, .inl S)), (k, .inr (3, [.int fr, .int un, .ref kb, .int (nI sz), .int cl])), (kb, .inl (g.2.1 1, 32, .inl f))] H → va_D A [(dg, .inr (2, [.ref wa, .ref st, .int rk])), (wa, .inl (g.2.1 0, 64, .inl G2)), (st, .inl (g.2.1 0, 8, .inl S)), (k, .inr (3, [.int fr, .int un, .ref kb, .int (nI sz), .int cl])), (kb, .inl (g.2.1 1, 32, .inl f))] → va_S A s.heap H locs → ∀ ls : Array Slot, lv_has ls 5 [(0, .ref dg), (1, .ref k), (2, .long (lN N)), (4, .int (nI i))] → W p l e (headSpec wsX0_reckon ({ frames := 3, cells := 0, slots := 0, locals := 70 } : Room)).room s m ([.ref dg, .ref k, .long (lN N)] : List Value).toArray below meth c H locs 0 0 (MQ below (va_Qv (fun (u : ((Nat → Int32) × (Nat → Int32))) => ∀ j, j < 8 → u.2 j = dG f sz N j) (wB g A (fun u : ((Nat → Int32) × (Nat → Int32)) => [(dg, .inr (2, [.ref wa, .ref st, .int (nI 1)])), (wa, .inl (g.2.1 0, 64, .inl u.1)), (st, .inl (g.2.1 0, 8, .inl u.2)), (k, .inr (3, [.int fr, .int un, .ref kb, .int (nI sz), .int cl])), (kb, .inl (g.2.1 1, 32, .inl f))])) A) ([.ref dg, .ref k, .long (lN N)] : List Value).toArray s 0 0 A) (F0 m 64 ls []) := by
          intro fu
          induction fu with
          | zero => intro i S k1 k2 k3 H locs hP hD hS ls hl; exact absurd k1 (by omega)
          | succ fu ihL2 =>
            intro i S k1 k2 k3 H locs hP hD hS ls hl
            refine lv_iload hx hb dX0_reckon_64 (lv_at hl 3 rfl) ?_
            refine lv_bipush (v := (nI 8)) hx hb dX0_reckon_66 (by decide) ?_
            rcases Nat.lt_or_ge i 8 with q2 | q2
            · refine lv_icmp_ge (tgt := 90) hx hb dX0_reckon_68 (by decide) (fun c9 => absurd c9 (nI_ge (by omega) (by omega))) (fun _ => ?_)
              refine lv_aload_n hx hb dX0_reckon_71 rfl (lv_at hl 0 rfl) ?_
              refine va_get (D := g.1) (ci := 2) (v := .ref st) (C := RX0) (T := TX0) (N := 3) hx hb hts hiX0 hown hK.1 hP 0 rfl rfl 1 (by decide) (hts (.fieldLink RX0 13 "StampMaker$Digest" "state" "[I") (by decide +kernel)) (fun _ h9 => h9) rfl dX0_reckon_72 ?_
              refine lv_iload hx hb dX0_reckon_75 (lv_at hl 3 rfl) ?_
              refine va_gets hx hb hZ.1 hS hown (hts (.fieldLink RX0 33 "StampMaker$Digest" "START" "[I") (by decide +kernel)) (fun _ h9 => h9) dX0_reckon_77 ?_
              refine lv_iload hx hb dX0_reckon_80 (lv_at hl 3 rfl) ?_
              refine va_ti (v := .int (sBeg i)) hx hb hZ.2.1 hS (vp_in_nI (by omega) (by omega)) (by rw [nI_clamp (by omega)]) dX0_reckon_82 ?_
              refine va_iast hx hb hK.1 hP hD hS 2 0 rfl rfl (vp_in_nI (by omega) (by omega)) dX0_reckon_83 (fun H locs hP hD hS => ?_)
              rw [nI_clamp (by omega)] at hP hD
              have hP : va_P g.1 vwCl [(dg, .inr (2, [.ref wa, .ref st, .int rk])), (wa, .inl (g.2.1 0, 64, .inl G2)), (st, .inl (g.2.1 0, 8, .inl (upd S i (sBeg i)))), (k, .inr (3, [.int fr, .int un, .ref kb, .int (nI sz), .int cl])), (kb, .inl (g.2.1 1, 32, .inl f))] H := hP
              have hD : va_D A [(dg, .inr (2, [.ref wa, .ref st, .int rk])), (wa, .inl (g.2.1 0, 64, .inl G2)), (st, .inl (g.2.1 0, 8, .inl (upd S i (sBeg i)))), (k, .inr (3, [.int fr, .int un, .ref kb, .int (nI sz), .int cl])), (kb, .inl (g.2.1 1, 32, .inl f))] := hD
              refine lv_iinc (v := (nI (i + 1))) (lv' := [(4, .int (nI (i + 1))), (0, .ref dg), (1, .ref k), (2, .long (lN N))]) hx hb dX0_reckon_84 hl (k := 3) rfl (nI_1 _) (by decide) rfl (fun ls hl => ?_)
              refine lv_goto (tgt := 64) hx hb dX0_reckon_87 (by decide) ?_
              exact ihL2 (i + 1) (upd S i (sBeg i)) (by omega) (by omega) (fillS k3 rfl) _ _ hP hD hS ls (lv_sub hl [1, 2, 3, 0] rfl)
            · refine lv_icmp_ge (tgt := 90) hx hb dX0_reckon_68 (by decide) (fun _ => ?_) (fun c9 => absurd (nI_le q2 (by omega)) c9)
              refine lv_aload_n hx hb dX0_reckon_90 rfl (lv_at hl 0 rfl) ?_
              refine wVv (rest := []) ⟨hx, hb, hml, hown, hts⟩ [] [0, 1, 2] (c_X0_mix l g H.size (dg := dg) (wa := wa) (st := st) (rk := rk) (fw := G2) (fs := S) (fun j hj => k3 j (by omega))) (cwV 0 hts gX0_reckon_X0_mix rfl rfl rfl (by decide +kernel) ⟨Nat.le_of_ble_eq_true rfl, Nat.le_of_ble_eq_true rfl⟩) hK hZ hS hP hD hA rfl (by decide) (fun _ => Nat.le_of_ble_eq_true rfl) (fun _ => rfl) (va_recv hK.1 hP (ci := 2) (q0 := 0) rfl rfl) rfl hl.1 rfl (Nat.le_of_ble_eq_true rfl) dX0_reckon_91 ⟨Nat.le_of_ble_eq_true rfl, Nat.le_of_ble_eq_true rfl⟩ (fun u H locs hz2 hP hD hS => ?_)
              obtain ⟨S3, rfl⟩ : ∃ z, z = u := ⟨_, rfl⟩
              have hP : va_P g.1 vwCl [(dg, .inr (2, [.ref wa, .ref st, .int rk])), (wa, .inl (g.2.1 0, 64, .inl G2)), (st, .inl (g.2.1 0, 8, .inl S3)), (k, .inr (3, [.int fr, .int un, .ref kb, .int (nI sz), .int cl])), (kb, .inl (g.2.1 1, 32, .inl f))] H := hP
              have hD : va_D A [(dg, .inr (2, [.ref wa, .ref st, .int rk])), (wa, .inl (g.2.1 0, 64, .inl G2)), (st, .inl (g.2.1 0, 8, .inl S3)), (k, .inr (3, [.int fr, .int un, .ref kb, .int (nI sz), .int cl])), (kb, .inl (g.2.1 1, 32, .inl f))] := hD
              refine lv_aload_n hx hb dX0_reckon_94 rfl (lv_at hl 0 rfl) ?_
              refine lv_iconst (v := (nI 1)) hx hb dX0_reckon_95 (by decide) ?_
              refine va_put (D := g.1) (ci := 2) (v := .int (nI 1)) (ty := .boolean) (C := RX0) (T := TX0) (N := 3) hx hb hts hiX0 tyX0 tyX0_ok nmX0 hown hK.1 hP hD hS 0 rfl rfl 2 (by decide) (hts (.fieldLink RX0 16 "StampMaker$Digest" "reckoned" "Z") (by decide +kernel)) (fun _ h9 => h9) rfl (by decide +kernel) (by decide) (by decide) (Nat.le_of_ble_eq_true rfl) dX0_reckon_96 (fun H locs hP hD hS => ?_)
              have hP : va_P g.1 vwCl [(dg, .inr (2, [.ref wa, .ref st, .int (nI 1)])), (wa, .inl (g.2.1 0, 64, .inl G2)), (st, .inl (g.2.1 0, 8, .inl S3)), (k, .inr (3, [.int fr, .int un, .ref kb, .int (nI sz), .int cl])), (kb, .inl (g.2.1 1, 32, .inl f))] H := hP
              have hD : va_D A [(dg, .inr (2, [.ref wa, .ref st, .int (nI 1)])), (wa, .inl (g.2.1 0, 64, .inl G2)), (st, .inl (g.2.1 0, 8, .inl S3)), (k, .inr (3, [.int fr, .int un, .ref kb, .int (nI sz), .int cl])), (kb, .inl (g.2.1 1, 32, .inl f))] := hD
              exact endWv (G2, S3) hx hb hr hlocks hS dX0_reckon_99 hP hD (fun j hj => by
                                  have e1 : (G2, S3).2 j = sBeg j + rN G2 64 j := hz2 j hj
                                  rw [e1]
                                  unfold dG
                                  rw [rN_cong (n := 64) (fun i hi => (hz1 i hi).trans (wF_cong (fun j hj => hG1 j hj) 48 i (by omega))) 64 (Nat.le_refl _)])
        exact L2 9 0 fs (by omega) (by omega) (fun j hj => absurd hj (Nat.not_lt_zero j)) _ _ hP hD hS ls (lv_sub hl [1, 2, 3, 0] rfl)
  exact L1 15 0 fw (by omega) (by omega) (fun j hj => absurd hj (Nat.not_lt_zero j)) _ _ hP hD hS ls (lv_sub hl [1, 2, 3, 0] rfl)

set_option maxHeartbeats 4000000 in
set_option maxRecDepth 100000 in
/-- was one reckoned -/
theorem c_X0_isReckoned (l : Launch) (g : gE) (dg wa st : Nat) (rk : Int32) (hk : rk = 0 ∨ rk = 1) : Met l yX0_isReckoned wsX0_isReckoned ({ frames := 0, cells := 0, slots := 0, locals := 0 }) (va_Pc [.ref dg] (ro g [(dg, .inr (2, [.ref wa, .ref st, .int rk]))])) (vp_Si (fun r : Int32 => r = rk)) 0 0 nA := by
  refine ofRo (cc := cX0_isReckoned) (maxL := 1) (ret := (some .boolean)) (by decide) rfl (Nat.le_of_ble_eq_true rfl) (fun p e s m below meth c hx hb hr hml hts hown hlocks hnm hP hK hZ hS ls hl => ?_)
  have hown : s.vm.findClass RX0 = some m.cls := hown
  have hl : lv_has ls 1 [(0, .ref dg)] := hl
  have hiX0 : ∀ w ∈ wsX00, w ∈ wsX0_isReckoned := by decide +kernel
  refine lv_aload_n hx hb dX0_isReckoned_0 rfl (lv_at hl 0 rfl) ?_
  refine va_get (D := g.1) (ci := 2) (v := .int rk) (C := RX0) (T := TX0) (N := 3) hx hb hts hiX0 hown hK.1 hP 0 rfl rfl 2 (by decide) (hts (.fieldLink RX0 16 "StampMaker$Digest" "reckoned" "Z") (by decide +kernel)) (fun _ h9 => h9) rfl dX0_isReckoned_1 ?_
  exact endRz hx hb hr hlocks dX0_isReckoned_4 (by rcases hk with rfl | rfl <;> decide) (rfl)

set_option maxHeartbeats 4000000 in
set_option maxRecDepth 100000 in
/-- 25 bits -/
theorem c_X0_firstBits (l : Launch) (g : gE) (dg wa st : Nat) (rk : Int32) (fs : Nat → Int32)  : Met l yX0_firstBits wsX0_firstBits ({ frames := 0, cells := 0, slots := 0, locals := 0 }) (va_Pc [.ref dg] (ro g [(dg, .inr (2, [.ref wa, .ref st, .int rk])), (st, .inl (g.2.1 0, 8, .inl fs))])) (vp_Si (fun r : Int32 => r = fB (fs 0))) 0 0 nA := by
  refine ofRo (cc := cX0_firstBits) (maxL := 1) (ret := (some .int)) (by decide) rfl (Nat.le_of_ble_eq_true rfl) (fun p e s m below meth c hx hb hr hml hts hown hlocks hnm hP hK hZ hS ls hl => ?_)
  have hown : s.vm.findClass RX0 = some m.cls := hown
  have hl : lv_has ls 1 [(0, .ref dg)] := hl
  have hiX0 : ∀ w ∈ wsX00, w ∈ wsX0_firstBits := by decide +kernel
  refine lv_aload_n hx hb dX0_firstBits_0 rfl (lv_at hl 0 rfl) ?_
  refine va_get (D := g.1) (ci := 2) (v := .ref st) (C := RX0) (T := TX0) (N := 3) hx hb hts hiX0 hown hK.1 hP 0 rfl rfl 1 (by decide) (hts (.fieldLink RX0 13 "StampMaker$Digest" "state" "[I") (by decide +kernel)) (fun _ h9 => h9) rfl dX0_firstBits_1 ?_
  refine lv_iconst (v := (nI 0)) hx hb dX0_firstBits_4 (by decide) ?_
  refine va_iald hx hb hK.1 hP 1 0 rfl rfl (vp_in_nI (by omega) (by omega)) dX0_firstBits_5 ?_
  refine lv_rei (x' := fs 0) (congrArg fs (nI_clamp (by omega))) ?_
  refine lv_bipush (v := (nI 7)) hx hb dX0_firstBits_6 (by decide) ?_
  refine lv_iushr hx hb dX0_firstBits_8 rfl ?_
  exact endRi hx hb hr hlocks dX0_firstBits_9 (rfl)

set_option maxHeartbeats 4000000 in
set_option maxRecDepth 100000 in
/-- byte i of the digest -/
theorem c_X0_octetAt (l : Launch) (g : gE) (dg wa st : Nat) (rk : Int32) (fs : Nat → Int32) (i : Nat) (hi : i < 32) : Met l yX0_octetAt wsX0_octetAt ({ frames := 0, cells := 0, slots := 0, locals := 0 }) (va_Pc [.ref dg, .int (nI i)] (ro g [(dg, .inr (2, [.ref wa, .ref st, .int rk])), (st, .inl (g.2.1 0, 8, .inl fs))])) (vp_Si (fun r : Int32 => r = oB (fs (i / 4)) (24 - 8 * (i % 4)))) 0 0 nA := by
  refine ofRo (cc := cX0_octetAt) (maxL := 2) (ret := (some .byte)) (by decide) rfl (Nat.le_of_ble_eq_true rfl) (fun p e s m below meth c hx hb hr hml hts hown hlocks hnm hP hK hZ hS ls hl => ?_)
  have hown : s.vm.findClass RX0 = some m.cls := hown
  have hl : lv_has ls 2 [(0, .ref dg), (1, .int (nI i))] := hl
  have hiX0 : ∀ w ∈ wsX00, w ∈ wsX0_octetAt := by decide +kernel
  refine lv_iload_n hx hb dX0_octetAt_0 rfl (lv_at hl 1 rfl) ?_
  refine lv_if_lt (tgt := 32) hx hb dX0_octetAt_1 (by decide) (fun c9 => absurd c9 (nI_pos (by omega))) (fun _ => ?_)
  refine lv_iload_n hx hb dX0_octetAt_4 rfl (lv_at hl 1 rfl) ?_
  refine lv_bipush (v := (nI 32)) hx hb dX0_octetAt_5 (by decide) ?_
  refine lv_icmp_ge (tgt := 32) hx hb dX0_octetAt_7 (by decide) (fun c9 => absurd c9 (nI_ge (by omega) (by omega))) (fun _ => ?_)
  refine lv_aload_n hx hb dX0_octetAt_10 rfl (lv_at hl 0 rfl) ?_
  refine va_get (D := g.1) (ci := 2) (v := .ref st) (C := RX0) (T := TX0) (N := 3) hx hb hts hiX0 hown hK.1 hP 0 rfl rfl 1 (by decide) (hts (.fieldLink RX0 13 "StampMaker$Digest" "state" "[I") (by decide +kernel)) (fun _ h9 => h9) rfl dX0_octetAt_11 ?_
  refine lv_iload_n hx hb dX0_octetAt_14 rfl (lv_at hl 1 rfl) ?_
  refine lv_iconst (v := (nI 2)) hx hb dX0_octetAt_15 (by decide) ?_
  refine lv_ishr hx hb dX0_octetAt_16 ?_
  refine lv_rei (x' := (nI (i / 4))) (pk_shrN (by omega) _ 2 (by decide)) ?_
  refine va_iald hx hb hK.1 hP 1 0 rfl rfl (vp_in_nI (by omega) (by omega)) dX0_octetAt_17 ?_
  refine lv_rei (x' := fs (i / 4)) (congrArg fs (nI_clamp (by omega))) ?_
  refine lv_bipush (v := (nI 24)) hx hb dX0_octetAt_18 (by decide) ?_
  refine lv_bipush (v := (nI 8)) hx hb dX0_octetAt_20 (by decide) ?_
  refine lv_iload_n hx hb dX0_octetAt_22 rfl (lv_at hl 1 rfl) ?_
  refine lv_iconst (v := (nI 3)) hx hb dX0_octetAt_23 (by decide) ?_
  refine lv_iand hx hb dX0_octetAt_24 ?_
  refine lv_rei (x' := (nI (i % 4))) (andN 2 (by omega) rfl (by decide)) ?_
  refine lv_imul hx hb dX0_octetAt_25 ?_
  refine lv_rei (x' := (nI (8 * (i % 4)))) (pk_mul _ _) ?_
  refine lv_isub hx hb dX0_octetAt_26 ?_
  refine lv_rei (x' := (nI (24 - 8 * (i % 4)))) (pk_sub (by omega)) ?_
  refine lv_iushr hx hb dX0_octetAt_27 rfl ?_
  refine lv_i2b hx hb dX0_octetAt_28 rfl ?_
  refine lv_goto (tgt := 33) hx hb dX0_octetAt_29 (by decide) ?_
  exact endRz hx hb hr hlocks dX0_octetAt_33 (pk_nb _) (rfl)
end
section
/-- what first answers -/
def fi (x sp : Int32) (fd fch : Nat → Int32) : Int32 := if ¬ (0 ≤ x.toInt ∧ x.toInt ≤ 2) then -22 else if sp < 0 then -1 else if x = 0 then sp else if x = nI 1 then fd sp.toNatClampNeg else fch sp.toNatClampNeg
set_option maxHeartbeats 4000000 in
set_option maxRecDepth 100000 in
/-- what became of serial j -/
theorem c_X3_fateOf_in (l : Launch) (g : gE) (lg fa da ch : Nat) (ff : Nat → Int32) (j : Nat) (hj : j < 16384) : Met l yX3_fateOf wsX3_fateOf ({ frames := 1, cells := 0, slots := 0, locals := 21 }) (va_Pc [.ref lg, .long (lN j)] (ro g [(lg, .inr (4, [.ref fa, .ref da, .ref ch])), (fa, .inl (g.2.1 1, 16384, .inl ff))])) (vp_Si (fun r : Int32 => r = ff j)) 0 0 nA := by
  refine ofRo (cc := cX3_fateOf) (maxL := 3) (ret := (some .int)) (by decide) rfl (Nat.le_of_ble_eq_true rfl) (fun p e s m below meth c hx hb hr hml hts hown hlocks hnm hP hK hZ hS ls hl => ?_)
  have hown : s.vm.findClass RX3 = some m.cls := hown
  have hl : lv_has ls 3 [(0, .ref lg), (1, .long (lN j))] := hl
  have hiX3 : ∀ w ∈ wsX30, w ∈ wsX3_fateOf := by decide +kernel
  have tj := tl_n (n := j) (by omega)
  refine lv_lload_n hx hb dX3_fateOf_0 rfl (lv_at hl 1 rfl) ?_
  refine cSi (rest := []) ⟨hx, hb, hml, hown, hts⟩ [.long (lN j)] (c_X3_isSerial l g (x := (lN j))) (va_cwS 1 hts gX3_fateOf_X3_isSerial rfl rfl rfl (by decide +kernel) ⟨Nat.le_of_ble_eq_true rfl, Nat.le_of_ble_eq_true rfl⟩) hK hZ hS (subP hP [] rfl) rfl hl.1 rfl (Nat.le_of_ble_eq_true rfl) dX3_fateOf_1 ⟨Nat.zero_le _, Nat.zero_le _⟩ (fun r_46 hr_46 => ?_)
  obtain rfl : r_46 = (inI (lN j).toInt 0 16383) := hr_46
  refine lv_if_eq (tgt := 17) hx hb dX3_fateOf_4 (by decide) (fun c9 => absurd c9 (by rw [inI_1 (by omega) (by omega)]; decide)) (fun _ => ?_)
  refine lv_aload_n hx hb dX3_fateOf_7 rfl (lv_at hl 0 rfl) ?_
  refine va_get (D := g.1) (ci := 4) (v := .ref fa) (C := RX3) (T := TX3) (N := 3) hx hb hts hiX3 hown hK.1 hP 0 rfl rfl 0 (by decide) (hts (.fieldLink RX3 9 "StampMaker$Ledger" "fates" "[B") (by decide +kernel)) (fun _ h9 => h9) rfl dX3_fateOf_8 ?_
  refine lv_lload_n hx hb dX3_fateOf_11 rfl (lv_at hl 1 rfl) ?_
  refine lv_l2i hx hb dX3_fateOf_12 rfl ?_
  refine lv_rei (x' := (nI j)) (lN_i j) ?_
  refine va_bald hx hb hK.1 hP 1 1 rfl rfl (vp_in_nI (by omega) (by omega)) dX3_fateOf_13 ?_
  refine lv_rei (x' := ff j) (congrArg ff (nI_clamp (by omega))) ?_
  refine lv_goto (tgt := 18) hx hb dX3_fateOf_14 (by decide) ?_
  exact endRi hx hb hr hlocks dX3_fateOf_18 (rfl)

set_option maxHeartbeats 4000000 in
set_option maxRecDepth 100000 in
/-- none such -/
theorem c_X3_fateOf_out (l : Launch) (g : gE) (lg fa da ch : Nat) (ff : Nat → Int32) (x : Int64) (hx0 : ¬ (0 ≤ x.toInt ∧ x.toInt ≤ 16383)) : Met l yX3_fateOf wsX3_fateOf ({ frames := 1, cells := 0, slots := 0, locals := 21 }) (va_Pc [.ref lg, .long x] (ro g [(lg, .inr (4, [.ref fa, .ref da, .ref ch])), (fa, .inl (g.2.1 1, 16384, .inl ff))])) (vp_Si (fun r : Int32 => r = nI 0)) 0 0 nA := by
  refine ofRo (cc := cX3_fateOf) (maxL := 3) (ret := (some .int)) (by decide) rfl (Nat.le_of_ble_eq_true rfl) (fun p e s m below meth c hx hb hr hml hts hown hlocks hnm hP hK hZ hS ls hl => ?_)
  have hown : s.vm.findClass RX3 = some m.cls := hown
  have hl : lv_has ls 3 [(0, .ref lg), (1, .long x)] := hl
  have hiX3 : ∀ w ∈ wsX30, w ∈ wsX3_fateOf := by decide +kernel
  refine lv_lload_n hx hb dX3_fateOf_0 rfl (lv_at hl 1 rfl) ?_
  refine cSi (rest := []) ⟨hx, hb, hml, hown, hts⟩ [.long x] (c_X3_isSerial l g (x := x)) (va_cwS 1 hts gX3_fateOf_X3_isSerial rfl rfl rfl (by decide +kernel) ⟨Nat.le_of_ble_eq_true rfl, Nat.le_of_ble_eq_true rfl⟩) hK hZ hS (subP hP [] rfl) rfl hl.1 rfl (Nat.le_of_ble_eq_true rfl) dX3_fateOf_1 ⟨Nat.zero_le _, Nat.zero_le _⟩ (fun r_47 hr_47 => ?_)
  obtain rfl : r_47 = (inI x.toInt 0 16383) := hr_47
  refine lv_if_eq (tgt := 17) hx hb dX3_fateOf_4 (by decide) (fun _ => ?_) (fun c9 => absurd (inI_0 hx0) c9)
  refine lv_iconst (v := (nI 0)) hx hb dX3_fateOf_17 (by decide) ?_
  exact endRi hx hb hr hlocks dX3_fateOf_18 (rfl)

set_option maxHeartbeats 4000000 in
set_option maxRecDepth 100000 in
/-- of serial j -/
theorem c_X3_dayOf (l : Launch) (g : gE) (lg fa da ch : Nat) (fd : Nat → Int32) (j : Nat) (hj : j < 16384) : Met l yX3_dayOf wsX3_dayOf ({ frames := 1, cells := 0, slots := 0, locals := 21 }) (va_Pc [.ref lg, .int (nI j)] (ro g [(lg, .inr (4, [.ref fa, .ref da, .ref ch])), (da, .inl (g.2.1 0, 16384, .inl fd))])) (vp_Si (fun r : Int32 => r = fd j)) 0 0 nA := by
  refine ofRo (cc := cX3_dayOf) (maxL := 2) (ret := (some .int)) (by decide) rfl (Nat.le_of_ble_eq_true rfl) (fun p e s m below meth c hx hb hr hml hts hown hlocks hnm hP hK hZ hS ls hl => ?_)
  have hown : s.vm.findClass RX3 = some m.cls := hown
  have hl : lv_has ls 2 [(0, .ref lg), (1, .int (nI j))] := hl
  have hiX3 : ∀ w ∈ wsX30, w ∈ wsX3_dayOf := by decide +kernel
  have tj := tl_n (n := j) (by omega)
  refine lv_iload_n hx hb dX3_dayOf_0 rfl (lv_at hl 1 rfl) ?_
  refine lv_i2l hx hb dX3_dayOf_1 rfl ?_
  refine lv_rel (x' := (lN j)) (nI_L (by omega)) ?_
  refine cSi (rest := []) ⟨hx, hb, hml, hown, hts⟩ [.long (lN j)] (c_X3_isSerial l g (x := (lN j))) (va_cwS 1 hts gX3_dayOf_X3_isSerial rfl rfl rfl (by decide +kernel) ⟨Nat.le_of_ble_eq_true rfl, Nat.le_of_ble_eq_true rfl⟩) hK hZ hS (subP hP [] rfl) rfl hl.1 rfl (Nat.le_of_ble_eq_true rfl) dX3_dayOf_2 ⟨Nat.zero_le _, Nat.zero_le _⟩ (fun r_48 hr_48 => ?_)
  obtain rfl : r_48 = (inI (lN j).toInt 0 16383) := hr_48
  refine lv_if_eq (tgt := 17) hx hb dX3_dayOf_5 (by decide) (fun c9 => absurd c9 (by rw [inI_1 (by omega) (by omega)]; decide)) (fun _ => ?_)
  refine lv_aload_n hx hb dX3_dayOf_8 rfl (lv_at hl 0 rfl) ?_
  refine va_get (D := g.1) (ci := 4) (v := .ref da) (C := RX3) (T := TX3) (N := 3) hx hb hts hiX3 hown hK.1 hP 0 rfl rfl 1 (by decide) (hts (.fieldLink RX3 15 "StampMaker$Ledger" "days" "[I") (by decide +kernel)) (fun _ h9 => h9) rfl dX3_dayOf_9 ?_
  refine lv_iload_n hx hb dX3_dayOf_12 rfl (lv_at hl 1 rfl) ?_
  refine va_iald hx hb hK.1 hP 1 0 rfl rfl (vp_in_nI (by omega) (by omega)) dX3_dayOf_13 ?_
  refine lv_rei (x' := fd j) (congrArg fd (nI_clamp (by omega))) ?_
  refine lv_goto (tgt := 18) hx hb dX3_dayOf_14 (by decide) ?_
  exact endRi hx hb hr hlocks dX3_dayOf_18 (rfl)

set_option maxHeartbeats 4000000 in
set_option maxRecDepth 100000 in
/-- of serial j -/
theorem c_X3_checkOf (l : Launch) (g : gE) (lg fa da ch : Nat) (fc : Nat → Int32) (j : Nat) (hj : j < 16384) : Met l yX3_checkOf wsX3_checkOf ({ frames := 1, cells := 0, slots := 0, locals := 21 }) (va_Pc [.ref lg, .int (nI j)] (ro g [(lg, .inr (4, [.ref fa, .ref da, .ref ch])), (ch, .inl (g.2.1 0, 16384, .inl fc))])) (vp_Si (fun r : Int32 => r = fc j)) 0 0 nA := by
  refine ofRo (cc := cX3_checkOf) (maxL := 2) (ret := (some .int)) (by decide) rfl (Nat.le_of_ble_eq_true rfl) (fun p e s m below meth c hx hb hr hml hts hown hlocks hnm hP hK hZ hS ls hl => ?_)
  have hown : s.vm.findClass RX3 = some m.cls := hown
  have hl : lv_has ls 2 [(0, .ref lg), (1, .int (nI j))] := hl
  have hiX3 : ∀ w ∈ wsX30, w ∈ wsX3_checkOf := by decide +kernel
  have tj := tl_n (n := j) (by omega)
  refine lv_iload_n hx hb dX3_checkOf_0 rfl (lv_at hl 1 rfl) ?_
  refine lv_i2l hx hb dX3_checkOf_1 rfl ?_
  refine lv_rel (x' := (lN j)) (nI_L (by omega)) ?_
  refine cSi (rest := []) ⟨hx, hb, hml, hown, hts⟩ [.long (lN j)] (c_X3_isSerial l g (x := (lN j))) (va_cwS 1 hts gX3_checkOf_X3_isSerial rfl rfl rfl (by decide +kernel) ⟨Nat.le_of_ble_eq_true rfl, Nat.le_of_ble_eq_true rfl⟩) hK hZ hS (subP hP [] rfl) rfl hl.1 rfl (Nat.le_of_ble_eq_true rfl) dX3_checkOf_2 ⟨Nat.zero_le _, Nat.zero_le _⟩ (fun r_49 hr_49 => ?_)
  obtain rfl : r_49 = (inI (lN j).toInt 0 16383) := hr_49
  refine lv_if_eq (tgt := 17) hx hb dX3_checkOf_5 (by decide) (fun c9 => absurd c9 (by rw [inI_1 (by omega) (by omega)]; decide)) (fun _ => ?_)
  refine lv_aload_n hx hb dX3_checkOf_8 rfl (lv_at hl 0 rfl) ?_
  refine va_get (D := g.1) (ci := 4) (v := .ref ch) (C := RX3) (T := TX3) (N := 3) hx hb hts hiX3 hown hK.1 hP 0 rfl rfl 2 (by decide) (hts (.fieldLink RX3 19 "StampMaker$Ledger" "checks" "[I") (by decide +kernel)) (fun _ h9 => h9) rfl dX3_checkOf_9 ?_
  refine lv_iload_n hx hb dX3_checkOf_12 rfl (lv_at hl 1 rfl) ?_
  refine va_iald hx hb hK.1 hP 1 0 rfl rfl (vp_in_nI (by omega) (by omega)) dX3_checkOf_13 ?_
  refine lv_rei (x' := fc j) (congrArg fc (nI_clamp (by omega))) ?_
  refine lv_goto (tgt := 18) hx hb dX3_checkOf_14 (by decide) ?_
  exact endRi hx hb hr hlocks dX3_checkOf_18 (rfl)

set_option maxHeartbeats 4000000 in
set_option maxRecDepth 100000 in
/-- spent -/
theorem c_X3_spend (l : Launch) (g : gE) (hsz : Nat) (lg fa da ch : Nat) (ff fd fc : Nat → Int32) (j : Nat) (xd xc : Int32) (hj : j < 16384) : Met l yX3_spend wsX3_spend ({ frames := 1, cells := 0, slots := 0, locals := 21 }) (va_Pc [.ref lg, .int (nI j), .int xd, .int xc] (wr g [(lg, .inr (4, [.ref fa, .ref da, .ref ch])), (fa, .inl (g.2.1 1, 16384, .inl ff)), (da, .inl (g.2.1 0, 16384, .inl fd)), (ch, .inl (g.2.1 0, 16384, .inl fc))] hsz)) (va_Qv (fun (u : Unit) => True) (wB g (va_A [(lg, .inr (4, [.ref fa, .ref da, .ref ch])), (fa, .inl (g.2.1 1, 16384, .inl ff)), (da, .inl (g.2.1 0, 16384, .inl fd)), (ch, .inl (g.2.1 0, 16384, .inl fc))] hsz) (fun u : Unit => [(lg, .inr (4, [.ref fa, .ref da, .ref ch])), (fa, .inl (g.2.1 1, 16384, .inl (upd ff j (nI 1)))), (da, .inl (g.2.1 0, 16384, .inl (upd fd j xd))), (ch, .inl (g.2.1 0, 16384, .inl (upd fc j xc)))])) (va_A [(lg, .inr (4, [.ref fa, .ref da, .ref ch])), (fa, .inl (g.2.1 1, 16384, .inl ff)), (da, .inl (g.2.1 0, 16384, .inl fd)), (ch, .inl (g.2.1 0, 16384, .inl fc))] hsz)) 0 0 (va_A [(lg, .inr (4, [.ref fa, .ref da, .ref ch])), (fa, .inl (g.2.1 1, 16384, .inl ff)), (da, .inl (g.2.1 0, 16384, .inl fd)), (ch, .inl (g.2.1 0, 16384, .inl fc))] hsz) := by
  refine ofWv (cc := cX3_spend) (maxL := 4) (ret := none) (by decide) rfl (Nat.le_of_ble_eq_true rfl) (fun p e s m below meth c hx hb hr hml hts hown hlocks hnm A H hH hA hP hD hK hZ hS ls hl => ?_)
  have hown : s.vm.findClass RX3 = some m.cls := hown
  have hl : lv_has ls 4 [(0, .ref lg), (1, .int (nI j)), (2, .int xd), (3, .int xc)] := hl
  have hiX3 : ∀ w ∈ wsX30, w ∈ wsX3_spend := by decide +kernel
  have tj := tl_n (n := j) (by omega)
  refine lv_iload_n hx hb dX3_spend_0 rfl (lv_at hl 1 rfl) ?_
  refine lv_i2l hx hb dX3_spend_1 rfl ?_
  refine lv_rel (x' := (lN j)) (nI_L (by omega)) ?_
  refine cSi (rest := []) ⟨hx, hb, hml, hown, hts⟩ [.long (lN j)] (c_X3_isSerial l g (x := (lN j))) (va_cwS 1 hts gX3_spend_X3_isSerial rfl rfl rfl (by decide +kernel) ⟨Nat.le_of_ble_eq_true rfl, Nat.le_of_ble_eq_true rfl⟩) hK hZ hS (subP hP [] rfl) rfl hl.1 rfl (Nat.le_of_ble_eq_true rfl) dX3_spend_2 ⟨Nat.zero_le _, Nat.zero_le _⟩ (fun r_50 hr_50 => ?_)
  obtain rfl : r_50 = (inI (lN j).toInt 0 16383) := hr_50
  refine lv_if_ne (tgt := 9) hx hb dX3_spend_5 (by decide) (fun _ => ?_) (fun c9 => absurd c9 (by rw [inI_1 (by omega) (by omega)]; decide))
  refine lv_aload_n hx hb dX3_spend_9 rfl (lv_at hl 0 rfl) ?_
  refine va_get (D := g.1) (ci := 4) (v := .ref fa) (C := RX3) (T := TX3) (N := 3) hx hb hts hiX3 hown hK.1 hP 0 rfl rfl 0 (by decide) (hts (.fieldLink RX3 9 "StampMaker$Ledger" "fates" "[B") (by decide +kernel)) (fun _ h9 => h9) rfl dX3_spend_10 ?_
  refine lv_iload_n hx hb dX3_spend_13 rfl (lv_at hl 1 rfl) ?_
  refine lv_iconst (v := (nI 1)) hx hb dX3_spend_14 (by decide) ?_
  refine va_bast hx hb hK.1 hP hD hS 1 1 rfl rfl (vp_in_nI (by omega) (by omega)) dX3_spend_15 (fun H locs hP hD hS => ?_)
  rw [nI_clamp (by omega)] at hP hD
  rw [(by decide : vp_nar .byte (nI 1) = nI 1)] at hP hD
  have hP : va_P g.1 vwCl [(lg, .inr (4, [.ref fa, .ref da, .ref ch])), (fa, .inl (g.2.1 1, 16384, .inl (upd ff j (nI 1)))), (da, .inl (g.2.1 0, 16384, .inl fd)), (ch, .inl (g.2.1 0, 16384, .inl fc))] H := hP
  have hD : va_D A [(lg, .inr (4, [.ref fa, .ref da, .ref ch])), (fa, .inl (g.2.1 1, 16384, .inl (upd ff j (nI 1)))), (da, .inl (g.2.1 0, 16384, .inl fd)), (ch, .inl (g.2.1 0, 16384, .inl fc))] := hD
  refine lv_aload_n hx hb dX3_spend_16 rfl (lv_at hl 0 rfl) ?_
  refine va_get (D := g.1) (ci := 4) (v := .ref da) (C := RX3) (T := TX3) (N := 3) hx hb hts hiX3 hown hK.1 hP 0 rfl rfl 1 (by decide) (hts (.fieldLink RX3 15 "StampMaker$Ledger" "days" "[I") (by decide +kernel)) (fun _ h9 => h9) rfl dX3_spend_17 ?_
  refine lv_iload_n hx hb dX3_spend_20 rfl (lv_at hl 1 rfl) ?_
  refine lv_iload_n hx hb dX3_spend_21 rfl (lv_at hl 2 rfl) ?_
  refine va_iast hx hb hK.1 hP hD hS 2 0 rfl rfl (vp_in_nI (by omega) (by omega)) dX3_spend_22 (fun H locs hP hD hS => ?_)
  rw [nI_clamp (by omega)] at hP hD
  have hP : va_P g.1 vwCl [(lg, .inr (4, [.ref fa, .ref da, .ref ch])), (fa, .inl (g.2.1 1, 16384, .inl (upd ff j (nI 1)))), (da, .inl (g.2.1 0, 16384, .inl (upd fd j xd))), (ch, .inl (g.2.1 0, 16384, .inl fc))] H := hP
  have hD : va_D A [(lg, .inr (4, [.ref fa, .ref da, .ref ch])), (fa, .inl (g.2.1 1, 16384, .inl (upd ff j (nI 1)))), (da, .inl (g.2.1 0, 16384, .inl (upd fd j xd))), (ch, .inl (g.2.1 0, 16384, .inl fc))] := hD
  refine lv_aload_n hx hb dX3_spend_23 rfl (lv_at hl 0 rfl) ?_
  refine va_get (D := g.1) (ci := 4) (v := .ref ch) (C := RX3) (T := TX3) (N := 3) hx hb hts hiX3 hown hK.1 hP 0 rfl rfl 2 (by decide) (hts (.fieldLink RX3 19 "StampMaker$Ledger" "checks" "[I") (by decide +kernel)) (fun _ h9 => h9) rfl dX3_spend_24 ?_
  refine lv_iload_n hx hb dX3_spend_27 rfl (lv_at hl 1 rfl) ?_
  refine lv_iload_n hx hb dX3_spend_28 rfl (lv_at hl 3 rfl) ?_
  refine va_iast hx hb hK.1 hP hD hS 3 0 rfl rfl (vp_in_nI (by omega) (by omega)) dX3_spend_29 (fun H locs hP hD hS => ?_)
  rw [nI_clamp (by omega)] at hP hD
  have hP : va_P g.1 vwCl [(lg, .inr (4, [.ref fa, .ref da, .ref ch])), (fa, .inl (g.2.1 1, 16384, .inl (upd ff j (nI 1)))), (da, .inl (g.2.1 0, 16384, .inl (upd fd j xd))), (ch, .inl (g.2.1 0, 16384, .inl (upd fc j xc)))] H := hP
  have hD : va_D A [(lg, .inr (4, [.ref fa, .ref da, .ref ch])), (fa, .inl (g.2.1 1, 16384, .inl (upd ff j (nI 1)))), (da, .inl (g.2.1 0, 16384, .inl (upd fd j xd))), (ch, .inl (g.2.1 0, 16384, .inl (upd fc j xc)))] := hD
  exact endWv () hx hb hr hlocks hS dX3_spend_30 hP hD (trivial)

set_option maxHeartbeats 4000000 in
set_option maxRecDepth 100000 in
/-- given back -/
theorem c_X3_giveBack (l : Launch) (g : gE) (hsz : Nat) (lg fa da ch : Nat) (ff : Nat → Int32) (j : Nat) (hj : j < 16384) : Met l yX3_giveBack wsX3_giveBack ({ frames := 1, cells := 0, slots := 0, locals := 21 }) (va_Pc [.ref lg, .int (nI j)] (wr g [(lg, .inr (4, [.ref fa, .ref da, .ref ch])), (fa, .inl (g.2.1 1, 16384, .inl ff))] hsz)) (va_Qv (fun (u : Unit) => True) (wB g (va_A [(lg, .inr (4, [.ref fa, .ref da, .ref ch])), (fa, .inl (g.2.1 1, 16384, .inl ff))] hsz) (fun u : Unit => [(lg, .inr (4, [.ref fa, .ref da, .ref ch])), (fa, .inl (g.2.1 1, 16384, .inl (upd ff j (nI 2))))])) (va_A [(lg, .inr (4, [.ref fa, .ref da, .ref ch])), (fa, .inl (g.2.1 1, 16384, .inl ff))] hsz)) 0 0 (va_A [(lg, .inr (4, [.ref fa, .ref da, .ref ch])), (fa, .inl (g.2.1 1, 16384, .inl ff))] hsz) := by
  refine ofWv (cc := cX3_giveBack) (maxL := 2) (ret := none) (by decide) rfl (Nat.le_of_ble_eq_true rfl) (fun p e s m below meth c hx hb hr hml hts hown hlocks hnm A H hH hA hP hD hK hZ hS ls hl => ?_)
  have hown : s.vm.findClass RX3 = some m.cls := hown
  have hl : lv_has ls 2 [(0, .ref lg), (1, .int (nI j))] := hl
  have hiX3 : ∀ w ∈ wsX30, w ∈ wsX3_giveBack := by decide +kernel
  have tj := tl_n (n := j) (by omega)
  refine lv_iload_n hx hb dX3_giveBack_0 rfl (lv_at hl 1 rfl) ?_
  refine lv_i2l hx hb dX3_giveBack_1 rfl ?_
  refine lv_rel (x' := (lN j)) (nI_L (by omega)) ?_
  refine cSi (rest := []) ⟨hx, hb, hml, hown, hts⟩ [.long (lN j)] (c_X3_isSerial l g (x := (lN j))) (va_cwS 1 hts gX3_giveBack_X3_isSerial rfl rfl rfl (by decide +kernel) ⟨Nat.le_of_ble_eq_true rfl, Nat.le_of_ble_eq_true rfl⟩) hK hZ hS (subP hP [] rfl) rfl hl.1 rfl (Nat.le_of_ble_eq_true rfl) dX3_giveBack_2 ⟨Nat.zero_le _, Nat.zero_le _⟩ (fun r_51 hr_51 => ?_)
  obtain rfl : r_51 = (inI (lN j).toInt 0 16383) := hr_51
  refine lv_if_eq (tgt := 15) hx hb dX3_giveBack_5 (by decide) (fun c9 => absurd c9 (by rw [inI_1 (by omega) (by omega)]; decide)) (fun _ => ?_)
  refine lv_aload_n hx hb dX3_giveBack_8 rfl (lv_at hl 0 rfl) ?_
  refine va_get (D := g.1) (ci := 4) (v := .ref fa) (C := RX3) (T := TX3) (N := 3) hx hb hts hiX3 hown hK.1 hP 0 rfl rfl 0 (by decide) (hts (.fieldLink RX3 9 "StampMaker$Ledger" "fates" "[B") (by decide +kernel)) (fun _ h9 => h9) rfl dX3_giveBack_9 ?_
  refine lv_iload_n hx hb dX3_giveBack_12 rfl (lv_at hl 1 rfl) ?_
  refine lv_iconst (v := (nI 2)) hx hb dX3_giveBack_13 (by decide) ?_
  refine va_bast hx hb hK.1 hP hD hS 1 1 rfl rfl (vp_in_nI (by omega) (by omega)) dX3_giveBack_14 (fun H locs hP hD hS => ?_)
  rw [nI_clamp (by omega)] at hP hD
  rw [(by decide : vp_nar .byte (nI 2) = nI 2)] at hP hD
  have hP : va_P g.1 vwCl [(lg, .inr (4, [.ref fa, .ref da, .ref ch])), (fa, .inl (g.2.1 1, 16384, .inl (upd ff j (nI 2))))] H := hP
  have hD : va_D A [(lg, .inr (4, [.ref fa, .ref da, .ref ch])), (fa, .inl (g.2.1 1, 16384, .inl (upd ff j (nI 2))))] := hD
  exact endWv () hx hb hr hlocks hS dX3_giveBack_15 hP hD (trivial)

set_option maxHeartbeats 4000000 in
set_option maxRecDepth 100000 in
/-- a key made -/
theorem c_X2_init (l : Launch) (g : gE) (hsz : Nat) (k : Nat) (fr un : Int32)  : Met l yX2_init wsX2_init ({ frames := 1, cells := 1, slots := 32, locals := 12 }) (va_Pc [.ref k, .int fr, .int un] (wr g [(k, .inr (3, [.int 0, .int 0, .null, .int 0, .int 0]))] hsz)) (va_Qv (fun (u : Nat) => True) (wB g (va_A [(k, .inr (3, [.int 0, .int 0, .null, .int 0, .int 0]))] hsz) (fun u : Nat => [(k, .inr (3, [.int fr, .int un, .ref u, .int 0, .int 0])), (u, .inl (g.2.1 1, 32, .inl (fun _ => 0)))])) (va_A [(k, .inr (3, [.int 0, .int 0, .null, .int 0, .int 0]))] hsz)) 1 32 (va_A [(k, .inr (3, [.int 0, .int 0, .null, .int 0, .int 0]))] hsz) := by
  refine ofWv (cc := cX2_init) (maxL := 3) (ret := none) (by decide) rfl (Nat.le_of_ble_eq_true rfl) (fun p e s m below meth c hx hb hr hml hts hown hlocks hnm A H hH hA hP hD hK hZ hS ls hl => ?_)
  have hown : s.vm.findClass RX2 = some m.cls := hown
  have hl : lv_has ls 3 [(0, .ref k), (1, .int fr), (2, .int un)] := hl
  have hiX2 : ∀ w ∈ wsX20, w ∈ wsX2_init := by decide +kernel
  refine lv_aload_n hx hb dX2_init_0 rfl (lv_at hl 0 rfl) ?_
  refine W.objInit hx hb hown (hts (.methodLink RX2 1 objectInit) (by decide +kernel)) (hts (.instanceMethod objectInit) (by decide +kernel)) (hts (.code objectInit ⟨#[0xb1]⟩ 1 none) (by decide +kernel)) rfl (by rw [hml]; exact hl.1) rfl dX2_init_1 (Nat.le_of_ble_eq_true rfl) (Nat.le_of_ble_eq_true rfl) ?_
  refine W.eq (g2 := F0 m 4 ls []) rfl ?_
  refine lv_aload_n hx hb dX2_init_4 rfl (lv_at hl 0 rfl) ?_
  refine lv_bipush (v := (nI 32)) hx hb dX2_init_5 (by decide) ?_
  refine va_newa (atype := .byte) (ty := .byte) (N' := 32) (a0 := (32, .inl (fun _ => 0))) hx hb (hts (.arrayClass .byte) (by decide +kernel)) rfl hK.1 hP hD hS hA (fun _ => rfl) (by decide) (by decide) (by decide) (Nat.le_of_ble_eq_true rfl) (Nat.le_of_ble_eq_true rfl) dX2_init_7 (fun qb cA H hK9 hP hD hS => ?_)
  obtain rfl : cA = g.2.1 1 := Option.some.inj ((va_nm_byte (hK9.2 5 _ rfl).2).symm.trans (va_nm_byte (hK.1.2 1 _ rfl).2))
  have hP : va_P g.1 vwCl [(k, .inr (3, [.int 0, .int 0, .null, .int 0, .int 0])), (qb, .inl (g.2.1 1, 32, .inl (fun _ => 0)))] H := hP
  have hD : va_D A [(k, .inr (3, [.int 0, .int 0, .null, .int 0, .int 0])), (qb, .inl (g.2.1 1, 32, .inl (fun _ => 0)))] := hD
  refine va_putF (D := g.1) (ci := 3) (v := .ref qb) (ty := .array .byte) (C := RX2) (T := TX2) (N := 5) hx hb hts hiX2 tyX2 tyX2_ok nmX2 hown hK.1 hP hD hS 0 rfl rfl 2 (by decide) (hts (.fieldLink RX2 9 "StampMaker$Key" "bytes" "[B") (by decide +kernel)) (fun _ h9 => h9) rfl hnm rfl (by decide +kernel) rfl rfl (Nat.le_of_ble_eq_true rfl) dX2_init_9 (fun H locs hP hD hS => ?_)
  have hP : va_P g.1 vwCl [(k, .inr (3, [.int 0, .int 0, .ref qb, .int 0, .int 0])), (qb, .inl (g.2.1 1, 32, .inl (fun _ => 0)))] H := hP
  have hD : va_D A [(k, .inr (3, [.int 0, .int 0, .ref qb, .int 0, .int 0])), (qb, .inl (g.2.1 1, 32, .inl (fun _ => 0)))] := hD
  refine lv_aload_n hx hb dX2_init_12 rfl (lv_at hl 0 rfl) ?_
  refine lv_iload_n hx hb dX2_init_13 rfl (lv_at hl 1 rfl) ?_
  refine va_putF (D := g.1) (ci := 3) (v := .int fr) (ty := .int) (C := RX2) (T := TX2) (N := 5) hx hb hts hiX2 tyX2 tyX2_ok nmX2 hown hK.1 hP hD hS 0 rfl rfl 0 (by decide) (hts (.fieldLink RX2 13 "StampMaker$Key" "from" "I") (by decide +kernel)) (fun _ h9 => h9) rfl hnm rfl (by decide +kernel) rfl rfl (Nat.le_of_ble_eq_true rfl) dX2_init_14 (fun H locs hP hD hS => ?_)
  have hP : va_P g.1 vwCl [(k, .inr (3, [.int fr, .int 0, .ref qb, .int 0, .int 0])), (qb, .inl (g.2.1 1, 32, .inl (fun _ => 0)))] H := hP
  have hD : va_D A [(k, .inr (3, [.int fr, .int 0, .ref qb, .int 0, .int 0])), (qb, .inl (g.2.1 1, 32, .inl (fun _ => 0)))] := hD
  refine lv_aload_n hx hb dX2_init_17 rfl (lv_at hl 0 rfl) ?_
  refine lv_iload_n hx hb dX2_init_18 rfl (lv_at hl 2 rfl) ?_
  refine va_putF (D := g.1) (ci := 3) (v := .int un) (ty := .int) (C := RX2) (T := TX2) (N := 5) hx hb hts hiX2 tyX2 tyX2_ok nmX2 hown hK.1 hP hD hS 0 rfl rfl 1 (by decide) (hts (.fieldLink RX2 17 "StampMaker$Key" "until" "I") (by decide +kernel)) (fun _ h9 => h9) rfl hnm rfl (by decide +kernel) rfl rfl (Nat.le_of_ble_eq_true rfl) dX2_init_19 (fun H locs hP hD hS => ?_)
  have hP : va_P g.1 vwCl [(k, .inr (3, [.int fr, .int un, .ref qb, .int 0, .int 0])), (qb, .inl (g.2.1 1, 32, .inl (fun _ => 0)))] H := hP
  have hD : va_D A [(k, .inr (3, [.int fr, .int un, .ref qb, .int 0, .int 0])), (qb, .inl (g.2.1 1, 32, .inl (fun _ => 0)))] := hD
  refine W.widen (k := 1) (n := 32) (Nat.le_of_ble_eq_true rfl) (Nat.le_of_ble_eq_true rfl) ?_
  exact endWv qb hx hb hr hlocks hS dX2_init_22 hP hD (trivial)

set_option maxHeartbeats 4000000 in
set_option maxRecDepth 100000 in
/-- a byte more -/
theorem c_X2_take_yes (l : Launch) (g : gE) (hsz : Nat) (k kb : Nat) (fr un xb : Int32) (f : Nat → Int32) (nz : Nat) (hz : nz < 32) : Met l yX2_take wsX2_take ({ frames := 0, cells := 0, slots := 0, locals := 0 }) (va_Pc [.ref k, .int xb] (wr g [(k, .inr (3, [.int fr, .int un, .ref kb, .int (nI nz), .int 0])), (kb, .inl (g.2.1 1, 32, .inl f))] hsz)) (va_Qv (fun (u : Unit) => True) (wB g (va_A [(k, .inr (3, [.int fr, .int un, .ref kb, .int (nI nz), .int 0])), (kb, .inl (g.2.1 1, 32, .inl f))] hsz) (fun u : Unit => [(k, .inr (3, [.int fr, .int un, .ref kb, .int (nI (nz + 1)), .int 0])), (kb, .inl (g.2.1 1, 32, .inl (upd f nz (vp_nar .byte xb))))])) (va_A [(k, .inr (3, [.int fr, .int un, .ref kb, .int (nI nz), .int 0])), (kb, .inl (g.2.1 1, 32, .inl f))] hsz)) 0 0 (va_A [(k, .inr (3, [.int fr, .int un, .ref kb, .int (nI nz), .int 0])), (kb, .inl (g.2.1 1, 32, .inl f))] hsz) := by
  refine ofWv (cc := cX2_take) (maxL := 2) (ret := none) (by decide) rfl (Nat.le_of_ble_eq_true rfl) (fun p e s m below meth c hx hb hr hml hts hown hlocks hnm A H hH hA hP hD hK hZ hS ls hl => ?_)
  have hown : s.vm.findClass RX2 = some m.cls := hown
  have hl : lv_has ls 2 [(0, .ref k), (1, .int xb)] := hl
  have hiX2 : ∀ w ∈ wsX20, w ∈ wsX2_take := by decide +kernel
  refine lv_aload_n hx hb dX2_take_0 rfl (lv_at hl 0 rfl) ?_
  refine va_get (D := g.1) (ci := 3) (v := .int 0) (C := RX2) (T := TX2) (N := 5) hx hb hts hiX2 hown hK.1 hP 0 rfl rfl 4 (by decide) (hts (.fieldLink RX2 20 "StampMaker$Key" "closed" "Z") (by decide +kernel)) (fun _ h9 => h9) rfl dX2_take_1 ?_
  refine lv_if_ne (tgt := 16) hx hb dX2_take_4 (by decide) (fun c9 => absurd (rfl) c9) (fun _ => ?_)
  refine lv_aload_n hx hb dX2_take_7 rfl (lv_at hl 0 rfl) ?_
  refine va_get (D := g.1) (ci := 3) (v := .int (nI nz)) (C := RX2) (T := TX2) (N := 5) hx hb hts hiX2 hown hK.1 hP 0 rfl rfl 3 (by decide) (hts (.fieldLink RX2 24 "StampMaker$Key" "count" "I") (by decide +kernel)) (fun _ h9 => h9) rfl dX2_take_8 ?_
  refine lv_bipush (v := (nI 32)) hx hb dX2_take_11 (by decide) ?_
  refine lv_icmp_lt (tgt := 17) hx hb dX2_take_13 (by decide) (fun _ => ?_) (fun c9 => absurd (nI_lt hz (by omega)) c9)
  refine lv_aload_n hx hb dX2_take_17 rfl (lv_at hl 0 rfl) ?_
  refine va_get (D := g.1) (ci := 3) (v := .ref kb) (C := RX2) (T := TX2) (N := 5) hx hb hts hiX2 hown hK.1 hP 0 rfl rfl 2 (by decide) (hts (.fieldLink RX2 9 "StampMaker$Key" "bytes" "[B") (by decide +kernel)) (fun _ h9 => h9) rfl dX2_take_18 ?_
  refine lv_aload_n hx hb dX2_take_21 rfl (lv_at hl 0 rfl) ?_
  refine va_get (D := g.1) (ci := 3) (v := .int (nI nz)) (C := RX2) (T := TX2) (N := 5) hx hb hts hiX2 hown hK.1 hP 0 rfl rfl 3 (by decide) (hts (.fieldLink RX2 24 "StampMaker$Key" "count" "I") (by decide +kernel)) (fun _ h9 => h9) rfl dX2_take_22 ?_
  refine lv_iload_n hx hb dX2_take_25 rfl (lv_at hl 1 rfl) ?_
  refine va_bast hx hb hK.1 hP hD hS 1 1 rfl rfl (vp_in_nI (by omega) (by omega)) dX2_take_26 (fun H locs hP hD hS => ?_)
  rw [nI_clamp (by omega)] at hP hD
  have hP : va_P g.1 vwCl [(k, .inr (3, [.int fr, .int un, .ref kb, .int (nI nz), .int 0])), (kb, .inl (g.2.1 1, 32, .inl (upd f nz (vp_nar .byte xb))))] H := hP
  have hD : va_D A [(k, .inr (3, [.int fr, .int un, .ref kb, .int (nI nz), .int 0])), (kb, .inl (g.2.1 1, 32, .inl (upd f nz (vp_nar .byte xb))))] := hD
  refine lv_aload_n hx hb dX2_take_27 rfl (lv_at hl 0 rfl) ?_
  refine lv_dup hx hb dX2_take_28 rfl ?_
  refine va_get (D := g.1) (ci := 3) (v := .int (nI nz)) (C := RX2) (T := TX2) (N := 5) hx hb hts hiX2 hown hK.1 hP 0 rfl rfl 3 (by decide) (hts (.fieldLink RX2 24 "StampMaker$Key" "count" "I") (by decide +kernel)) (fun _ h9 => h9) rfl dX2_take_29 ?_
  refine lv_iconst (v := (nI 1)) hx hb dX2_take_32 (by decide) ?_
  refine lv_iadd hx hb dX2_take_33 ?_
  refine lv_rei (x' := (nI (nz + 1))) (nI_1 _) ?_
  refine va_put (D := g.1) (ci := 3) (v := .int (nI (nz + 1))) (ty := .int) (C := RX2) (T := TX2) (N := 5) hx hb hts hiX2 tyX2 tyX2_ok nmX2 hown hK.1 hP hD hS 0 rfl rfl 3 (by decide) (hts (.fieldLink RX2 24 "StampMaker$Key" "count" "I") (by decide +kernel)) (fun _ h9 => h9) rfl (by decide +kernel) rfl rfl (Nat.le_of_ble_eq_true rfl) dX2_take_34 (fun H locs hP hD hS => ?_)
  have hP : va_P g.1 vwCl [(k, .inr (3, [.int fr, .int un, .ref kb, .int (nI (nz + 1)), .int 0])), (kb, .inl (g.2.1 1, 32, .inl (upd f nz (vp_nar .byte xb))))] H := hP
  have hD : va_D A [(k, .inr (3, [.int fr, .int un, .ref kb, .int (nI (nz + 1)), .int 0])), (kb, .inl (g.2.1 1, 32, .inl (upd f nz (vp_nar .byte xb))))] := hD
  exact endWv () hx hb hr hlocks hS dX2_take_37 hP hD (trivial)

set_option maxHeartbeats 4000000 in
set_option maxRecDepth 100000 in
/-- nothing comes of it -/
theorem c_X2_take_no (l : Launch) (g : gE) (k kb : Nat) (fr un cl xb : Int32) (nz : Nat) (hz : nz ≤ 32) (hno : ¬ (cl = 0 ∧ nz < 32)) : Met l yX2_take wsX2_take ({ frames := 0, cells := 0, slots := 0, locals := 0 }) (va_Pc [.ref k, .int xb] (ro g [(k, .inr (3, [.int fr, .int un, .ref kb, .int (nI nz), .int cl]))])) (va_Sv (fun r : Unit => True)) 0 0 nA := by
  refine ofRo (cc := cX2_take) (maxL := 2) (ret := none) (by decide) rfl (Nat.le_of_ble_eq_true rfl) (fun p e s m below meth c hx hb hr hml hts hown hlocks hnm hP hK hZ hS ls hl => ?_)
  have hown : s.vm.findClass RX2 = some m.cls := hown
  have hl : lv_has ls 2 [(0, .ref k), (1, .int xb)] := hl
  have hiX2 : ∀ w ∈ wsX20, w ∈ wsX2_take := by decide +kernel
  refine lv_aload_n hx hb dX2_take_0 rfl (lv_at hl 0 rfl) ?_
  refine va_get (D := g.1) (ci := 3) (v := .int cl) (C := RX2) (T := TX2) (N := 5) hx hb hts hiX2 hown hK.1 hP 0 rfl rfl 4 (by decide) (hts (.fieldLink RX2 20 "StampMaker$Key" "closed" "Z") (by decide +kernel)) (fun _ h9 => h9) rfl dX2_take_1 ?_
  refine lv_if_ne (tgt := 16) hx hb dX2_take_4 (by decide) (fun c_52 => ?_) (fun c_52 => ?_)
  · exact endRv hx hb hr hlocks dX2_take_16 (trivial)
  · have hz2 : nz = 32 := by rcases Nat.lt_or_ge nz 32 with q | q; exact absurd ⟨c_52, q⟩ hno; omega
    refine lv_aload_n hx hb dX2_take_7 rfl (lv_at hl 0 rfl) ?_
    refine va_get (D := g.1) (ci := 3) (v := .int (nI nz)) (C := RX2) (T := TX2) (N := 5) hx hb hts hiX2 hown hK.1 hP 0 rfl rfl 3 (by decide) (hts (.fieldLink RX2 24 "StampMaker$Key" "count" "I") (by decide +kernel)) (fun _ h9 => h9) rfl dX2_take_8 ?_
    refine lv_bipush (v := (nI 32)) hx hb dX2_take_11 (by decide) ?_
    refine lv_icmp_lt (tgt := 17) hx hb dX2_take_13 (by decide) (fun c9 => absurd c9 (nI_nlt (by omega) (by omega))) (fun _ => ?_)
    exact endRv hx hb hr hlocks dX2_take_16 (trivial)

set_option maxHeartbeats 4000000 in
set_option maxRecDepth 100000 in
/-- key i -/
theorem c_X4_kn_in (l : Launch) (g : gE) (s0 ks lt ty lg dg kn mn tn : Nat) (cc sp : Int32) (fk : Nat → Option Nat) (i : Nat) (hi : i < kn) (hkn : kn ≤ 15) : Met l yX4_keyNumbered wsX4_keyNumbered ({ frames := 0, cells := 0, slots := 0, locals := 0 }) (va_Pc [.ref s0, .int (nI i)] (ro g [(s0, .inr (5, [.ref ks, .int (nI kn), .int (nI mn), .ref lt, .ref ty, .int (nI tn), .int cc, .int sp, .ref lg, .ref dg])), (ks, .inl (g.2.1 4, 15, .inr (.inr (.inr (.inr fk)))))])) (va_Sq (fun r : Option Nat => r = fk i)) 0 0 nA := by
  refine ofRo (cc := cX4_keyNumbered) (maxL := 2) (ret := (some (.object "StampMaker$Key"))) (by decide) rfl (Nat.le_of_ble_eq_true rfl) (fun p e s m below meth c hx hb hr hml hts hown hlocks hnm hP hK hZ hS ls hl => ?_)
  have hown : s.vm.findClass RX4 = some m.cls := hown
  have hl : lv_has ls 2 [(0, .ref s0), (1, .int (nI i))] := hl
  have hiX4 : ∀ w ∈ wsX40, w ∈ wsX4_keyNumbered := by decide +kernel
  refine lv_iload_n hx hb dX4_keyNumbered_0 rfl (lv_at hl 1 rfl) ?_
  refine lv_if_lt (tgt := 27) hx hb dX4_keyNumbered_1 (by decide) (fun c9 => absurd c9 (nI_pos (by omega))) (fun _ => ?_)
  refine lv_iload_n hx hb dX4_keyNumbered_4 rfl (lv_at hl 1 rfl) ?_
  refine lv_aload_n hx hb dX4_keyNumbered_5 rfl (lv_at hl 0 rfl) ?_
  refine va_get (D := g.1) (ci := 5) (v := .int (nI kn)) (C := RX4) (T := TX4) (N := 10) hx hb hts hiX4 hown hK.1 hP 0 rfl rfl 1 (by decide) (hts (.fieldLink RX4 44 "StampMaker" "keyCount" "I") (by decide +kernel)) (fun _ h9 => h9) rfl dX4_keyNumbered_6 ?_
  refine lv_icmp_ge (tgt := 27) hx hb dX4_keyNumbered_9 (by decide) (fun c9 => absurd c9 (nI_ge hi (by omega))) (fun _ => ?_)
  refine lv_iload_n hx hb dX4_keyNumbered_12 rfl (lv_at hl 1 rfl) ?_
  refine lv_bipush (v := (nI 15)) hx hb dX4_keyNumbered_13 (by decide) ?_
  refine lv_icmp_ge (tgt := 27) hx hb dX4_keyNumbered_15 (by decide) (fun c9 => absurd c9 (nI_ge (by omega) (by omega))) (fun _ => ?_)
  refine lv_aload_n hx hb dX4_keyNumbered_18 rfl (lv_at hl 0 rfl) ?_
  refine va_get (D := g.1) (ci := 5) (v := .ref ks) (C := RX4) (T := TX4) (N := 10) hx hb hts hiX4 hown hK.1 hP 0 rfl rfl 0 (by decide) (hts (.fieldLink RX4 11 "StampMaker" "keys" "[LStampMaker$Key;") (by decide +kernel)) (fun _ h9 => h9) rfl dX4_keyNumbered_19 ?_
  refine lv_iload_n hx hb dX4_keyNumbered_22 rfl (lv_at hl 1 rfl) ?_
  refine va_aldq hx hb hK.1 hP 1 4 rfl rfl (vp_in_nI (by omega) (by omega)) dX4_keyNumbered_23 ?_
  refine lv_req (r' := fk i) (congrArg fk (nI_clamp (by omega))) ?_
  refine lv_goto (tgt := 28) hx hb dX4_keyNumbered_24 (by decide) ?_
  exact endRq hx hb hr hlocks dX4_keyNumbered_28 (rfl)

set_option maxHeartbeats 4000000 in
set_option maxRecDepth 100000 in
/-- no such key -/
theorem c_X4_kn_out (l : Launch) (g : gE) (s0 ks lt ty lg dg kn mn tn : Nat) (cc sp : Int32) (fk : Nat → Option Nat) (x : Int32) (hx0 : ¬ (0 ≤ x.toInt ∧ x.toInt < kn)) (hkn : kn ≤ 15) : Met l yX4_keyNumbered wsX4_keyNumbered ({ frames := 0, cells := 0, slots := 0, locals := 0 }) (va_Pc [.ref s0, .int x] (ro g [(s0, .inr (5, [.ref ks, .int (nI kn), .int (nI mn), .ref lt, .ref ty, .int (nI tn), .int cc, .int sp, .ref lg, .ref dg])), (ks, .inl (g.2.1 4, 15, .inr (.inr (.inr (.inr fk)))))])) (va_Sq (fun r : Option Nat => r = none)) 0 0 nA := by
  refine ofRo (cc := cX4_keyNumbered) (maxL := 2) (ret := (some (.object "StampMaker$Key"))) (by decide) rfl (Nat.le_of_ble_eq_true rfl) (fun p e s m below meth c hx hb hr hml hts hown hlocks hnm hP hK hZ hS ls hl => ?_)
  have hown : s.vm.findClass RX4 = some m.cls := hown
  have hl : lv_has ls 2 [(0, .ref s0), (1, .int x)] := hl
  have hiX4 : ∀ w ∈ wsX40, w ∈ wsX4_keyNumbered := by decide +kernel
  have tk := ti_n (n := kn) (by omega)
  refine lv_iload_n hx hb dX4_keyNumbered_0 rfl (lv_at hl 1 rfl) ?_
  refine lv_if_lt (tgt := 27) hx hb dX4_keyNumbered_1 (by decide) (fun c_53 => ?_) (fun c_53 => ?_)
  · refine lv_null hx hb dX4_keyNumbered_27 ?_
    exact endRq (v := none) hx hb hr hlocks dX4_keyNumbered_28 (rfl)
  · refine lv_iload_n hx hb dX4_keyNumbered_4 rfl (lv_at hl 1 rfl) ?_
    refine lv_aload_n hx hb dX4_keyNumbered_5 rfl (lv_at hl 0 rfl) ?_
    refine va_get (D := g.1) (ci := 5) (v := .int (nI kn)) (C := RX4) (T := TX4) (N := 10) hx hb hts hiX4 hown hK.1 hP 0 rfl rfl 1 (by decide) (hts (.fieldLink RX4 44 "StampMaker" "keyCount" "I") (by decide +kernel)) (fun _ h9 => h9) rfl dX4_keyNumbered_6 ?_
    refine lv_icmp_ge (tgt := 27) hx hb dX4_keyNumbered_9 (by decide) (fun c_54 => ?_) (fun c_54 => ?_)
    · refine lv_null hx hb dX4_keyNumbered_27 ?_
      exact endRq (v := none) hx hb hr hlocks dX4_keyNumbered_28 (rfl)
    · exact absurd (by simp only [ti_lt, ti_le, ti_0] at c_53 c_54; omega) hx0

set_option maxHeartbeats 4000000 in
set_option maxRecDepth 100000 in
/-- letter i -/
theorem c_X4_letter_in (l : Launch) (g : gE) (s0 ks lt ty lg dg kn mn tn : Nat) (cc sp : Int32) (fl : Nat → Int32) (i : Nat) (hi : i < 16) : Met l yX4_letter wsX4_letter ({ frames := 0, cells := 0, slots := 0, locals := 0 }) (va_Pc [.ref s0, .int (nI i)] (ro g [(s0, .inr (5, [.ref ks, .int (nI kn), .int (nI mn), .ref lt, .ref ty, .int (nI tn), .int cc, .int sp, .ref lg, .ref dg])), (lt, .inl (g.2.1 0, 16, .inl fl))])) (vp_Si (fun r : Int32 => r = fl i)) 0 0 nA := by
  refine ofRo (cc := cX4_letter) (maxL := 2) (ret := (some .int)) (by decide) rfl (Nat.le_of_ble_eq_true rfl) (fun p e s m below meth c hx hb hr hml hts hown hlocks hnm hP hK hZ hS ls hl => ?_)
  have hown : s.vm.findClass RX4 = some m.cls := hown
  have hl : lv_has ls 2 [(0, .ref s0), (1, .int (nI i))] := hl
  have hiX4 : ∀ w ∈ wsX40, w ∈ wsX4_letter := by decide +kernel
  refine lv_iload_n hx hb dX4_letter_0 rfl (lv_at hl 1 rfl) ?_
  refine lv_if_lt (tgt := 19) hx hb dX4_letter_1 (by decide) (fun c9 => absurd c9 (nI_pos (by omega))) (fun _ => ?_)
  refine lv_iload_n hx hb dX4_letter_4 rfl (lv_at hl 1 rfl) ?_
  refine lv_bipush (v := (nI 16)) hx hb dX4_letter_5 (by decide) ?_
  refine lv_icmp_ge (tgt := 19) hx hb dX4_letter_7 (by decide) (fun c9 => absurd c9 (nI_ge hi (by omega))) (fun _ => ?_)
  refine lv_aload_n hx hb dX4_letter_10 rfl (lv_at hl 0 rfl) ?_
  refine va_get (D := g.1) (ci := 5) (v := .ref lt) (C := RX4) (T := TX4) (N := 10) hx hb hts hiX4 hown hK.1 hP 0 rfl rfl 3 (by decide) (hts (.fieldLink RX4 15 "StampMaker" "latestLetters" "[I") (by decide +kernel)) (fun _ h9 => h9) rfl dX4_letter_11 ?_
  refine lv_iload_n hx hb dX4_letter_14 rfl (lv_at hl 1 rfl) ?_
  refine va_iald hx hb hK.1 hP 1 0 rfl rfl (vp_in_nI (by omega) (by omega)) dX4_letter_15 ?_
  refine lv_rei (x' := fl i) (congrArg fl (nI_clamp (by omega))) ?_
  refine lv_goto (tgt := 20) hx hb dX4_letter_16 (by decide) ?_
  exact endRi hx hb hr hlocks dX4_letter_20 (rfl)

set_option maxHeartbeats 4000000 in
set_option maxRecDepth 100000 in
/-- no such letter -/
theorem c_X4_letter_out (l : Launch) (g : gE) (s0 ks lt ty lg dg kn mn tn : Nat) (cc sp : Int32) (x : Int32) (hx0 : ¬ (0 ≤ x.toInt ∧ x.toInt < 16)) : Met l yX4_letter wsX4_letter ({ frames := 0, cells := 0, slots := 0, locals := 0 }) (va_Pc [.ref s0, .int x] (ro g [(s0, .inr (5, [.ref ks, .int (nI kn), .int (nI mn), .ref lt, .ref ty, .int (nI tn), .int cc, .int sp, .ref lg, .ref dg]))])) (vp_Si (fun r : Int32 => r = nI 0)) 0 0 nA := by
  refine ofRo (cc := cX4_letter) (maxL := 2) (ret := (some .int)) (by decide) rfl (Nat.le_of_ble_eq_true rfl) (fun p e s m below meth c hx hb hr hml hts hown hlocks hnm hP hK hZ hS ls hl => ?_)
  have hown : s.vm.findClass RX4 = some m.cls := hown
  have hl : lv_has ls 2 [(0, .ref s0), (1, .int x)] := hl
  have tn0 : (nI 0).toInt = 0 := by decide
  have tn16 : (nI 16).toInt = 16 := by decide
  have hiX4 : ∀ w ∈ wsX40, w ∈ wsX4_letter := by decide +kernel
  refine lv_iload_n hx hb dX4_letter_0 rfl (lv_at hl 1 rfl) ?_
  refine lv_if_lt (tgt := 19) hx hb dX4_letter_1 (by decide) (fun c_55 => ?_) (fun c_55 => ?_)
  · refine lv_iconst (v := (nI 0)) hx hb dX4_letter_19 (by decide) ?_
    exact endRi hx hb hr hlocks dX4_letter_20 (rfl)
  · refine lv_iload_n hx hb dX4_letter_4 rfl (lv_at hl 1 rfl) ?_
    refine lv_bipush (v := (nI 16)) hx hb dX4_letter_5 (by decide) ?_
    refine lv_icmp_ge (tgt := 19) hx hb dX4_letter_7 (by decide) (fun c_56 => ?_) (fun c_56 => ?_)
    · refine lv_iconst (v := (nI 0)) hx hb dX4_letter_19 (by decide) ?_
      exact endRi hx hb hr hlocks dX4_letter_20 (rfl)
    · exact absurd (by simp only [ti_lt, ti_le, ti_0] at c_55 c_56; omega) hx0

set_option maxHeartbeats 4000000 in
set_option maxRecDepth 100000 in
/-- a character typed -/
theorem c_X4_type_yes (l : Launch) (g : gE) (hsz : Nat) (s0 ks lt ty lg dg kn mn tn : Nat) (cc sp : Int32) (ft : Nat → Int32) (x : Int32) (ht : tn < 40) : Met l yX4_type wsX4_type ({ frames := 0, cells := 0, slots := 0, locals := 0 }) (va_Pc [.ref s0, .int x] (wr g [(s0, .inr (5, [.ref ks, .int (nI kn), .int (nI mn), .ref lt, .ref ty, .int (nI tn), .int cc, .int sp, .ref lg, .ref dg])), (ty, .inl (g.2.1 0, 40, .inl ft))] hsz)) (va_Qv (fun (u : Unit) => True) (wB g (va_A [(s0, .inr (5, [.ref ks, .int (nI kn), .int (nI mn), .ref lt, .ref ty, .int (nI tn), .int cc, .int sp, .ref lg, .ref dg])), (ty, .inl (g.2.1 0, 40, .inl ft))] hsz) (fun u : Unit => [(s0, .inr (5, [.ref ks, .int (nI kn), .int (nI mn), .ref lt, .ref ty, .int (nI (tn + 1)), .int cc, .int sp, .ref lg, .ref dg])), (ty, .inl (g.2.1 0, 40, .inl (upd ft tn x)))])) (va_A [(s0, .inr (5, [.ref ks, .int (nI kn), .int (nI mn), .ref lt, .ref ty, .int (nI tn), .int cc, .int sp, .ref lg, .ref dg])), (ty, .inl (g.2.1 0, 40, .inl ft))] hsz)) 0 0 (va_A [(s0, .inr (5, [.ref ks, .int (nI kn), .int (nI mn), .ref lt, .ref ty, .int (nI tn), .int cc, .int sp, .ref lg, .ref dg])), (ty, .inl (g.2.1 0, 40, .inl ft))] hsz) := by
  refine ofWv (cc := cX4_type) (maxL := 2) (ret := none) (by decide) rfl (Nat.le_of_ble_eq_true rfl) (fun p e s m below meth c hx hb hr hml hts hown hlocks hnm A H hH hA hP hD hK hZ hS ls hl => ?_)
  have hown : s.vm.findClass RX4 = some m.cls := hown
  have hl : lv_has ls 2 [(0, .ref s0), (1, .int x)] := hl
  have hiX4 : ∀ w ∈ wsX40, w ∈ wsX4_type := by decide +kernel
  refine lv_aload_n hx hb dX4_type_0 rfl (lv_at hl 0 rfl) ?_
  refine va_get (D := g.1) (ci := 5) (v := .int (nI tn)) (C := RX4) (T := TX4) (N := 10) hx hb hts hiX4 hown hK.1 hP 0 rfl rfl 5 (by decide) (hts (.fieldLink RX4 92 "StampMaker" "typedCount" "I") (by decide +kernel)) (fun _ h9 => h9) rfl dX4_type_1 ?_
  refine lv_bipush (v := (nI 40)) hx hb dX4_type_4 (by decide) ?_
  refine lv_icmp_lt (tgt := 10) hx hb dX4_type_6 (by decide) (fun _ => ?_) (fun c9 => absurd (nI_lt ht (by omega)) c9)
  refine lv_aload_n hx hb dX4_type_10 rfl (lv_at hl 0 rfl) ?_
  refine va_get (D := g.1) (ci := 5) (v := .ref ty) (C := RX4) (T := TX4) (N := 10) hx hb hts hiX4 hown hK.1 hP 0 rfl rfl 4 (by decide) (hts (.fieldLink RX4 19 "StampMaker" "typed" "[I") (by decide +kernel)) (fun _ h9 => h9) rfl dX4_type_11 ?_
  refine lv_aload_n hx hb dX4_type_14 rfl (lv_at hl 0 rfl) ?_
  refine va_get (D := g.1) (ci := 5) (v := .int (nI tn)) (C := RX4) (T := TX4) (N := 10) hx hb hts hiX4 hown hK.1 hP 0 rfl rfl 5 (by decide) (hts (.fieldLink RX4 92 "StampMaker" "typedCount" "I") (by decide +kernel)) (fun _ h9 => h9) rfl dX4_type_15 ?_
  refine lv_iload_n hx hb dX4_type_18 rfl (lv_at hl 1 rfl) ?_
  refine va_iast hx hb hK.1 hP hD hS 1 0 rfl rfl (vp_in_nI (by omega) (by omega)) dX4_type_19 (fun H locs hP hD hS => ?_)
  rw [nI_clamp (by omega)] at hP hD
  have hP : va_P g.1 vwCl [(s0, .inr (5, [.ref ks, .int (nI kn), .int (nI mn), .ref lt, .ref ty, .int (nI tn), .int cc, .int sp, .ref lg, .ref dg])), (ty, .inl (g.2.1 0, 40, .inl (upd ft tn x)))] H := hP
  have hD : va_D A [(s0, .inr (5, [.ref ks, .int (nI kn), .int (nI mn), .ref lt, .ref ty, .int (nI tn), .int cc, .int sp, .ref lg, .ref dg])), (ty, .inl (g.2.1 0, 40, .inl (upd ft tn x)))] := hD
  refine lv_aload_n hx hb dX4_type_20 rfl (lv_at hl 0 rfl) ?_
  refine lv_dup hx hb dX4_type_21 rfl ?_
  refine va_get (D := g.1) (ci := 5) (v := .int (nI tn)) (C := RX4) (T := TX4) (N := 10) hx hb hts hiX4 hown hK.1 hP 0 rfl rfl 5 (by decide) (hts (.fieldLink RX4 92 "StampMaker" "typedCount" "I") (by decide +kernel)) (fun _ h9 => h9) rfl dX4_type_22 ?_
  refine lv_iconst (v := (nI 1)) hx hb dX4_type_25 (by decide) ?_
  refine lv_iadd hx hb dX4_type_26 ?_
  refine lv_rei (x' := (nI (tn + 1))) (nI_1 _) ?_
  refine va_put (D := g.1) (ci := 5) (v := .int (nI (tn + 1))) (ty := .int) (C := RX4) (T := TX4) (N := 10) hx hb hts hiX4 tyX4 tyX4_ok nmX4 hown hK.1 hP hD hS 0 rfl rfl 5 (by decide) (hts (.fieldLink RX4 92 "StampMaker" "typedCount" "I") (by decide +kernel)) (fun _ h9 => h9) rfl (by decide +kernel) rfl rfl (Nat.le_of_ble_eq_true rfl) dX4_type_27 (fun H locs hP hD hS => ?_)
  have hP : va_P g.1 vwCl [(s0, .inr (5, [.ref ks, .int (nI kn), .int (nI mn), .ref lt, .ref ty, .int (nI (tn + 1)), .int cc, .int sp, .ref lg, .ref dg])), (ty, .inl (g.2.1 0, 40, .inl (upd ft tn x)))] H := hP
  have hD : va_D A [(s0, .inr (5, [.ref ks, .int (nI kn), .int (nI mn), .ref lt, .ref ty, .int (nI (tn + 1)), .int cc, .int sp, .ref lg, .ref dg])), (ty, .inl (g.2.1 0, 40, .inl (upd ft tn x)))] := hD
  exact endWv () hx hb hr hlocks hS dX4_type_30 hP hD (trivial)

set_option maxHeartbeats 4000000 in
set_option maxRecDepth 100000 in
/-- 40 are typed -/
theorem c_X4_type_no (l : Launch) (g : gE) (s0 ks lt ty lg dg kn mn tn : Nat) (cc sp : Int32) (x : Int32) (ht : tn = 40) : Met l yX4_type wsX4_type ({ frames := 0, cells := 0, slots := 0, locals := 0 }) (va_Pc [.ref s0, .int x] (ro g [(s0, .inr (5, [.ref ks, .int (nI kn), .int (nI mn), .ref lt, .ref ty, .int (nI tn), .int cc, .int sp, .ref lg, .ref dg]))])) (va_Sv (fun r : Unit => True)) 0 0 nA := by
  refine ofRo (cc := cX4_type) (maxL := 2) (ret := none) (by decide) rfl (Nat.le_of_ble_eq_true rfl) (fun p e s m below meth c hx hb hr hml hts hown hlocks hnm hP hK hZ hS ls hl => ?_)
  have hown : s.vm.findClass RX4 = some m.cls := hown
  have hl : lv_has ls 2 [(0, .ref s0), (1, .int x)] := hl
  have hiX4 : ∀ w ∈ wsX40, w ∈ wsX4_type := by decide +kernel
  subst ht
  refine lv_aload_n hx hb dX4_type_0 rfl (lv_at hl 0 rfl) ?_
  refine va_get (D := g.1) (ci := 5) (v := .int (nI 40)) (C := RX4) (T := TX4) (N := 10) hx hb hts hiX4 hown hK.1 hP 0 rfl rfl 5 (by decide) (hts (.fieldLink RX4 92 "StampMaker" "typedCount" "I") (by decide +kernel)) (fun _ h9 => h9) rfl dX4_type_1 ?_
  refine lv_bipush (v := (nI 40)) hx hb dX4_type_4 (by decide) ?_
  refine lv_icmp_lt (tgt := 10) hx hb dX4_type_6 (by decide) (fun c9 => absurd c9 (nI_nlt (Nat.le_refl _) (by omega))) (fun _ => ?_)
  exact endRv hx hb hr hlocks dX4_type_9 (trivial)

set_option maxHeartbeats 4000000 in
set_option maxRecDepth 100000 in
/-- of the stamp found spent or accepted latest -/
theorem c_X4_first (l : Launch) (g : gE) (s0 ks lt ty lg dg kn mn tn : Nat) (cc sp : Int32) (fa da ch : Nat) (fd fc : Nat → Int32) (x : Int32) (hsp : sp = -1 ∨ ∃ j, j < 16384 ∧ sp = nI j) : Met l yX4_first wsX4_first ({ frames := 2, cells := 0, slots := 0, locals := 42 }) (va_Pc [.ref s0, .int x] (ro g [(s0, .inr (5, [.ref ks, .int (nI kn), .int (nI mn), .ref lt, .ref ty, .int (nI tn), .int cc, .int sp, .ref lg, .ref dg])), (lg, .inr (4, [.ref fa, .ref da, .ref ch])), (da, .inl (g.2.1 0, 16384, .inl fd)), (ch, .inl (g.2.1 0, 16384, .inl fc))])) (vp_Si (fun r : Int32 => r = fi x sp fd fc)) 0 0 nA := by
  refine ofRo (cc := cX4_first) (maxL := 2) (ret := (some .int)) (by decide) rfl (Nat.le_of_ble_eq_true rfl) (fun p e s m below meth c hx hb hr hml hts hown hlocks hnm hP hK hZ hS ls hl => ?_)
  have hown : s.vm.findClass RX4 = some m.cls := hown
  have hl : lv_has ls 2 [(0, .ref s0), (1, .int x)] := hl
  have tn1 : (nI 1).toInt = 1 := by decide
  have tn2 : (nI 2).toInt = 2 := by decide
  have hiX4 : ∀ w ∈ wsX40, w ∈ wsX4_first := by decide +kernel
  refine lv_iload_n hx hb dX4_first_0 rfl (lv_at hl 1 rfl) ?_
  refine lv_if_lt (tgt := 9) hx hb dX4_first_1 (by decide) (fun c_57 => ?_) (fun c_57 => ?_)
  · refine lv_bipush (v := (-22)) hx hb dX4_first_9 (by decide) ?_
    exact endRi hx hb hr hlocks dX4_first_11 (by unfold fi; rw [if_pos (by simp only [ti_lt, ti_le, ti_0] at c_57; omega)])
  · refine lv_iload_n hx hb dX4_first_4 rfl (lv_at hl 1 rfl) ?_
    refine lv_iconst (v := (nI 2)) hx hb dX4_first_5 (by decide) ?_
    refine lv_icmp_le (tgt := 12) hx hb dX4_first_6 (by decide) (fun c_58 => ?_) (fun c_58 => ?_)
    · have hin : ¬ ¬ (0 ≤ x.toInt ∧ x.toInt ≤ 2) := by simp only [ti_lt, ti_le, ti_0] at c_57 c_58; omega
      refine lv_aload_n hx hb dX4_first_12 rfl (lv_at hl 0 rfl) ?_
      refine va_get (D := g.1) (ci := 5) (v := .int sp) (C := RX4) (T := TX4) (N := 10) hx hb hts hiX4 hown hK.1 hP 0 rfl rfl 7 (by decide) (hts (.fieldLink RX4 22 "StampMaker" "latestSpent" "I") (by decide +kernel)) (fun _ h9 => h9) rfl dX4_first_13 ?_
      rcases hsp with hsp | ⟨j, hj, hsp⟩
      · refine lv_if_ge (tgt := 21) hx hb dX4_first_16 (by decide) (fun c9 => absurd c9 (by rw [hsp]; decide)) (fun _ => ?_)
        refine lv_iconst (v := (-1)) hx hb dX4_first_19 (by decide) ?_
        exact endRi hx hb hr hlocks dX4_first_20 (by unfold fi; rw [if_neg hin, if_pos (by rw [hsp]; decide)])
      · have hs0 : ¬ sp < 0 := by rw [hsp]; exact nI_pos (by omega)
        refine lv_if_ge (tgt := 21) hx hb dX4_first_16 (by decide) (fun _ => ?_) (fun c9 => absurd (by rw [hsp]; exact nI_pos' (by omega)) c9)
        refine lv_iload_n hx hb dX4_first_21 rfl (lv_at hl 1 rfl) ?_
        refine lv_if_ne (tgt := 30) hx hb dX4_first_22 (by decide) (fun c_59 => ?_) (fun c_59 => ?_)
        · refine lv_iload_n hx hb dX4_first_30 rfl (lv_at hl 1 rfl) ?_
          refine lv_iconst (v := (nI 1)) hx hb dX4_first_31 (by decide) ?_
          refine lv_icmp_ne (tgt := 49) hx hb dX4_first_32 (by decide) (fun c_60 => ?_) (fun c_60 => ?_)
          · refine lv_aload_n hx hb dX4_first_49 rfl (lv_at hl 0 rfl) ?_
            refine va_get (D := g.1) (ci := 5) (v := .ref lg) (C := RX4) (T := TX4) (N := 10) hx hb hts hiX4 hown hK.1 hP 0 rfl rfl 8 (by decide) (hts (.fieldLink RX4 29 "StampMaker" "ledger" "LStampMaker$Ledger;") (by decide +kernel)) (fun _ h9 => h9) rfl dX4_first_50 ?_
            refine lv_aload_n hx hb dX4_first_53 rfl (lv_at hl 0 rfl) ?_
            refine va_get (D := g.1) (ci := 5) (v := .int sp) (C := RX4) (T := TX4) (N := 10) hx hb hts hiX4 hown hK.1 hP 0 rfl rfl 7 (by decide) (hts (.fieldLink RX4 22 "StampMaker" "latestSpent" "I") (by decide +kernel)) (fun _ h9 => h9) rfl dX4_first_54 ?_
            refine lv_rei (x' := (nI j)) (hsp) ?_
            refine cVi (rest := []) ⟨hx, hb, hml, hown, hts⟩ [.int (nI j)] (c_X3_checkOf l g (lg := lg) (fa := fa) (da := da) (ch := ch) (fc := fc) (j := j) hj) (cwV 1 hts gX4_first_X3_checkOf rfl rfl rfl (by decide +kernel) ⟨Nat.le_of_ble_eq_true rfl, Nat.le_of_ble_eq_true rfl⟩) hK hZ hS (subP hP [1, 3] rfl) (va_recv hK.1 hP (ci := 4) (q0 := 1) rfl rfl) rfl hl.1 rfl (Nat.le_of_ble_eq_true rfl) dX4_first_57 ⟨Nat.zero_le _, Nat.zero_le _⟩ (fun r_62 hr_62 => ?_)
            obtain rfl : r_62 = (fc j) := hr_62
            exact endRi hx hb hr hlocks dX4_first_60 (by unfold fi; rw [if_neg hin, if_neg hs0, if_neg c_59, if_neg c_60, hsp, nI_clamp (by omega)])
          · refine lv_aload_n hx hb dX4_first_35 rfl (lv_at hl 0 rfl) ?_
            refine va_get (D := g.1) (ci := 5) (v := .ref lg) (C := RX4) (T := TX4) (N := 10) hx hb hts hiX4 hown hK.1 hP 0 rfl rfl 8 (by decide) (hts (.fieldLink RX4 29 "StampMaker" "ledger" "LStampMaker$Ledger;") (by decide +kernel)) (fun _ h9 => h9) rfl dX4_first_36 ?_
            refine lv_aload_n hx hb dX4_first_39 rfl (lv_at hl 0 rfl) ?_
            refine va_get (D := g.1) (ci := 5) (v := .int sp) (C := RX4) (T := TX4) (N := 10) hx hb hts hiX4 hown hK.1 hP 0 rfl rfl 7 (by decide) (hts (.fieldLink RX4 22 "StampMaker" "latestSpent" "I") (by decide +kernel)) (fun _ h9 => h9) rfl dX4_first_40 ?_
            refine lv_rei (x' := (nI j)) (hsp) ?_
            refine cVi (rest := []) ⟨hx, hb, hml, hown, hts⟩ [.int (nI j)] (c_X3_dayOf l g (lg := lg) (fa := fa) (da := da) (ch := ch) (fd := fd) (j := j) hj) (cwV 1 hts gX4_first_X3_dayOf rfl rfl rfl (by decide +kernel) ⟨Nat.le_of_ble_eq_true rfl, Nat.le_of_ble_eq_true rfl⟩) hK hZ hS (subP hP [1, 2] rfl) (va_recv hK.1 hP (ci := 4) (q0 := 1) rfl rfl) rfl hl.1 rfl (Nat.le_of_ble_eq_true rfl) dX4_first_43 ⟨Nat.zero_le _, Nat.zero_le _⟩ (fun r_61 hr_61 => ?_)
            obtain rfl : r_61 = (fd j) := hr_61
            refine lv_goto (tgt := 60) hx hb dX4_first_46 (by decide) ?_
            exact endRi hx hb hr hlocks dX4_first_60 (by unfold fi; rw [if_neg hin, if_neg hs0, if_neg c_59, if_pos c_60, hsp, nI_clamp (by omega)])
        · refine lv_aload_n hx hb dX4_first_25 rfl (lv_at hl 0 rfl) ?_
          refine va_get (D := g.1) (ci := 5) (v := .int sp) (C := RX4) (T := TX4) (N := 10) hx hb hts hiX4 hown hK.1 hP 0 rfl rfl 7 (by decide) (hts (.fieldLink RX4 22 "StampMaker" "latestSpent" "I") (by decide +kernel)) (fun _ h9 => h9) rfl dX4_first_26 ?_
          exact endRi hx hb hr hlocks dX4_first_29 (by unfold fi; rw [if_neg hin, if_neg hs0, if_pos c_59])
    · refine lv_bipush (v := (-22)) hx hb dX4_first_9 (by decide) ?_
      exact endRi hx hb hr hlocks dX4_first_11 (by unfold fi; rw [if_pos (by simp only [ti_lt, ti_le, ti_0] at c_58; omega)])

set_option maxHeartbeats 4000000 in
set_option maxRecDepth 100000 in
/-- what became of j -/
theorem c_X4_spent_in (l : Launch) (g : gE) (s0 ks lt ty lg dg kn mn tn : Nat) (cc sp : Int32) (fa da ch : Nat) (ff : Nat → Int32) (j : Nat) (hj : j < 16384) : Met l yX4_spent wsX4_spent ({ frames := 2, cells := 0, slots := 0, locals := 43 }) (va_Pc [.ref s0, .long (lN j)] (ro g [(s0, .inr (5, [.ref ks, .int (nI kn), .int (nI mn), .ref lt, .ref ty, .int (nI tn), .int cc, .int sp, .ref lg, .ref dg])), (lg, .inr (4, [.ref fa, .ref da, .ref ch])), (fa, .inl (g.2.1 1, 16384, .inl ff))])) (vp_Si (fun r : Int32 => r = ff j)) 0 0 nA := by
  refine ofRo (cc := cX4_spent) (maxL := 3) (ret := (some .int)) (by decide) rfl (Nat.le_of_ble_eq_true rfl) (fun p e s m below meth c hx hb hr hml hts hown hlocks hnm hP hK hZ hS ls hl => ?_)
  have hown : s.vm.findClass RX4 = some m.cls := hown
  have hl : lv_has ls 3 [(0, .ref s0), (1, .long (lN j))] := hl
  have hiX4 : ∀ w ∈ wsX40, w ∈ wsX4_spent := by decide +kernel
  refine lv_aload_n hx hb dX4_spent_0 rfl (lv_at hl 0 rfl) ?_
  refine va_get (D := g.1) (ci := 5) (v := .ref lg) (C := RX4) (T := TX4) (N := 10) hx hb hts hiX4 hown hK.1 hP 0 rfl rfl 8 (by decide) (hts (.fieldLink RX4 29 "StampMaker" "ledger" "LStampMaker$Ledger;") (by decide +kernel)) (fun _ h9 => h9) rfl dX4_spent_1 ?_
  refine lv_lload_n hx hb dX4_spent_4 rfl (lv_at hl 1 rfl) ?_
  refine cVi (rest := []) ⟨hx, hb, hml, hown, hts⟩ [.long (lN j)] (c_X3_fateOf_in l g (lg := lg) (fa := fa) (da := da) (ch := ch) (ff := ff) (j := j) hj) (cwV 1 hts gX4_spent_X3_fateOf rfl rfl rfl (by decide +kernel) ⟨Nat.le_of_ble_eq_true rfl, Nat.le_of_ble_eq_true rfl⟩) hK hZ hS (subP hP [1, 2] rfl) (va_recv hK.1 hP (ci := 4) (q0 := 1) rfl rfl) rfl hl.1 rfl (Nat.le_of_ble_eq_true rfl) dX4_spent_5 ⟨Nat.zero_le _, Nat.zero_le _⟩ (fun r_63 hr_63 => ?_)
  obtain rfl : r_63 = (ff j) := hr_63
  exact endRi hx hb hr hlocks dX4_spent_8 (rfl)

set_option maxHeartbeats 4000000 in
set_option maxRecDepth 100000 in
/-- none such -/
theorem c_X4_spent_out (l : Launch) (g : gE) (s0 ks lt ty lg dg kn mn tn : Nat) (cc sp : Int32) (fa da ch : Nat) (ff : Nat → Int32) (x : Int64) (hx0 : ¬ (0 ≤ x.toInt ∧ x.toInt ≤ 16383)) : Met l yX4_spent wsX4_spent ({ frames := 2, cells := 0, slots := 0, locals := 43 }) (va_Pc [.ref s0, .long x] (ro g [(s0, .inr (5, [.ref ks, .int (nI kn), .int (nI mn), .ref lt, .ref ty, .int (nI tn), .int cc, .int sp, .ref lg, .ref dg])), (lg, .inr (4, [.ref fa, .ref da, .ref ch])), (fa, .inl (g.2.1 1, 16384, .inl ff))])) (vp_Si (fun r : Int32 => r = nI 0)) 0 0 nA := by
  refine ofRo (cc := cX4_spent) (maxL := 3) (ret := (some .int)) (by decide) rfl (Nat.le_of_ble_eq_true rfl) (fun p e s m below meth c hx hb hr hml hts hown hlocks hnm hP hK hZ hS ls hl => ?_)
  have hown : s.vm.findClass RX4 = some m.cls := hown
  have hl : lv_has ls 3 [(0, .ref s0), (1, .long x)] := hl
  have hiX4 : ∀ w ∈ wsX40, w ∈ wsX4_spent := by decide +kernel
  refine lv_aload_n hx hb dX4_spent_0 rfl (lv_at hl 0 rfl) ?_
  refine va_get (D := g.1) (ci := 5) (v := .ref lg) (C := RX4) (T := TX4) (N := 10) hx hb hts hiX4 hown hK.1 hP 0 rfl rfl 8 (by decide) (hts (.fieldLink RX4 29 "StampMaker" "ledger" "LStampMaker$Ledger;") (by decide +kernel)) (fun _ h9 => h9) rfl dX4_spent_1 ?_
  refine lv_lload_n hx hb dX4_spent_4 rfl (lv_at hl 1 rfl) ?_
  refine cVi (rest := []) ⟨hx, hb, hml, hown, hts⟩ [.long x] (c_X3_fateOf_out l g (lg := lg) (fa := fa) (da := da) (ch := ch) (ff := ff) (x := x) hx0) (cwV 1 hts gX4_spent_X3_fateOf rfl rfl rfl (by decide +kernel) ⟨Nat.le_of_ble_eq_true rfl, Nat.le_of_ble_eq_true rfl⟩) hK hZ hS (subP hP [1, 2] rfl) (va_recv hK.1 hP (ci := 4) (q0 := 1) rfl rfl) rfl hl.1 rfl (Nat.le_of_ble_eq_true rfl) dX4_spent_5 ⟨Nat.zero_le _, Nat.zero_le _⟩ (fun r_64 hr_64 => ?_)
  obtain rfl : r_64 = (nI 0) := hr_64
  exact endRi hx hb hr hlocks dX4_spent_8 (rfl)

set_option maxHeartbeats 4000000 in
set_option maxRecDepth 100000 in
/-- the next serial number -/
theorem c_X4_serial (l : Launch) (g : gE) (s0 ks lt ty lg dg kn mn tn : Nat) (cc sp : Int32)  : Met l yX4_serial wsX4_serial ({ frames := 0, cells := 0, slots := 0, locals := 0 }) (va_Pc [.ref s0] (ro g [(s0, .inr (5, [.ref ks, .int (nI kn), .int (nI mn), .ref lt, .ref ty, .int (nI tn), .int cc, .int sp, .ref lg, .ref dg]))])) (vp_Sl (fun r : Int64 => r = (nI mn).toInt64)) 0 0 nA := by
  refine ofRo (cc := cX4_serial) (maxL := 1) (ret := (some .long)) (by decide) rfl (Nat.le_of_ble_eq_true rfl) (fun p e s m below meth c hx hb hr hml hts hown hlocks hnm hP hK hZ hS ls hl => ?_)
  have hown : s.vm.findClass RX4 = some m.cls := hown
  have hl : lv_has ls 1 [(0, .ref s0)] := hl
  have hiX4 : ∀ w ∈ wsX40, w ∈ wsX4_serial := by decide +kernel
  refine lv_aload_n hx hb dX4_serial_0 rfl (lv_at hl 0 rfl) ?_
  refine va_get (D := g.1) (ci := 5) (v := .int (nI mn)) (C := RX4) (T := TX4) (N := 10) hx hb hts hiX4 hown hK.1 hP 0 rfl rfl 2 (by decide) (hts (.fieldLink RX4 68 "StampMaker" "made" "I") (by decide +kernel)) (fun _ h9 => h9) rfl dX4_serial_1 ?_
  refine lv_i2l hx hb dX4_serial_4 rfl ?_
  exact endRl hx hb hr hlocks dX4_serial_5 (rfl)

set_option maxHeartbeats 4000000 in
set_option maxRecDepth 100000 in
/-- made by nobody -/
theorem c_X4_refund_out (l : Launch) (g : gE) (s0 ks lt ty lg dg kn mn tn : Nat) (cc sp : Int32) (x : Int64) (hx0 : ¬ (0 ≤ x.toInt ∧ x.toInt < mn)) (hmn : mn < 16384) : Met l yX4_refund wsX4_refund ({ frames := 0, cells := 0, slots := 0, locals := 0 }) (va_Pc [.ref s0, .long x] (ro g [(s0, .inr (5, [.ref ks, .int (nI kn), .int (nI mn), .ref lt, .ref ty, .int (nI tn), .int cc, .int sp, .ref lg, .ref dg]))])) (vp_Si (fun r : Int32 => r = nI 0)) 0 0 nA := by
  refine ofRo (cc := cX4_refund) (maxL := 3) (ret := (some .int)) (by decide) rfl (Nat.le_of_ble_eq_true rfl) (fun p e s m below meth c hx hb hr hml hts hown hlocks hnm hP hK hZ hS ls hl => ?_)
  have hown : s.vm.findClass RX4 = some m.cls := hown
  have hl : lv_has ls 3 [(0, .ref s0), (1, .long x)] := hl
  have tn0 : (nI 0).toInt = 0 := by decide
  have tn1 : (nI 1).toInt = 1 := by decide
  have tl0 : (lN 0).toInt = 0 := by decide
  have hiX4 : ∀ w ∈ wsX40, w ∈ wsX4_refund := by decide +kernel
  have tm := tl_n (n := mn) (by omega)
  refine lv_lload_n hx hb dX4_refund_0 rfl (lv_at hl 1 rfl) ?_
  refine lv_lconst (v := lN 0) hx hb dX4_refund_1 (by decide) ?_
  refine W.lcmp hx hb dX4_refund_2 ?_
  refine lv_if_lt (tgt := 27) hx hb dX4_refund_3 (by decide) (fun c_65 => ?_) (fun c_65 => ?_)
  · refine lv_iconst (v := (nI 0)) hx hb dX4_refund_27 (by decide) ?_
    exact endRi hx hb hr hlocks dX4_refund_28 (rfl)
  · refine lv_lload_n hx hb dX4_refund_6 rfl (lv_at hl 1 rfl) ?_
    refine lv_aload_n hx hb dX4_refund_7 rfl (lv_at hl 0 rfl) ?_
    refine va_get (D := g.1) (ci := 5) (v := .int (nI mn)) (C := RX4) (T := TX4) (N := 10) hx hb hts hiX4 hown hK.1 hP 0 rfl rfl 2 (by decide) (hts (.fieldLink RX4 68 "StampMaker" "made" "I") (by decide +kernel)) (fun _ h9 => h9) rfl dX4_refund_8 ?_
    refine lv_i2l hx hb dX4_refund_11 rfl ?_
    refine lv_rel (x' := (lN mn)) (nI_L (by omega)) ?_
    refine W.lcmp hx hb dX4_refund_12 ?_
    refine lv_if_ge (tgt := 27) hx hb dX4_refund_13 (by decide) (fun c_66 => ?_) (fun c_66 => ?_)
    · refine lv_iconst (v := (nI 0)) hx hb dX4_refund_27 (by decide) ?_
      exact endRi hx hb hr hlocks dX4_refund_28 (rfl)
    · exact absurd (by simp only [lc_lt, lc_ge] at c_65 c_66; omega) hx0

set_option maxHeartbeats 4000000 in
set_option maxRecDepth 100000 in
/-- given back, or not -/
theorem c_X4_refund_used (l : Launch) (g : gE) (s0 ks lt ty lg dg kn mn tn : Nat) (cc sp : Int32) (fa da ch : Nat) (ff : Nat → Int32) (j : Nat) (hj : j < mn) (hmn : mn < 16384) (hu : ff j ≠ 0) : Met l yX4_refund wsX4_refund ({ frames := 2, cells := 0, slots := 0, locals := 43 }) (va_Pc [.ref s0, .long (lN j)] (ro g [(s0, .inr (5, [.ref ks, .int (nI kn), .int (nI mn), .ref lt, .ref ty, .int (nI tn), .int cc, .int sp, .ref lg, .ref dg])), (lg, .inr (4, [.ref fa, .ref da, .ref ch])), (fa, .inl (g.2.1 1, 16384, .inl ff))])) (vp_Si (fun r : Int32 => r = nI 0)) 0 0 nA := by
  refine ofRo (cc := cX4_refund) (maxL := 3) (ret := (some .int)) (by decide) rfl (Nat.le_of_ble_eq_true rfl) (fun p e s m below meth c hx hb hr hml hts hown hlocks hnm hP hK hZ hS ls hl => ?_)
  have hown : s.vm.findClass RX4 = some m.cls := hown
  have hl : lv_has ls 3 [(0, .ref s0), (1, .long (lN j))] := hl
  have tn0 : (nI 0).toInt = 0 := by decide
  have tn1 : (nI 1).toInt = 1 := by decide
  have tl0 : (lN 0).toInt = 0 := by decide
  have hiX4 : ∀ w ∈ wsX40, w ∈ wsX4_refund := by decide +kernel
  have tm := tl_n (n := mn) (by omega)
  have tj := tl_n (n := j) (by omega)
  refine lv_lload_n hx hb dX4_refund_0 rfl (lv_at hl 1 rfl) ?_
  refine lv_lconst (v := lN 0) hx hb dX4_refund_1 (by decide) ?_
  refine W.lcmp hx hb dX4_refund_2 ?_
  refine lv_if_lt (tgt := 27) hx hb dX4_refund_3 (by decide) (fun c9 => absurd c9 (by simp only [lc_lt]; omega)) (fun _ => ?_)
  refine lv_lload_n hx hb dX4_refund_6 rfl (lv_at hl 1 rfl) ?_
  refine lv_aload_n hx hb dX4_refund_7 rfl (lv_at hl 0 rfl) ?_
  refine va_get (D := g.1) (ci := 5) (v := .int (nI mn)) (C := RX4) (T := TX4) (N := 10) hx hb hts hiX4 hown hK.1 hP 0 rfl rfl 2 (by decide) (hts (.fieldLink RX4 68 "StampMaker" "made" "I") (by decide +kernel)) (fun _ h9 => h9) rfl dX4_refund_8 ?_
  refine lv_i2l hx hb dX4_refund_11 rfl ?_
  refine lv_rel (x' := (lN mn)) (nI_L (by omega)) ?_
  refine W.lcmp hx hb dX4_refund_12 ?_
  refine lv_if_ge (tgt := 27) hx hb dX4_refund_13 (by decide) (fun c9 => absurd c9 (by simp only [lc_ge]; omega)) (fun _ => ?_)
  refine lv_aload_n hx hb dX4_refund_16 rfl (lv_at hl 0 rfl) ?_
  refine va_get (D := g.1) (ci := 5) (v := .ref lg) (C := RX4) (T := TX4) (N := 10) hx hb hts hiX4 hown hK.1 hP 0 rfl rfl 8 (by decide) (hts (.fieldLink RX4 29 "StampMaker" "ledger" "LStampMaker$Ledger;") (by decide +kernel)) (fun _ h9 => h9) rfl dX4_refund_17 ?_
  refine lv_lload_n hx hb dX4_refund_20 rfl (lv_at hl 1 rfl) ?_
  refine cVi (rest := []) ⟨hx, hb, hml, hown, hts⟩ [.long (lN j)] (c_X3_fateOf_in l g (lg := lg) (fa := fa) (da := da) (ch := ch) (ff := ff) (j := j) (by omega)) (cwV 1 hts gX4_refund_X3_fateOf rfl rfl rfl (by decide +kernel) ⟨Nat.le_of_ble_eq_true rfl, Nat.le_of_ble_eq_true rfl⟩) hK hZ hS (subP hP [1, 2] rfl) (va_recv hK.1 hP (ci := 4) (q0 := 1) rfl rfl) rfl hl.1 rfl (Nat.le_of_ble_eq_true rfl) dX4_refund_21 ⟨Nat.zero_le _, Nat.zero_le _⟩ (fun r_67 hr_67 => ?_)
  obtain rfl : r_67 = (ff j) := hr_67
  refine lv_if_eq (tgt := 29) hx hb dX4_refund_24 (by decide) (fun c9 => absurd c9 (hu)) (fun _ => ?_)
  refine lv_iconst (v := (nI 0)) hx hb dX4_refund_27 (by decide) ?_
  exact endRi hx hb hr hlocks dX4_refund_28 (rfl)

set_option maxHeartbeats 4000000 in
set_option maxRecDepth 100000 in
/-- given back, or not -/
theorem c_X4_refund_yes (l : Launch) (g : gE) (hsz : Nat) (s0 ks lt ty lg dg kn mn tn : Nat) (cc sp : Int32) (fa da ch : Nat) (ff : Nat → Int32) (j : Nat) (hj : j < mn) (hmn : mn < 16384) (hu : ff j = 0) : Met l yX4_refund wsX4_refund ({ frames := 2, cells := 0, slots := 0, locals := 43 }) (va_Pc [.ref s0, .long (lN j)] (wr g [(s0, .inr (5, [.ref ks, .int (nI kn), .int (nI mn), .ref lt, .ref ty, .int (nI tn), .int cc, .int sp, .ref lg, .ref dg])), (lg, .inr (4, [.ref fa, .ref da, .ref ch])), (fa, .inl (g.2.1 1, 16384, .inl ff))] hsz)) (va_Qi (fun (r : Int32) (u : Unit) => r = nI 1) (wB g (va_A [(s0, .inr (5, [.ref ks, .int (nI kn), .int (nI mn), .ref lt, .ref ty, .int (nI tn), .int cc, .int sp, .ref lg, .ref dg])), (lg, .inr (4, [.ref fa, .ref da, .ref ch])), (fa, .inl (g.2.1 1, 16384, .inl ff))] hsz) (fun u : Unit => [(s0, .inr (5, [.ref ks, .int (nI kn), .int (nI mn), .ref lt, .ref ty, .int (nI tn), .int cc, .int sp, .ref lg, .ref dg])), (lg, .inr (4, [.ref fa, .ref da, .ref ch])), (fa, .inl (g.2.1 1, 16384, .inl (upd ff j (nI 2))))])) (va_A [(s0, .inr (5, [.ref ks, .int (nI kn), .int (nI mn), .ref lt, .ref ty, .int (nI tn), .int cc, .int sp, .ref lg, .ref dg])), (lg, .inr (4, [.ref fa, .ref da, .ref ch])), (fa, .inl (g.2.1 1, 16384, .inl ff))] hsz)) 0 0 (va_A [(s0, .inr (5, [.ref ks, .int (nI kn), .int (nI mn), .ref lt, .ref ty, .int (nI tn), .int cc, .int sp, .ref lg, .ref dg])), (lg, .inr (4, [.ref fa, .ref da, .ref ch])), (fa, .inl (g.2.1 1, 16384, .inl ff))] hsz) := by
  refine ofWi (cc := cX4_refund) (maxL := 3) (ret := (some .int)) (by decide) rfl (Nat.le_of_ble_eq_true rfl) (fun p e s m below meth c hx hb hr hml hts hown hlocks hnm A H hH hA hP hD hK hZ hS ls hl => ?_)
  have hown : s.vm.findClass RX4 = some m.cls := hown
  have hl : lv_has ls 3 [(0, .ref s0), (1, .long (lN j))] := hl
  have tn0 : (nI 0).toInt = 0 := by decide
  have tn1 : (nI 1).toInt = 1 := by decide
  have tl0 : (lN 0).toInt = 0 := by decide
  have hiX4 : ∀ w ∈ wsX40, w ∈ wsX4_refund := by decide +kernel
  have tm := tl_n (n := mn) (by omega)
  have tj := tl_n (n := j) (by omega)
  refine lv_lload_n hx hb dX4_refund_0 rfl (lv_at hl 1 rfl) ?_
  refine lv_lconst (v := lN 0) hx hb dX4_refund_1 (by decide) ?_
  refine W.lcmp hx hb dX4_refund_2 ?_
  refine lv_if_lt (tgt := 27) hx hb dX4_refund_3 (by decide) (fun c9 => absurd c9 (by simp only [lc_lt]; omega)) (fun _ => ?_)
  refine lv_lload_n hx hb dX4_refund_6 rfl (lv_at hl 1 rfl) ?_
  refine lv_aload_n hx hb dX4_refund_7 rfl (lv_at hl 0 rfl) ?_
  refine va_get (D := g.1) (ci := 5) (v := .int (nI mn)) (C := RX4) (T := TX4) (N := 10) hx hb hts hiX4 hown hK.1 hP 0 rfl rfl 2 (by decide) (hts (.fieldLink RX4 68 "StampMaker" "made" "I") (by decide +kernel)) (fun _ h9 => h9) rfl dX4_refund_8 ?_
  refine lv_i2l hx hb dX4_refund_11 rfl ?_
  refine lv_rel (x' := (lN mn)) (nI_L (by omega)) ?_
  refine W.lcmp hx hb dX4_refund_12 ?_
  refine lv_if_ge (tgt := 27) hx hb dX4_refund_13 (by decide) (fun c9 => absurd c9 (by simp only [lc_ge]; omega)) (fun _ => ?_)
  refine lv_aload_n hx hb dX4_refund_16 rfl (lv_at hl 0 rfl) ?_
  refine va_get (D := g.1) (ci := 5) (v := .ref lg) (C := RX4) (T := TX4) (N := 10) hx hb hts hiX4 hown hK.1 hP 0 rfl rfl 8 (by decide) (hts (.fieldLink RX4 29 "StampMaker" "ledger" "LStampMaker$Ledger;") (by decide +kernel)) (fun _ h9 => h9) rfl dX4_refund_17 ?_
  refine lv_lload_n hx hb dX4_refund_20 rfl (lv_at hl 1 rfl) ?_
  refine cVi (rest := []) ⟨hx, hb, hml, hown, hts⟩ [.long (lN j)] (c_X3_fateOf_in l g (lg := lg) (fa := fa) (da := da) (ch := ch) (ff := ff) (j := j) (by omega)) (cwV 1 hts gX4_refund_X3_fateOf rfl rfl rfl (by decide +kernel) ⟨Nat.le_of_ble_eq_true rfl, Nat.le_of_ble_eq_true rfl⟩) hK hZ hS (subP hP [1, 2] rfl) (va_recv hK.1 hP (ci := 4) (q0 := 1) rfl rfl) rfl hl.1 rfl (Nat.le_of_ble_eq_true rfl) dX4_refund_21 ⟨Nat.zero_le _, Nat.zero_le _⟩ (fun r_68 hr_68 => ?_)
  obtain rfl : r_68 = (ff j) := hr_68
  refine lv_if_eq (tgt := 29) hx hb dX4_refund_24 (by decide) (fun _ => ?_) (fun c9 => absurd (hu) c9)
  refine lv_aload_n hx hb dX4_refund_29 rfl (lv_at hl 0 rfl) ?_
  refine va_get (D := g.1) (ci := 5) (v := .ref lg) (C := RX4) (T := TX4) (N := 10) hx hb hts hiX4 hown hK.1 hP 0 rfl rfl 8 (by decide) (hts (.fieldLink RX4 29 "StampMaker" "ledger" "LStampMaker$Ledger;") (by decide +kernel)) (fun _ h9 => h9) rfl dX4_refund_30 ?_
  refine lv_lload_n hx hb dX4_refund_33 rfl (lv_at hl 1 rfl) ?_
  refine lv_l2i hx hb dX4_refund_34 rfl ?_
  refine lv_rei (x' := (nI j)) (lN_i j) ?_
  refine wVv (rest := []) ⟨hx, hb, hml, hown, hts⟩ [.int (nI j)] [1, 2] (c_X3_giveBack l g H.size (lg := lg) (fa := fa) (da := da) (ch := ch) (ff := ff) (j := j) (by omega)) (cwV 1 hts gX4_refund_X3_giveBack rfl rfl rfl (by decide +kernel) ⟨Nat.le_of_ble_eq_true rfl, Nat.le_of_ble_eq_true rfl⟩) hK hZ hS hP hD hA rfl (by decide) (fun _ => Nat.le_of_ble_eq_true rfl) (fun _ => rfl) (va_recv hK.1 hP (ci := 4) (q0 := 1) rfl rfl) rfl hl.1 rfl (Nat.le_of_ble_eq_true rfl) dX4_refund_35 ⟨Nat.le_of_ble_eq_true rfl, Nat.le_of_ble_eq_true rfl⟩ (fun u H locs hr_69 hP hD hS => ?_)
  have hP : va_P g.1 vwCl [(s0, .inr (5, [.ref ks, .int (nI kn), .int (nI mn), .ref lt, .ref ty, .int (nI tn), .int cc, .int sp, .ref lg, .ref dg])), (lg, .inr (4, [.ref fa, .ref da, .ref ch])), (fa, .inl (g.2.1 1, 16384, .inl (upd ff j (nI 2))))] H := hP
  have hD : va_D A [(s0, .inr (5, [.ref ks, .int (nI kn), .int (nI mn), .ref lt, .ref ty, .int (nI tn), .int cc, .int sp, .ref lg, .ref dg])), (lg, .inr (4, [.ref fa, .ref da, .ref ch])), (fa, .inl (g.2.1 1, 16384, .inl (upd ff j (nI 2))))] := hD
  refine lv_iconst (v := (nI 1)) hx hb dX4_refund_38 (by decide) ?_
  exact endWi () hx hb hr hlocks hS dX4_refund_39 hP hD (rfl)

set_option maxHeartbeats 4000000 in
set_option maxRecDepth 100000 in
/-- no such key -/
theorem c_X4_octet_out (l : Launch) (g : gE) (s0 ks lt ty lg dg kn mn tn : Nat) (cc sp : Int32) (fk : Nat → Option Nat) (x xb : Int32) (hx0 : ¬ (0 ≤ x.toInt ∧ x.toInt < kn)) (hkn : kn ≤ 15) : Met l yX4_octet wsX4_octet ({ frames := 1, cells := 0, slots := 0, locals := 21 }) (va_Pc [.ref s0, .int x, .int xb] (ro g [(s0, .inr (5, [.ref ks, .int (nI kn), .int (nI mn), .ref lt, .ref ty, .int (nI tn), .int cc, .int sp, .ref lg, .ref dg])), (ks, .inl (g.2.1 4, 15, .inr (.inr (.inr (.inr fk)))))])) (va_Sv (fun r : Unit => True)) 0 0 nA := by
  refine ofRo (cc := cX4_octet) (maxL := 4) (ret := none) (by decide) rfl (Nat.le_of_ble_eq_true rfl) (fun p e s m below meth c hx hb hr hml hts hown hlocks hnm hP hK hZ hS ls hl => ?_)
  have hown : s.vm.findClass RX4 = some m.cls := hown
  have hl : lv_has ls 4 [(0, .ref s0), (1, .int x), (2, .int xb)] := hl
  refine lv_aload_n hx hb dX4_octet_0 rfl (lv_at hl 0 rfl) ?_
  refine lv_iload_n hx hb dX4_octet_1 rfl (lv_at hl 1 rfl) ?_
  refine cVq (rest := []) ⟨hx, hb, hml, hown, hts⟩ [.int x] (c_X4_kn_out l g (s0 := s0) (ks := ks) (lt := lt) (ty := ty) (lg := lg) (dg := dg) (kn := kn) (mn := mn) (tn := tn) (cc := cc) (sp := sp) (fk := fk) (x := x) hx0 hkn) (cwV 1 hts gX4_octet_X4_keyNumbered rfl rfl rfl (by decide +kernel) ⟨Nat.le_of_ble_eq_true rfl, Nat.le_of_ble_eq_true rfl⟩) hK hZ hS (subP hP [0, 1] rfl) (va_recv hK.1 hP (ci := 5) (q0 := 0) rfl rfl) rfl hl.1 rfl (Nat.le_of_ble_eq_true rfl) dX4_octet_2 ⟨Nat.zero_le _, Nat.zero_le _⟩ (fun r_70 hr_70 => ?_)
  obtain rfl : r_70 = none := hr_70
  refine lv_reN (rfl) ?_
  refine lv_astore_nN (lv' := [(3, .null), (0, .ref s0), (1, .int x), (2, .int xb)]) hx hb dX4_octet_5 rfl hl (by decide) rfl (fun ls hl => ?_)
  refine lv_aload_nN hx hb dX4_octet_6 rfl (lv_at hl 0 rfl) ?_
  refine lv_ifnullN (tgt := 15) hx hb dX4_octet_7 (by decide) ?_
  exact endRv hx hb hr hlocks dX4_octet_15 (trivial)

set_option maxHeartbeats 4000000 in
set_option maxRecDepth 100000 in
/-- a byte more -/
theorem c_X4_octet_yes (l : Launch) (g : gE) (hsz : Nat) (s0 ks lt ty lg dg kn mn tn : Nat) (cc sp : Int32) (fk : Nat → Option Nat) (i k kb : Nat) (fr un xb : Int32) (f : Nat → Int32) (nz : Nat) (hi : i < kn) (hkn : kn ≤ 15) (hk : fk i = some k) (hz : nz < 32) : Met l yX4_octet wsX4_octet ({ frames := 1, cells := 0, slots := 0, locals := 21 }) (va_Pc [.ref s0, .int (nI i), .int xb] (wr g [(s0, .inr (5, [.ref ks, .int (nI kn), .int (nI mn), .ref lt, .ref ty, .int (nI tn), .int cc, .int sp, .ref lg, .ref dg])), (ks, .inl (g.2.1 4, 15, .inr (.inr (.inr (.inr fk))))), (k, .inr (3, [.int fr, .int un, .ref kb, .int (nI nz), .int 0])), (kb, .inl (g.2.1 1, 32, .inl f))] hsz)) (va_Qv (fun (u : Unit) => True) (wB g (va_A [(s0, .inr (5, [.ref ks, .int (nI kn), .int (nI mn), .ref lt, .ref ty, .int (nI tn), .int cc, .int sp, .ref lg, .ref dg])), (ks, .inl (g.2.1 4, 15, .inr (.inr (.inr (.inr fk))))), (k, .inr (3, [.int fr, .int un, .ref kb, .int (nI nz), .int 0])), (kb, .inl (g.2.1 1, 32, .inl f))] hsz) (fun u : Unit => [(s0, .inr (5, [.ref ks, .int (nI kn), .int (nI mn), .ref lt, .ref ty, .int (nI tn), .int cc, .int sp, .ref lg, .ref dg])), (ks, .inl (g.2.1 4, 15, .inr (.inr (.inr (.inr fk))))), (k, .inr (3, [.int fr, .int un, .ref kb, .int (nI (nz + 1)), .int 0])), (kb, .inl (g.2.1 1, 32, .inl (upd f nz (vp_nar .byte xb))))])) (va_A [(s0, .inr (5, [.ref ks, .int (nI kn), .int (nI mn), .ref lt, .ref ty, .int (nI tn), .int cc, .int sp, .ref lg, .ref dg])), (ks, .inl (g.2.1 4, 15, .inr (.inr (.inr (.inr fk))))), (k, .inr (3, [.int fr, .int un, .ref kb, .int (nI nz), .int 0])), (kb, .inl (g.2.1 1, 32, .inl f))] hsz)) 0 0 (va_A [(s0, .inr (5, [.ref ks, .int (nI kn), .int (nI mn), .ref lt, .ref ty, .int (nI tn), .int cc, .int sp, .ref lg, .ref dg])), (ks, .inl (g.2.1 4, 15, .inr (.inr (.inr (.inr fk))))), (k, .inr (3, [.int fr, .int un, .ref kb, .int (nI nz), .int 0])), (kb, .inl (g.2.1 1, 32, .inl f))] hsz) := by
  refine ofWv (cc := cX4_octet) (maxL := 4) (ret := none) (by decide) rfl (Nat.le_of_ble_eq_true rfl) (fun p e s m below meth c hx hb hr hml hts hown hlocks hnm A H hH hA hP hD hK hZ hS ls hl => ?_)
  have hown : s.vm.findClass RX4 = some m.cls := hown
  have hl : lv_has ls 4 [(0, .ref s0), (1, .int (nI i)), (2, .int xb)] := hl
  refine lv_aload_n hx hb dX4_octet_0 rfl (lv_at hl 0 rfl) ?_
  refine lv_iload_n hx hb dX4_octet_1 rfl (lv_at hl 1 rfl) ?_
  refine cVq (rest := []) ⟨hx, hb, hml, hown, hts⟩ [.int (nI i)] (c_X4_kn_in l g (s0 := s0) (ks := ks) (lt := lt) (ty := ty) (lg := lg) (dg := dg) (kn := kn) (mn := mn) (tn := tn) (cc := cc) (sp := sp) (fk := fk) (i := i) hi hkn) (cwV 1 hts gX4_octet_X4_keyNumbered rfl rfl rfl (by decide +kernel) ⟨Nat.le_of_ble_eq_true rfl, Nat.le_of_ble_eq_true rfl⟩) hK hZ hS (subP hP [0, 1] rfl) (va_recv hK.1 hP (ci := 5) (q0 := 0) rfl rfl) rfl hl.1 rfl (Nat.le_of_ble_eq_true rfl) dX4_octet_2 ⟨Nat.zero_le _, Nat.zero_le _⟩ (fun r_71 hr_71 => ?_)
  obtain rfl : r_71 = (fk i) := hr_71
  refine lv_reR (a := k) (hk) ?_
  refine lv_astore_n (lv' := [(3, .ref k), (0, .ref s0), (1, .int (nI i)), (2, .int xb)]) hx hb dX4_octet_5 rfl hl (by decide) rfl (fun ls hl => ?_)
  refine lv_aload_n hx hb dX4_octet_6 rfl (lv_at hl 0 rfl) ?_
  refine lv_ifnull hx hb dX4_octet_7 ?_
  refine lv_aload_n hx hb dX4_octet_10 rfl (lv_at hl 0 rfl) ?_
  refine lv_iload_n hx hb dX4_octet_11 rfl (lv_at hl 3 rfl) ?_
  refine wVv (rest := []) ⟨hx, hb, hml, hown, hts⟩ [.int xb] [2, 3] (c_X2_take_yes l g H.size (k := k) (kb := kb) (fr := fr) (un := un) (xb := xb) (f := f) (nz := nz) hz) (cwV 1 hts gX4_octet_X2_take rfl rfl rfl (by decide +kernel) ⟨Nat.le_of_ble_eq_true rfl, Nat.le_of_ble_eq_true rfl⟩) hK hZ hS hP hD hA rfl (by decide) (fun _ => Nat.le_of_ble_eq_true rfl) (fun _ => rfl) (va_recv hK.1 hP (ci := 3) (q0 := 2) rfl rfl) rfl hl.1 rfl (Nat.le_of_ble_eq_true rfl) dX4_octet_12 ⟨Nat.le_of_ble_eq_true rfl, Nat.le_of_ble_eq_true rfl⟩ (fun u H locs hr_72 hP hD hS => ?_)
  have hP : va_P g.1 vwCl [(s0, .inr (5, [.ref ks, .int (nI kn), .int (nI mn), .ref lt, .ref ty, .int (nI tn), .int cc, .int sp, .ref lg, .ref dg])), (ks, .inl (g.2.1 4, 15, .inr (.inr (.inr (.inr fk))))), (k, .inr (3, [.int fr, .int un, .ref kb, .int (nI (nz + 1)), .int 0])), (kb, .inl (g.2.1 1, 32, .inl (upd f nz (vp_nar .byte xb))))] H := hP
  have hD : va_D A [(s0, .inr (5, [.ref ks, .int (nI kn), .int (nI mn), .ref lt, .ref ty, .int (nI tn), .int cc, .int sp, .ref lg, .ref dg])), (ks, .inl (g.2.1 4, 15, .inr (.inr (.inr (.inr fk))))), (k, .inr (3, [.int fr, .int un, .ref kb, .int (nI (nz + 1)), .int 0])), (kb, .inl (g.2.1 1, 32, .inl (upd f nz (vp_nar .byte xb))))] := hD
  exact endWv () hx hb hr hlocks hS dX4_octet_15 hP hD (trivial)

set_option maxHeartbeats 4000000 in
set_option maxRecDepth 100000 in
/-- nothing comes of it -/
theorem c_X4_octet_no (l : Launch) (g : gE) (s0 ks lt ty lg dg kn mn tn : Nat) (cc sp : Int32) (fk : Nat → Option Nat) (i k kb : Nat) (fr un cl xb : Int32) (nz : Nat) (hi : i < kn) (hkn : kn ≤ 15) (hk : fk i = some k) (hz : nz ≤ 32) (hno : ¬ (cl = 0 ∧ nz < 32)) : Met l yX4_octet wsX4_octet ({ frames := 1, cells := 0, slots := 0, locals := 21 }) (va_Pc [.ref s0, .int (nI i), .int xb] (ro g [(s0, .inr (5, [.ref ks, .int (nI kn), .int (nI mn), .ref lt, .ref ty, .int (nI tn), .int cc, .int sp, .ref lg, .ref dg])), (ks, .inl (g.2.1 4, 15, .inr (.inr (.inr (.inr fk))))), (k, .inr (3, [.int fr, .int un, .ref kb, .int (nI nz), .int cl]))])) (va_Sv (fun r : Unit => True)) 0 0 nA := by
  refine ofRo (cc := cX4_octet) (maxL := 4) (ret := none) (by decide) rfl (Nat.le_of_ble_eq_true rfl) (fun p e s m below meth c hx hb hr hml hts hown hlocks hnm hP hK hZ hS ls hl => ?_)
  have hown : s.vm.findClass RX4 = some m.cls := hown
  have hl : lv_has ls 4 [(0, .ref s0), (1, .int (nI i)), (2, .int xb)] := hl
  refine lv_aload_n hx hb dX4_octet_0 rfl (lv_at hl 0 rfl) ?_
  refine lv_iload_n hx hb dX4_octet_1 rfl (lv_at hl 1 rfl) ?_
  refine cVq (rest := []) ⟨hx, hb, hml, hown, hts⟩ [.int (nI i)] (c_X4_kn_in l g (s0 := s0) (ks := ks) (lt := lt) (ty := ty) (lg := lg) (dg := dg) (kn := kn) (mn := mn) (tn := tn) (cc := cc) (sp := sp) (fk := fk) (i := i) hi hkn) (cwV 1 hts gX4_octet_X4_keyNumbered rfl rfl rfl (by decide +kernel) ⟨Nat.le_of_ble_eq_true rfl, Nat.le_of_ble_eq_true rfl⟩) hK hZ hS (subP hP [0, 1] rfl) (va_recv hK.1 hP (ci := 5) (q0 := 0) rfl rfl) rfl hl.1 rfl (Nat.le_of_ble_eq_true rfl) dX4_octet_2 ⟨Nat.zero_le _, Nat.zero_le _⟩ (fun r_73 hr_73 => ?_)
  obtain rfl : r_73 = (fk i) := hr_73
  refine lv_reR (a := k) (hk) ?_
  refine lv_astore_n (lv' := [(3, .ref k), (0, .ref s0), (1, .int (nI i)), (2, .int xb)]) hx hb dX4_octet_5 rfl hl (by decide) rfl (fun ls hl => ?_)
  refine lv_aload_n hx hb dX4_octet_6 rfl (lv_at hl 0 rfl) ?_
  refine lv_ifnull hx hb dX4_octet_7 ?_
  refine lv_aload_n hx hb dX4_octet_10 rfl (lv_at hl 0 rfl) ?_
  refine lv_iload_n hx hb dX4_octet_11 rfl (lv_at hl 3 rfl) ?_
  refine cVv (rest := []) ⟨hx, hb, hml, hown, hts⟩ [.int xb] (c_X2_take_no l g (k := k) (kb := kb) (fr := fr) (un := un) (cl := cl) (xb := xb) (nz := nz) hz hno) (cwV 1 hts gX4_octet_X2_take rfl rfl rfl (by decide +kernel) ⟨Nat.le_of_ble_eq_true rfl, Nat.le_of_ble_eq_true rfl⟩) hK hZ hS (subP hP [2] rfl) (va_recv hK.1 hP (ci := 3) (q0 := 2) rfl rfl) rfl hl.1 rfl (Nat.le_of_ble_eq_true rfl) dX4_octet_12 ⟨Nat.zero_le _, Nat.zero_le _⟩ (fun hr_74 => ?_)
  exact endRv hx hb hr hlocks dX4_octet_15 (trivial)

set_option maxHeartbeats 4000000 in
set_option maxRecDepth 100000 in
/-- out of range -/
theorem c_X4_key_dom (l : Launch) (g : gE) (s0 ks lt ty lg dg kn mn tn : Nat) (cc sp : Int32) (x y : Int64) (hd : ¬ (0 ≤ x.toInt ∧ x.toInt ≤ y.toInt ∧ y.toInt ≤ 65535)) : Met l yX4_key wsX4_key ({ frames := 1, cells := 0, slots := 0, locals := 21 }) (va_Pc [.ref s0, .long x, .long y] (ro g [(s0, .inr (5, [.ref ks, .int (nI kn), .int (nI mn), .ref lt, .ref ty, .int (nI tn), .int cc, .int sp, .ref lg, .ref dg]))])) (vp_Si (fun r : Int32 => r = -22)) 0 0 nA := by
  refine ofRo (cc := cX4_key) (maxL := 5) (ret := (some .int)) (by decide) rfl (Nat.le_of_ble_eq_true rfl) (fun p e s m below meth c hx hb hr hml hts hown hlocks hnm hP hK hZ hS ls hl => ?_)
  have hown : s.vm.findClass RX4 = some m.cls := hown
  have hl : lv_has ls 5 [(0, .ref s0), (1, .long x), (3, .long y)] := hl
  have tn1 : (nI 1).toInt = 1 := by decide
  have tn15 : (nI 15).toInt = 15 := by decide
  have hiX2 : ∀ w ∈ wsX20, w ∈ wsX4_key := by decide +kernel
  have hiX4 : ∀ w ∈ wsX40, w ∈ wsX4_key := by decide +kernel
  refine lv_lload_n hx hb dX4_key_0 rfl (lv_at hl 1 rfl) ?_
  refine cSi (rest := []) ⟨hx, hb, hml, hown, hts⟩ [.long x] (c_X4_isDay l g (x := x)) (va_cwS 1 hts gX4_key_X4_isDay rfl rfl rfl (by decide +kernel) ⟨Nat.le_of_ble_eq_true rfl, Nat.le_of_ble_eq_true rfl⟩) hK hZ hS (subP hP [] rfl) rfl hl.1 rfl (Nat.le_of_ble_eq_true rfl) dX4_key_1 ⟨Nat.zero_le _, Nat.zero_le _⟩ (fun r_75 hr_75 => ?_)
  obtain rfl : r_75 = (inI x.toInt 0 65535) := hr_75
  refine lv_if_eq (tgt := 20) hx hb dX4_key_4 (by decide) (fun c_76 => ?_) (fun c_76 => ?_)
  · refine lv_bipush (v := (-22)) hx hb dX4_key_20 (by decide) ?_
    exact endRi hx hb hr hlocks dX4_key_22 (rfl)
  · refine lv_lload_n hx hb dX4_key_7 rfl (lv_at hl 2 rfl) ?_
    refine cSi (rest := []) ⟨hx, hb, hml, hown, hts⟩ [.long y] (c_X4_isDay l g (x := y)) (va_cwS 1 hts gX4_key_X4_isDay rfl rfl rfl (by decide +kernel) ⟨Nat.le_of_ble_eq_true rfl, Nat.le_of_ble_eq_true rfl⟩) hK hZ hS (subP hP [] rfl) rfl hl.1 rfl (Nat.le_of_ble_eq_true rfl) dX4_key_8 ⟨Nat.zero_le _, Nat.zero_le _⟩ (fun r_77 hr_77 => ?_)
    obtain rfl : r_77 = (inI y.toInt 0 65535) := hr_77
    refine lv_if_eq (tgt := 20) hx hb dX4_key_11 (by decide) (fun c_78 => ?_) (fun c_78 => ?_)
    · refine lv_bipush (v := (-22)) hx hb dX4_key_20 (by decide) ?_
      exact endRi hx hb hr hlocks dX4_key_22 (rfl)
    · refine lv_lload_n hx hb dX4_key_14 rfl (lv_at hl 1 rfl) ?_
      refine lv_lload_n hx hb dX4_key_15 rfl (lv_at hl 2 rfl) ?_
      refine W.lcmp hx hb dX4_key_16 ?_
      refine lv_if_le (tgt := 23) hx hb dX4_key_17 (by decide) (fun c_79 => ?_) (fun c_79 => ?_)
      · exact absurd (by rw [inI_eq0] at c_76 c_78; simp only [lc_le] at c_79; omega) hd
      · refine lv_bipush (v := (-22)) hx hb dX4_key_20 (by decide) ?_
        exact endRi hx hb hr hlocks dX4_key_22 (rfl)

set_option maxHeartbeats 4000000 in
set_option maxRecDepth 100000 in
/-- no room -/
theorem c_X4_key_room (l : Launch) (g : gE) (s0 ks lt ty lg dg kn mn tn : Nat) (cc sp : Int32) (x y : Int64) (hd : 0 ≤ x.toInt ∧ x.toInt ≤ y.toInt ∧ y.toInt ≤ 65535) (hkn : 15 ≤ kn) (hk2 : kn < 100) : Met l yX4_key wsX4_key ({ frames := 1, cells := 0, slots := 0, locals := 21 }) (va_Pc [.ref s0, .long x, .long y] (ro g [(s0, .inr (5, [.ref ks, .int (nI kn), .int (nI mn), .ref lt, .ref ty, .int (nI tn), .int cc, .int sp, .ref lg, .ref dg]))])) (vp_Si (fun r : Int32 => r = -24)) 0 0 nA := by
  refine ofRo (cc := cX4_key) (maxL := 5) (ret := (some .int)) (by decide) rfl (Nat.le_of_ble_eq_true rfl) (fun p e s m below meth c hx hb hr hml hts hown hlocks hnm hP hK hZ hS ls hl => ?_)
  have hown : s.vm.findClass RX4 = some m.cls := hown
  have hl : lv_has ls 5 [(0, .ref s0), (1, .long x), (3, .long y)] := hl
  have tn1 : (nI 1).toInt = 1 := by decide
  have tn15 : (nI 15).toInt = 15 := by decide
  have hiX2 : ∀ w ∈ wsX20, w ∈ wsX4_key := by decide +kernel
  have hiX4 : ∀ w ∈ wsX40, w ∈ wsX4_key := by decide +kernel
  refine lv_lload_n hx hb dX4_key_0 rfl (lv_at hl 1 rfl) ?_
  refine cSi (rest := []) ⟨hx, hb, hml, hown, hts⟩ [.long x] (c_X4_isDay l g (x := x)) (va_cwS 1 hts gX4_key_X4_isDay rfl rfl rfl (by decide +kernel) ⟨Nat.le_of_ble_eq_true rfl, Nat.le_of_ble_eq_true rfl⟩) hK hZ hS (subP hP [] rfl) rfl hl.1 rfl (Nat.le_of_ble_eq_true rfl) dX4_key_1 ⟨Nat.zero_le _, Nat.zero_le _⟩ (fun r_80 hr_80 => ?_)
  obtain rfl : r_80 = (inI x.toInt 0 65535) := hr_80
  refine lv_if_eq (tgt := 20) hx hb dX4_key_4 (by decide) (fun c9 => absurd c9 (by rw [inI_1 (by omega) (by omega)]; decide)) (fun _ => ?_)
  refine lv_lload_n hx hb dX4_key_7 rfl (lv_at hl 2 rfl) ?_
  refine cSi (rest := []) ⟨hx, hb, hml, hown, hts⟩ [.long y] (c_X4_isDay l g (x := y)) (va_cwS 1 hts gX4_key_X4_isDay rfl rfl rfl (by decide +kernel) ⟨Nat.le_of_ble_eq_true rfl, Nat.le_of_ble_eq_true rfl⟩) hK hZ hS (subP hP [] rfl) rfl hl.1 rfl (Nat.le_of_ble_eq_true rfl) dX4_key_8 ⟨Nat.zero_le _, Nat.zero_le _⟩ (fun r_81 hr_81 => ?_)
  obtain rfl : r_81 = (inI y.toInt 0 65535) := hr_81
  refine lv_if_eq (tgt := 20) hx hb dX4_key_11 (by decide) (fun c9 => absurd c9 (by rw [inI_1 (by omega) (by omega)]; decide)) (fun _ => ?_)
  refine lv_lload_n hx hb dX4_key_14 rfl (lv_at hl 1 rfl) ?_
  refine lv_lload_n hx hb dX4_key_15 rfl (lv_at hl 2 rfl) ?_
  refine W.lcmp hx hb dX4_key_16 ?_
  refine lv_if_le (tgt := 23) hx hb dX4_key_17 (by decide) (fun _ => ?_) (fun c9 => absurd (by simp only [lc_le]; omega) c9)
  refine lv_aload_n hx hb dX4_key_23 rfl (lv_at hl 0 rfl) ?_
  refine va_get (D := g.1) (ci := 5) (v := .int (nI kn)) (C := RX4) (T := TX4) (N := 10) hx hb hts hiX4 hown hK.1 hP 0 rfl rfl 1 (by decide) (hts (.fieldLink RX4 44 "StampMaker" "keyCount" "I") (by decide +kernel)) (fun _ h9 => h9) rfl dX4_key_24 ?_
  refine lv_bipush (v := (nI 15)) hx hb dX4_key_27 (by decide) ?_
  refine lv_icmp_lt (tgt := 35) hx hb dX4_key_29 (by decide) (fun c9 => absurd c9 (nI_nlt hkn (by omega))) (fun _ => ?_)
  refine lv_bipush (v := (-24)) hx hb dX4_key_32 (by decide) ?_
  exact endRi hx hb hr hlocks dX4_key_34 (rfl)

set_option maxHeartbeats 4000000 in
set_option maxRecDepth 100000 in
/-- a key more -/
theorem c_X4_key_yes (l : Launch) (g : gE) (hsz : Nat) (s0 ks lt ty lg dg kn mn tn : Nat) (cc sp : Int32) (fk : Nat → Option Nat) (x y : Int64) (hd : 0 ≤ x.toInt ∧ x.toInt ≤ y.toInt ∧ y.toInt ≤ 65535) (hkn : kn < 15) : Met l yX4_key wsX4_key ({ frames := 2, cells := 2, slots := 37, locals := 34 }) (va_Pc [.ref s0, .long x, .long y] (wr g [(s0, .inr (5, [.ref ks, .int (nI kn), .int (nI mn), .ref lt, .ref ty, .int (nI tn), .int cc, .int sp, .ref lg, .ref dg])), (ks, .inl (g.2.1 4, 15, .inr (.inr (.inr (.inr fk)))))] hsz)) (va_Qi (fun (r : Int32) (u : (Nat × Nat)) => r = nI kn) (wB g (va_A [(s0, .inr (5, [.ref ks, .int (nI kn), .int (nI mn), .ref lt, .ref ty, .int (nI tn), .int cc, .int sp, .ref lg, .ref dg])), (ks, .inl (g.2.1 4, 15, .inr (.inr (.inr (.inr fk)))))] hsz) (fun u : (Nat × Nat) => [(s0, .inr (5, [.ref ks, .int (nI (kn + 1)), .int (nI mn), .ref lt, .ref ty, .int (nI tn), .int cc, .int sp, .ref lg, .ref dg])), (ks, .inl (g.2.1 4, 15, .inr (.inr (.inr (.inr (va_up fk kn (some u.1))))))), (u.1, .inr (3, [.int x.toInt32, .int y.toInt32, .ref u.2, .int 0, .int 0])), (u.2, .inl (g.2.1 1, 32, .inl (fun _ => 0)))])) (va_A [(s0, .inr (5, [.ref ks, .int (nI kn), .int (nI mn), .ref lt, .ref ty, .int (nI tn), .int cc, .int sp, .ref lg, .ref dg])), (ks, .inl (g.2.1 4, 15, .inr (.inr (.inr (.inr fk)))))] hsz)) 2 37 (va_A [(s0, .inr (5, [.ref ks, .int (nI kn), .int (nI mn), .ref lt, .ref ty, .int (nI tn), .int cc, .int sp, .ref lg, .ref dg])), (ks, .inl (g.2.1 4, 15, .inr (.inr (.inr (.inr fk)))))] hsz) := by
  refine ofWi (cc := cX4_key) (maxL := 5) (ret := (some .int)) (by decide) rfl (Nat.le_of_ble_eq_true rfl) (fun p e s m below meth c hx hb hr hml hts hown hlocks hnm A H hH hA hP hD hK hZ hS ls hl => ?_)
  have hown : s.vm.findClass RX4 = some m.cls := hown
  have hl : lv_has ls 5 [(0, .ref s0), (1, .long x), (3, .long y)] := hl
  have tn1 : (nI 1).toInt = 1 := by decide
  have tn15 : (nI 15).toInt = 15 := by decide
  have hiX2 : ∀ w ∈ wsX20, w ∈ wsX4_key := by decide +kernel
  have hiX4 : ∀ w ∈ wsX40, w ∈ wsX4_key := by decide +kernel
  refine lv_lload_n hx hb dX4_key_0 rfl (lv_at hl 1 rfl) ?_
  refine cSi (rest := []) ⟨hx, hb, hml, hown, hts⟩ [.long x] (c_X4_isDay l g (x := x)) (va_cwS 1 hts gX4_key_X4_isDay rfl rfl rfl (by decide +kernel) ⟨Nat.le_of_ble_eq_true rfl, Nat.le_of_ble_eq_true rfl⟩) hK hZ hS (subP hP [] rfl) rfl hl.1 rfl (Nat.le_of_ble_eq_true rfl) dX4_key_1 ⟨Nat.zero_le _, Nat.zero_le _⟩ (fun r_82 hr_82 => ?_)
  obtain rfl : r_82 = (inI x.toInt 0 65535) := hr_82
  refine lv_if_eq (tgt := 20) hx hb dX4_key_4 (by decide) (fun c9 => absurd c9 (by rw [inI_1 (by omega) (by omega)]; decide)) (fun _ => ?_)
  refine lv_lload_n hx hb dX4_key_7 rfl (lv_at hl 2 rfl) ?_
  refine cSi (rest := []) ⟨hx, hb, hml, hown, hts⟩ [.long y] (c_X4_isDay l g (x := y)) (va_cwS 1 hts gX4_key_X4_isDay rfl rfl rfl (by decide +kernel) ⟨Nat.le_of_ble_eq_true rfl, Nat.le_of_ble_eq_true rfl⟩) hK hZ hS (subP hP [] rfl) rfl hl.1 rfl (Nat.le_of_ble_eq_true rfl) dX4_key_8 ⟨Nat.zero_le _, Nat.zero_le _⟩ (fun r_83 hr_83 => ?_)
  obtain rfl : r_83 = (inI y.toInt 0 65535) := hr_83
  refine lv_if_eq (tgt := 20) hx hb dX4_key_11 (by decide) (fun c9 => absurd c9 (by rw [inI_1 (by omega) (by omega)]; decide)) (fun _ => ?_)
  refine lv_lload_n hx hb dX4_key_14 rfl (lv_at hl 1 rfl) ?_
  refine lv_lload_n hx hb dX4_key_15 rfl (lv_at hl 2 rfl) ?_
  refine W.lcmp hx hb dX4_key_16 ?_
  refine lv_if_le (tgt := 23) hx hb dX4_key_17 (by decide) (fun _ => ?_) (fun c9 => absurd (by simp only [lc_le]; omega) c9)
  refine lv_aload_n hx hb dX4_key_23 rfl (lv_at hl 0 rfl) ?_
  refine va_get (D := g.1) (ci := 5) (v := .int (nI kn)) (C := RX4) (T := TX4) (N := 10) hx hb hts hiX4 hown hK.1 hP 0 rfl rfl 1 (by decide) (hts (.fieldLink RX4 44 "StampMaker" "keyCount" "I") (by decide +kernel)) (fun _ h9 => h9) rfl dX4_key_24 ?_
  refine lv_bipush (v := (nI 15)) hx hb dX4_key_27 (by decide) ?_
  refine lv_icmp_lt (tgt := 35) hx hb dX4_key_29 (by decide) (fun _ => ?_) (fun c9 => absurd (nI_lt hkn (by omega)) c9)
  refine lv_aload_n hx hb dX4_key_35 rfl (lv_at hl 0 rfl) ?_
  refine va_get (D := g.1) (ci := 5) (v := .ref ks) (C := RX4) (T := TX4) (N := 10) hx hb hts hiX4 hown hK.1 hP 0 rfl rfl 0 (by decide) (hts (.fieldLink RX4 11 "StampMaker" "keys" "[LStampMaker$Key;") (by decide +kernel)) (fun _ h9 => h9) rfl dX4_key_36 ?_
  refine lv_aload_n hx hb dX4_key_39 rfl (lv_at hl 0 rfl) ?_
  refine va_get (D := g.1) (ci := 5) (v := .int (nI kn)) (C := RX4) (T := TX4) (N := 10) hx hb hts hiX4 hown hK.1 hP 0 rfl rfl 1 (by decide) (hts (.fieldLink RX4 44 "StampMaker" "keyCount" "I") (by decide +kernel)) (fun _ h9 => h9) rfl dX4_key_40 ?_
  refine va_new (ci := 3) (fs := [.int 0, .int 0, .null, .int 0, .int 0]) (C := RX2) (T := TX2) (N := 5) hx hb hts hiX2 tyX2 tyX2_ok hown (hts (.classLink RX4 9 RX2) (by decide +kernel)) (hts (.instantiable RX2 5) (by decide +kernel)) (hts (.initialized RX2) (by decide +kernel)) hK.1 hP hD hS hA rfl (fun j hj => by rcases (show j = 0 ∨ j = 1 ∨ j = 2 ∨ j = 3 ∨ j = 4 by omega) with rfl | rfl | rfl | rfl | rfl <;> rfl) (Nat.le_of_ble_eq_true rfl) (Nat.le_of_ble_eq_true rfl) dX4_key_43 (fun q H hP hD hS => ?_)
  have hP : va_P g.1 vwCl [(s0, .inr (5, [.ref ks, .int (nI kn), .int (nI mn), .ref lt, .ref ty, .int (nI tn), .int cc, .int sp, .ref lg, .ref dg])), (ks, .inl (g.2.1 4, 15, .inr (.inr (.inr (.inr fk))))), (q, .inr (3, [.int 0, .int 0, .null, .int 0, .int 0]))] H := hP
  have hD : va_D A [(s0, .inr (5, [.ref ks, .int (nI kn), .int (nI mn), .ref lt, .ref ty, .int (nI tn), .int cc, .int sp, .ref lg, .ref dg])), (ks, .inl (g.2.1 4, 15, .inr (.inr (.inr (.inr fk))))), (q, .inr (3, [.int 0, .int 0, .null, .int 0, .int 0]))] := hD
  refine lv_dup hx hb dX4_key_46 rfl ?_
  refine lv_lload_n hx hb dX4_key_47 rfl (lv_at hl 1 rfl) ?_
  refine lv_l2i hx hb dX4_key_48 rfl ?_
  refine lv_lload_n hx hb dX4_key_49 rfl (lv_at hl 2 rfl) ?_
  refine lv_l2i hx hb dX4_key_50 rfl ?_
  refine wIv (rest := [.ref q, .int (nI kn), .ref ks]) ⟨hx, hb, hml, hown, hts⟩ [.int x.toInt32, .int y.toInt32] [2] (c_X2_init l g H.size (k := q) (fr := x.toInt32) (un := y.toInt32)) (cwI 2 hts gX4_key_X2_init rfl rfl rfl (hts (.initialized RX2) (by decide +kernel)) (hts (.methodLink RX4 47 yX2_init) (by decide +kernel)) (hts (.instanceMethod yX2_init) (by decide +kernel)) rfl (by decide +kernel) ⟨Nat.le_of_ble_eq_true rfl, Nat.le_of_ble_eq_true rfl⟩) hK hZ hS hP hD hA rfl (by decide) (fun _ => Nat.le_of_ble_eq_true rfl) (fun _ => rfl) rfl hl.1 rfl (Nat.le_of_ble_eq_true rfl) dX4_key_51 ⟨Nat.le_of_ble_eq_true rfl, Nat.le_of_ble_eq_true rfl⟩ (fun u H locs hr_84 hP hD hS => ?_)
  obtain ⟨qb, rfl⟩ : ∃ z, z = u := ⟨_, rfl⟩
  have hP : va_P g.1 vwCl [(s0, .inr (5, [.ref ks, .int (nI kn), .int (nI mn), .ref lt, .ref ty, .int (nI tn), .int cc, .int sp, .ref lg, .ref dg])), (ks, .inl (g.2.1 4, 15, .inr (.inr (.inr (.inr fk))))), (q, .inr (3, [.int x.toInt32, .int y.toInt32, .ref qb, .int 0, .int 0])), (qb, .inl (g.2.1 1, 32, .inl (fun _ => 0)))] H := hP
  have hD : va_D A [(s0, .inr (5, [.ref ks, .int (nI kn), .int (nI mn), .ref lt, .ref ty, .int (nI tn), .int cc, .int sp, .ref lg, .ref dg])), (ks, .inl (g.2.1 4, 15, .inr (.inr (.inr (.inr fk))))), (q, .inr (3, [.int x.toInt32, .int y.toInt32, .ref qb, .int 0, .int 0])), (qb, .inl (g.2.1 1, 32, .inl (fun _ => 0)))] := hD
  refine va_astq (r := (RX2, TX2, 5)) hx hb hK.1 hP hD hS 1 4 2 3 rfl rfl rfl rfl (vp_in_nI (by omega) (by omega)) dX4_key_54 (fun H locs hP hD hS => ?_)
  rw [nI_clamp (by omega)] at hP hD
  have hP : va_P g.1 vwCl [(s0, .inr (5, [.ref ks, .int (nI kn), .int (nI mn), .ref lt, .ref ty, .int (nI tn), .int cc, .int sp, .ref lg, .ref dg])), (ks, .inl (g.2.1 4, 15, .inr (.inr (.inr (.inr (va_up fk kn (some q))))))), (q, .inr (3, [.int x.toInt32, .int y.toInt32, .ref qb, .int 0, .int 0])), (qb, .inl (g.2.1 1, 32, .inl (fun _ => 0)))] H := hP
  have hD : va_D A [(s0, .inr (5, [.ref ks, .int (nI kn), .int (nI mn), .ref lt, .ref ty, .int (nI tn), .int cc, .int sp, .ref lg, .ref dg])), (ks, .inl (g.2.1 4, 15, .inr (.inr (.inr (.inr (va_up fk kn (some q))))))), (q, .inr (3, [.int x.toInt32, .int y.toInt32, .ref qb, .int 0, .int 0])), (qb, .inl (g.2.1 1, 32, .inl (fun _ => 0)))] := hD
  refine lv_aload_n hx hb dX4_key_55 rfl (lv_at hl 0 rfl) ?_
  refine lv_dup hx hb dX4_key_56 rfl ?_
  refine va_get (D := g.1) (ci := 5) (v := .int (nI kn)) (C := RX4) (T := TX4) (N := 10) hx hb hts hiX4 hown hK.1 hP 0 rfl rfl 1 (by decide) (hts (.fieldLink RX4 44 "StampMaker" "keyCount" "I") (by decide +kernel)) (fun _ h9 => h9) rfl dX4_key_57 ?_
  refine lv_dup_x1 hx hb dX4_key_60 rfl rfl ?_
  refine lv_iconst (v := (nI 1)) hx hb dX4_key_61 (by decide) ?_
  refine lv_iadd hx hb dX4_key_62 ?_
  refine lv_rei (x' := (nI (kn + 1))) (nI_1 _) ?_
  refine va_put (D := g.1) (ci := 5) (v := .int (nI (kn + 1))) (ty := .int) (C := RX4) (T := TX4) (N := 10) hx hb hts hiX4 tyX4 tyX4_ok nmX4 hown hK.1 hP hD hS 0 rfl rfl 1 (by decide) (hts (.fieldLink RX4 44 "StampMaker" "keyCount" "I") (by decide +kernel)) (fun _ h9 => h9) rfl (by decide +kernel) rfl rfl (Nat.le_of_ble_eq_true rfl) dX4_key_63 (fun H locs hP hD hS => ?_)
  have hP : va_P g.1 vwCl [(s0, .inr (5, [.ref ks, .int (nI (kn + 1)), .int (nI mn), .ref lt, .ref ty, .int (nI tn), .int cc, .int sp, .ref lg, .ref dg])), (ks, .inl (g.2.1 4, 15, .inr (.inr (.inr (.inr (va_up fk kn (some q))))))), (q, .inr (3, [.int x.toInt32, .int y.toInt32, .ref qb, .int 0, .int 0])), (qb, .inl (g.2.1 1, 32, .inl (fun _ => 0)))] H := hP
  have hD : va_D A [(s0, .inr (5, [.ref ks, .int (nI (kn + 1)), .int (nI mn), .ref lt, .ref ty, .int (nI tn), .int cc, .int sp, .ref lg, .ref dg])), (ks, .inl (g.2.1 4, 15, .inr (.inr (.inr (.inr (va_up fk kn (some q))))))), (q, .inr (3, [.int x.toInt32, .int y.toInt32, .ref qb, .int 0, .int 0])), (qb, .inl (g.2.1 1, 32, .inl (fun _ => 0)))] := hD
  refine W.widen (k := 2) (n := 37) (Nat.le_of_ble_eq_true rfl) (Nat.le_of_ble_eq_true rfl) ?_
  exact endWi (q, qb) hx hb hr hlocks hS dX4_key_66 hP hD (rfl)
end
section
/-! the fields, the letters, what was typed, in numbers -/
def pkN (k kd v d m : Nat) : Nat := (((k * 16 + kd) * 131072 + v) * 65536 + d) * 16384 + m
theorem jnE_n {k kd v d m : Nat} (hk : k < 16) (hkd : kd < 16) (hv : v < 131072) (hd : d < 65536) (hm : m < 16384) : jnE (nI k) (nI kd) (nI v) (nI d) (nI m) = lN (pkN k kd v d m) := by
  unfold jnE pkN
  rw [nI_L (n := k) (by omega), nI_L (n := kd) (by omega), nI_L (n := v) (by omega), nI_L (n := d) (by omega), nI_L (n := m) (by omega), l_shl (n := k) (by decide) (by omega), l_shl (n := kd) (by decide) (by omega), l_shl (n := v) (by decide) (by omega), l_shl (n := d) (by decide) (by omega)]
  rw [show k * 2 ^ 51 = 2 ^ 51 * k by omega, lorS k (show kd * 2 ^ 47 < 2 ^ 51 by omega), show 2 ^ 51 * k + kd * 2 ^ 47 = 2 ^ 47 * (k * 16 + kd) by omega, lorS _ (show v * 2 ^ 30 < 2 ^ 47 by omega), show 2 ^ 47 * (k * 16 + kd) + v * 2 ^ 30 = 2 ^ 30 * ((k * 16 + kd) * 131072 + v) by omega, lorS _ (show d * 2 ^ 14 < 2 ^ 30 by omega), show 2 ^ 30 * ((k * 16 + kd) * 131072 + v) + d * 2 ^ 14 = 2 ^ 14 * (((k * 16 + kd) * 131072 + v) * 65536 + d) by omega, lorS _ (show m < 2 ^ 14 by omega)]
  congr 1
  omega
theorem andM (q k : Nat) {mk : Nat} (hk : k ≤ 32) (hm : mk = 2 ^ k - 1) (hm2 : mk < 4294967296) : (nI q &&& nI mk) = nI (q % 2 ^ k) := by
  rw [pk_and (nI q) (m := nI mk) k (by rw [tb_n hm2, hm])]
  show nI ((BitVec.ofNat 32 q).toNat % 2 ^ k) = _
  rw [BitVec.toNat_ofNat, Nat.mod_mod_of_dvd _ (Nat.pow_dvd_pow 2 hk)]
theorem cutE_n {N a k mk : Nat} (hN : N < 36028797018963968) (ha : a < 64) (hk : k ≤ 32) (hm : mk = 2 ^ k - 1) (hm2 : mk < 4294967296) : cutE (lN N) (nI a) (nI mk) = nI (N / 2 ^ a % 2 ^ k) := by
  unfold cutE
  rw [l_ushr (by omega) ha, l_i, andM _ k hk hm hm2]
theorem tbm (q : Nat) : (nI q).toBitVec.toNat % 32 = q % 32 := by
  show (BitVec.ofNat 32 q).toNat % 32 = _
  rw [BitVec.toNat_ofNat, Nat.mod_mod_of_dvd _ (by decide)]
/-- letter j of a stamp -/
def ltE (N S j : Nat) : Int32 := if j < 11 then aL (N / 2 ^ (50 - 5 * j) % 32) else aL (S / 2 ^ (75 - 5 * j) % 32)
theorem ltE_1 {N S j : Nat} (h : j < 11) : aL ((nI (N / 2 ^ (50 - 5 * j))).toBitVec.toNat % 32) = ltE N S j := by
  rw [tbm]; unfold ltE; rw [if_pos h]
theorem ltE_2 {N S j : Nat} (h : 11 ≤ j) : aL ((nI (S / 2 ^ (75 - 5 * j))).toBitVec.toNat % 32) = ltE N S j := by
  rw [tbm]; unfold ltE; rw [if_neg (by omega)]
/-- the first 25 bits of the digest -/
def sN (f : Nat → Int32) (sz N : Nat) : Nat := (dG f sz N 0).toBitVec.toNat / 128
theorem sN_lt (f : Nat → Int32) (sz N : Nat) : sN f sz N < 33554432 := by
  have h := (dG f sz N 0).toBitVec.isLt
  unfold sN
  omega
theorem fB_n (x : Int32) : fB x = nI (x.toBitVec.toNat / 128) := by
  apply nI_inj
  have h := x.toBitVec.isLt
  rw [tb_n (by omega)]
  exact pk_ushr x (nI 7) 7 (by decide)
/-- what was typed, in bits: n letters from place a on -/
def tbF (ft : Nat → Int32) (a : Nat) : Nat → Nat
  | 0 => 0
  | n + 1 => tbF ft a n * 32 + wo (ft (a + n))
theorem tbF_lt {ft : Nat → Int32} {a : Nat} : ∀ n, (∀ j, a ≤ j → j < a + n → wo (ft j) < 32) → tbF ft a n < 32 ^ n
  | 0, _ => by simp [tbF]
  | n + 1, h => by
    have h1 := tbF_lt n (fun j h1 h2 => h j h1 (by omega))
    have h2 := h (a + n) (by omega) (by omega)
    rw [tbF, Nat.pow_succ]
    omega
theorem tbF_11 {ft : Nat → Int32} {a n : Nat} (hn : n ≤ 11) (h : ∀ j, a ≤ j → j < a + n → wo (ft j) < 32) : tbF ft a n < 36028797018963968 :=
  Nat.lt_of_lt_of_le (tbF_lt n h) (Nat.le_trans (Nat.pow_le_pow_right (by decide) hn) (by decide))
theorem rW_y {x : Int32} (h : wo x < 32) : rW x = nI (wo x) := if_pos h
theorem rW_n {x : Int32} (h : ¬ wo x < 32) : rW x = -1 := if_neg h
theorem tb_step {b v : Nat} (hb : b < 576460752303423488) (hv : v < 32) : ((lN (b * 2 ^ 5)) ||| lN v) = lN (b * 32 + v) := by
  rw [show b * 2 ^ 5 = 2 ^ 5 * b by omega, lorS b (show v < 2 ^ 5 by omega), show 2 ^ 5 * b + v = b * 32 + v by omega]
/-- what a check ends with -/
def acR (x : Int32) : Int32 := if x = nI 2 then -8 else if x = nI 1 then -7 else nI 1
def raR (f : Nat → Int32) (sz N S1 d : Nat) (fr un : Int32) : Int32 := if S1 ≠ sN f sz N then nI 4 else if N / 2 ^ 14 % 65536 ≤ d ∧ d ≤ N / 2 ^ 14 % 65536 + 100 ∧ fr.toInt ≤ d ∧ (d : Int) ≤ un.toInt then nI 0 else nI 5
def ckG (ra x : Int32) : Int32 := if ra = nI 0 then acR x else (-1) - ra
def acS (x sp : Int32) (j : Nat) : Int32 := if x = nI 2 then sp else nI j
def acF (x : Int32) (ff : Nat → Int32) (j : Nat) (v : Int32) : Nat → Int32 := if x = nI 2 ∨ x = nI 1 then ff else upd ff j v
def gtS (ra a b : Int32) : Int32 := if ra = nI 0 then a else b
def gtF (ra : Int32) (a b : Nat → Int32) : Nat → Int32 := if ra = nI 0 then a else b
end
section
theorem s_uu : ∀ n, n < 32 → (((nI n).toUInt32 &&& Int32.toUInt32 31).toBitVec % 32).toNat = n := by decide
set_option maxHeartbeats 4000000 in
set_option maxRecDepth 100000 in
/-- the sixteen letters -/
theorem c_X4_writeLetters (l : Launch) (g : gE) (hsz : Nat) (s0 ks lt ty lg dg kn mn tn : Nat) (cc sp : Int32) (fl : Nat → Int32) (N S : Nat) (hN : N < 36028797018963968) (hS2 : S < 33554432) : Met l yX4_writeLetters wsX4_writeLetters ({ frames := 5, cells := 0, slots := 0, locals := 105 }) (va_Pc [.ref s0, .long (lN N), .int (nI S)] (wr g [(s0, .inr (5, [.ref ks, .int (nI kn), .int (nI mn), .ref lt, .ref ty, .int (nI tn), .int cc, .int sp, .ref lg, .ref dg])), (lt, .inl (g.2.1 0, 16, .inl fl))] hsz)) (va_Qv (fun (u : (Nat → Int32)) => ∀ j, j < 16 → u j = ltE N S j) (wB g (va_A [(s0, .inr (5, [.ref ks, .int (nI kn), .int (nI mn), .ref lt, .ref ty, .int (nI tn), .int cc, .int sp, .ref lg, .ref dg])), (lt, .inl (g.2.1 0, 16, .inl fl))] hsz) (fun u : (Nat → Int32) => [(s0, .inr (5, [.ref ks, .int (nI kn), .int (nI mn), .ref lt, .ref ty, .int (nI tn), .int cc, .int sp, .ref lg, .ref dg])), (lt, .inl (g.2.1 0, 16, .inl u))])) (va_A [(s0, .inr (5, [.ref ks, .int (nI kn), .int (nI mn), .ref lt, .ref ty, .int (nI tn), .int cc, .int sp, .ref lg, .ref dg])), (lt, .inl (g.2.1 0, 16, .inl fl))] hsz)) 0 0 (va_A [(s0, .inr (5, [.ref ks, .int (nI kn), .int (nI mn), .ref lt, .ref ty, .int (nI tn), .int cc, .int sp, .ref lg, .ref dg])), (lt, .inl (g.2.1 0, 16, .inl fl))] hsz) := by
  refine ofWv (cc := cX4_writeLetters) (maxL := 5) (ret := none) (by decide) rfl (Nat.le_of_ble_eq_true rfl) (fun p e s m below meth c hx hb hr hml hts hown hlocks hnm A H hH hA hP hD hK hZ hS ls hl => ?_)
  have hown : s.vm.findClass RX4 = some m.cls := hown
  have hl : lv_has ls 5 [(0, .ref s0), (1, .long (lN N)), (3, .int (nI S))] := hl
  have hiX4 : ∀ w ∈ wsX40, w ∈ wsX4_writeLetters := by decide +kernel
  refine lv_iconst (v := (nI 0)) hx hb dX4_writeLetters_0 (by decide) ?_
  refine lv_istore (lv' := [(4, .int (nI 0)), (0, .ref s0), (1, .long (lN N)), (3, .int (nI S))]) hx hb dX4_writeLetters_1 hl (by decide) rfl (fun ls hl => ?_)
  have L1 : ∀ (fu : Nat) (i : Nat) (F : Nat → Int32), (12 ≤ i + fu) → (i ≤ 11) → (∀ j, j < i → F j = ltE N S j) → ∀ (H : Heap) (locs : List Loc), va_P g.1 vwCl [(s0, .inr (5, [.ref ks, .int (nI kn), .int (nI mn), .ref lt, .ref ty, .int (nI tn), .int cc, .int sp, .ref lg, .ref dg])), (lt, .inl (g.2.1 0, 16, .inl F))] H → va_D A [(s0, .inr (5, [.ref ks, .int (nI kn), .int (nI mn), .ref lt, .ref ty, .int (nI tn), .int cc, .int sp, .ref lg, .ref dg])), (lt, .inl (g.2.1 0, 16, .inl F))] → va_S A s.heap H locs → ∀ ls : Array Slot, lv_has ls 5 [(0, .ref s0), (1, .long (lN N)), (3, .int (nI S)), (4, .int (nI i))] → W p l e (headSpec wsX4_writeLetters ({ frames := 5, cells := 0, slots := 0, locals := 105 } : Room)).room s m ([.ref s0, .long (lN N), .int (nI S)] : List Value).toArray below meth c H locs 0 0 (MQ below (va_Qv (fun (u : (Nat → Int32)) => ∀ j, j < 16 → u j = ltE N S j) (wB g A (fun u : (Nat → Int32) => [(s0, .inr (5, [.ref ks, .int (nI kn), .int (nI mn), .ref lt, .ref ty, .int (nI tn), .int cc, .int sp, .ref lg, .ref dg])), (lt, .inl (g.2.1 0, 16, .inl u))])) A) ([.ref s0, .long (lN N), .int (nI S)] : List Value).toArray s 0 0 A) (F0 m 3 ls []) := by
    intro fu
    induction fu with
    | zero => intro i F h1 h2 h3 H locs hP hD hS ls hl; exact absurd h1 (by omega)
    | succ fu ihL1 =>
      intro i F h1 h2 h3 H locs hP hD hS ls hl
      refine lv_iload hx hb dX4_writeLetters_3 (lv_at hl 3 rfl) ?_
      refine lv_bipush (v := (nI 11)) hx hb dX4_writeLetters_5 (by decide) ?_
      rcases Nat.lt_or_ge i 11 with q | q
      · refine lv_icmp_ge (tgt := 36) hx hb dX4_writeLetters_7 (by decide) (fun c9 => absurd c9 (nI_ge (by omega) (by omega))) (fun _ => ?_)
        refine lv_aload_n hx hb dX4_writeLetters_10 rfl (lv_at hl 0 rfl) ?_
        refine va_get (D := g.1) (ci := 5) (v := .ref lt) (C := RX4) (T := TX4) (N := 10) hx hb hts hiX4 hown hK.1 hP 0 rfl rfl 3 (by decide) (hts (.fieldLink RX4 15 "StampMaker" "latestLetters" "[I") (by decide +kernel)) (fun _ h9 => h9) rfl dX4_writeLetters_11 ?_
        refine lv_iload hx hb dX4_writeLetters_14 (lv_at hl 3 rfl) ?_
        refine lv_lload_n hx hb dX4_writeLetters_16 rfl (lv_at hl 1 rfl) ?_
        refine lv_bipush (v := (nI 50)) hx hb dX4_writeLetters_17 (by decide) ?_
        refine lv_iconst (v := (nI 5)) hx hb dX4_writeLetters_19 (by decide) ?_
        refine lv_iload hx hb dX4_writeLetters_20 (lv_at hl 3 rfl) ?_
        refine lv_imul hx hb dX4_writeLetters_22 ?_
        refine lv_rei (x' := (nI (5 * i))) (pk_mul _ _) ?_
        refine lv_isub hx hb dX4_writeLetters_23 ?_
        refine lv_rei (x' := (nI (50 - 5 * i))) (pk_sub (by omega)) ?_
        refine lv_lushr hx hb dX4_writeLetters_24 rfl ?_
        refine lv_rel (x' := (lN (N / 2 ^ (50 - 5 * i)))) (l_ushr (by omega) (by omega)) ?_
        refine lv_l2i hx hb dX4_writeLetters_25 rfl ?_
        refine lv_rei (x' := (nI (N / 2 ^ (50 - 5 * i)))) (l_i) ?_
        refine cSi (rest := [.int (nI i), .ref lt]) ⟨hx, hb, hml, hown, hts⟩ [.int (nI (N / 2 ^ (50 - 5 * i)))] (c_X4_letterFor l g (x := (nI (N / 2 ^ (50 - 5 * i))))) (va_cwS 1 hts gX4_writeLetters_X4_letterFor rfl rfl rfl (by decide +kernel) ⟨Nat.le_of_ble_eq_true rfl, Nat.le_of_ble_eq_true rfl⟩) hK hZ hS (subP hP [] rfl) rfl hl.1 rfl (Nat.le_of_ble_eq_true rfl) dX4_writeLetters_26 ⟨Nat.zero_le _, Nat.zero_le _⟩ (fun r_85 hr_85 => ?_)
        obtain rfl : r_85 = (aL ((nI (N / 2 ^ (50 - 5 * i))).toBitVec.toNat % 32)) := hr_85
        refine lv_rei (x' := (ltE N S i)) (ltE_1 q) ?_
        refine va_iast hx hb hK.1 hP hD hS 1 0 rfl rfl (vp_in_nI (by omega) (by omega)) dX4_writeLetters_29 (fun H locs hP hD hS => ?_)
        rw [nI_clamp (by omega)] at hP hD
        have hP : va_P g.1 vwCl [(s0, .inr (5, [.ref ks, .int (nI kn), .int (nI mn), .ref lt, .ref ty, .int (nI tn), .int cc, .int sp, .ref lg, .ref dg])), (lt, .inl (g.2.1 0, 16, .inl (upd F i (ltE N S i))))] H := hP
        have hD : va_D A [(s0, .inr (5, [.ref ks, .int (nI kn), .int (nI mn), .ref lt, .ref ty, .int (nI tn), .int cc, .int sp, .ref lg, .ref dg])), (lt, .inl (g.2.1 0, 16, .inl (upd F i (ltE N S i))))] := hD
        refine lv_iinc (v := (nI (i + 1))) (lv' := [(4, .int (nI (i + 1))), (0, .ref s0), (1, .long (lN N)), (3, .int (nI S))]) hx hb dX4_writeLetters_30 hl (k := 3) rfl (nI_1 _) (by decide) rfl (fun ls hl => ?_)
        refine lv_goto (tgt := 3) hx hb dX4_writeLetters_33 (by decide) ?_
        exact ihL1 (i + 1) (upd F i (ltE N S i)) (by omega) (by omega) (fillS h3 rfl) _ _ hP hD hS ls (lv_sub hl [1, 2, 3, 0] rfl)
      · refine lv_icmp_ge (tgt := 36) hx hb dX4_writeLetters_7 (by decide) (fun _ => ?_) (fun c9 => absurd (nI_le q (by omega)) c9)
        obtain rfl : i = 11 := by omega
        refine lv_bipush (v := (nI 11)) hx hb dX4_writeLetters_36 (by decide) ?_
        refine lv_istore (lv' := [(4, .int (nI 11)), (0, .ref s0), (1, .long (lN N)), (3, .int (nI S))]) hx hb dX4_writeLetters_38 hl (by decide) rfl (fun ls hl => ?_)
        have L2 : ∀ (fu : Nat) (i : Nat) (F2 : Nat → Int32), (17 ≤ i + fu) → (i ≤ 16) → (∀ j, j < i → F2 j = ltE N S j) → (11 ≤ i) → ∀ (H : Heap) (locs : List Loc), va_P g.1 vwCl [(s0, .inr (5, [.ref ks, .int (nI kn), .int (nI mn), .ref lt, .ref ty, .int (nI tn), .int cc, .int sp, .ref lg, .ref dg])), (lt, .inl (g.2.1 0, 16, .inl F2))] H → va_D A [(s0, .inr (5, [.ref ks, .int (nI kn), .int (nI mn), .ref lt, .ref ty, .int (nI tn), .int cc, .int sp, .ref lg, .ref dg])), (lt, .inl (g.2.1 0, 16, .inl F2))] → va_S A s.heap H locs → ∀ ls : Array Slot, lv_has ls 5 [(0, .ref s0), (1, .long (lN N)), (3, .int (nI S)), (4, .int (nI i))] → W p l e (headSpec wsX4_writeLetters ({ frames := 5, cells := 0, slots := 0, locals := 105 } : Room)).room s m ([.ref s0, .long (lN N), .int (nI S)] : List Value).toArray below meth c H locs 0 0 (MQ below (va_Qv (fun (u : (Nat → Int32)) => ∀ j, j < 16 → u j = ltE N S j) (wB g A (fun u : (Nat → Int32) => [(s0, .inr (5, [.ref ks, .int (nI kn), .int (nI mn), .ref lt, .ref ty, .int (nI tn), .int cc, .int sp, .ref lg, .ref dg])), (lt, .inl (g.2.1 0, 16, .inl u))])) A) ([.ref s0, .long (lN N), .int (nI S)] : List Value).toArray s 0 0 A) (F0 m 40 ls []) := by
          intro fu
          induction fu with
          | zero => intro i F2 k1 k2 k3 k4 H locs hP hD hS ls hl; exact absurd k1 (by omega)
          | succ fu ihL2 =>
            intro i F2 k1 k2 k3 k4 H locs hP hD hS ls hl
            refine lv_iload hx hb dX4_writeLetters_40 (lv_at hl 3 rfl) ?_
            refine lv_bipush (v := (nI 16)) hx hb dX4_writeLetters_42 (by decide) ?_
            rcases Nat.lt_or_ge i 16 with q2 | q2
            · refine lv_icmp_ge (tgt := 72) hx hb dX4_writeLetters_44 (by decide) (fun c9 => absurd c9 (nI_ge (by omega) (by omega))) (fun _ => ?_)
              refine lv_aload_n hx hb dX4_writeLetters_47 rfl (lv_at hl 0 rfl) ?_
              refine va_get (D := g.1) (ci := 5) (v := .ref lt) (C := RX4) (T := TX4) (N := 10) hx hb hts hiX4 hown hK.1 hP 0 rfl rfl 3 (by decide) (hts (.fieldLink RX4 15 "StampMaker" "latestLetters" "[I") (by decide +kernel)) (fun _ h9 => h9) rfl dX4_writeLetters_48 ?_
              refine lv_iload hx hb dX4_writeLetters_51 (lv_at hl 3 rfl) ?_
              refine lv_iload_n hx hb dX4_writeLetters_53 rfl (lv_at hl 2 rfl) ?_
              refine lv_bipush (v := (nI 75)) hx hb dX4_writeLetters_54 (by decide) ?_
              refine lv_iconst (v := (nI 5)) hx hb dX4_writeLetters_56 (by decide) ?_
              refine lv_iload hx hb dX4_writeLetters_57 (lv_at hl 3 rfl) ?_
              refine lv_imul hx hb dX4_writeLetters_59 ?_
              refine lv_rei (x' := (nI (5 * i))) (pk_mul _ _) ?_
              refine lv_isub hx hb dX4_writeLetters_60 ?_
              refine lv_rei (x' := (nI (75 - 5 * i))) (pk_sub (by omega)) ?_
              refine lv_iushr hx hb dX4_writeLetters_61 rfl ?_
              refine lv_rei (x' := (nI (S / 2 ^ (75 - 5 * i)))) (pk_ushrN (by omega) _ (75 - 5 * i) (s_uu _ (by omega))) ?_
              refine cSi (rest := [.int (nI i), .ref lt]) ⟨hx, hb, hml, hown, hts⟩ [.int (nI (S / 2 ^ (75 - 5 * i)))] (c_X4_letterFor l g (x := (nI (S / 2 ^ (75 - 5 * i))))) (va_cwS 1 hts gX4_writeLetters_X4_letterFor rfl rfl rfl (by decide +kernel) ⟨Nat.le_of_ble_eq_true rfl, Nat.le_of_ble_eq_true rfl⟩) hK hZ hS (subP hP [] rfl) rfl hl.1 rfl (Nat.le_of_ble_eq_true rfl) dX4_writeLetters_62 ⟨Nat.zero_le _, Nat.zero_le _⟩ (fun r_86 hr_86 => ?_)
              obtain rfl : r_86 = (aL ((nI (S / 2 ^ (75 - 5 * i))).toBitVec.toNat % 32)) := hr_86
              refine lv_rei (x' := (ltE N S i)) (ltE_2 k4) ?_
              refine va_iast hx hb hK.1 hP hD hS 1 0 rfl rfl (vp_in_nI (by omega) (by omega)) dX4_writeLetters_65 (fun H locs hP hD hS => ?_)
              rw [nI_clamp (by omega)] at hP hD
              have hP : va_P g.1 vwCl [(s0, .inr (5, [.ref ks, .int (nI kn), .int (nI mn), .ref lt, .ref ty, .int (nI tn), .int cc, .int sp, .ref lg, .ref dg])), (lt, .inl (g.2.1 0, 16, .inl (upd F2 i (ltE N S i))))] H := hP
              have hD : va_D A [(s0, .inr (5, [.ref ks, .int (nI kn), .int (nI mn), .ref lt, .ref ty, .int (nI tn), .int cc, .int sp, .ref lg, .ref dg])), (lt, .inl (g.2.1 0, 16, .inl (upd F2 i (ltE N S i))))] := hD
              refine lv_iinc (v := (nI (i + 1))) (lv' := [(4, .int (nI (i + 1))), (0, .ref s0), (1, .long (lN N)), (3, .int (nI S))]) hx hb dX4_writeLetters_66 hl (k := 3) rfl (nI_1 _) (by decide) rfl (fun ls hl => ?_)
              refine lv_goto (tgt := 40) hx hb dX4_writeLetters_69 (by decide) ?_
              exact ihL2 (i + 1) (upd F2 i (ltE N S i)) (by omega) (by omega) (fillS k3 rfl) (by omega) _ _ hP hD hS ls (lv_sub hl [1, 2, 3, 0] rfl)
            · refine lv_icmp_ge (tgt := 72) hx hb dX4_writeLetters_44 (by decide) (fun _ => ?_) (fun c9 => absurd (nI_le q2 (by omega)) c9)
              exact endWv F2 hx hb hr hlocks hS dX4_writeLetters_72 hP hD (fun j hj => k3 j (by omega))
        exact L2 17 11 F (by omega) (by omega) (h3) (Nat.le_refl _) _ _ hP hD hS ls (lv_sub hl [1, 2, 3, 0] rfl)
  exact L1 12 0 fl (by omega) (by omega) (fun j hj => absurd hj (Nat.not_lt_zero j)) _ _ hP hD hS ls (lv_sub hl [1, 2, 3, 0] rfl)

set_option maxHeartbeats 4000000 in
set_option maxRecDepth 100000 in
/-- the bits of what was typed -/
theorem c_X4_tb_yes (l : Launch) (g : gE) (s0 ks lt ty lg dg kn mn tn : Nat) (cc sp : Int32) (ft : Nat → Int32) (a0 b0 : Nat) (hab : a0 ≤ b0) (hb2 : b0 ≤ 16) (hn : b0 - a0 ≤ 11) (hok : ∀ j, a0 ≤ j → j < b0 → wo (ft j) < 32) : Met l yX4_typedBits wsX4_typedBits ({ frames := 5, cells := 0, slots := 0, locals := 106 }) (va_Pc [.ref s0, .int (nI a0), .int (nI b0)] (ro g [(s0, .inr (5, [.ref ks, .int (nI kn), .int (nI mn), .ref lt, .ref ty, .int (nI tn), .int cc, .int sp, .ref lg, .ref dg])), (ty, .inl (g.2.1 0, 40, .inl ft))])) (vp_Sl (fun r : Int64 => r = lN (tbF ft a0 (b0 - a0)))) 0 0 nA := by
  refine ofRo (cc := cX4_typedBits) (maxL := 7) (ret := (some .long)) (by decide) rfl (Nat.le_of_ble_eq_true rfl) (fun p e s m below meth c hx hb hr hml hts hown hlocks hnm hP hK hZ hS ls hl => ?_)
  have hown : s.vm.findClass RX4 = some m.cls := hown
  have hl : lv_has ls 7 [(0, .ref s0), (1, .int (nI a0)), (2, .int (nI b0))] := hl
  have hiX4 : ∀ w ∈ wsX40, w ∈ wsX4_typedBits := by decide +kernel
  refine lv_lconst (v := lN 0) hx hb dX4_typedBits_0 (by decide) ?_
  refine lv_lstore_n (lv' := [(3, .long (lN 0)), (0, .ref s0), (1, .int (nI a0)), (2, .int (nI b0))]) hx hb dX4_typedBits_1 rfl hl (by decide) rfl (fun ls hl => ?_)
  refine lv_iload_n hx hb dX4_typedBits_2 rfl (lv_at hl 2 rfl) ?_
  refine lv_rei (x' := (nI (a0 + 0))) (rfl) ?_
  refine lv_istore (lv' := [(5, .int (nI (a0 + 0))), (3, .long (lN 0)), (0, .ref s0), (1, .int (nI a0)), (2, .int (nI b0))]) hx hb dX4_typedBits_3 hl (by decide) rfl (fun ls hl => ?_)
  have L1 : ∀ (fu : Nat) (j : Nat), (b0 + 1 ≤ a0 + j + fu) → (a0 + j ≤ b0) → ∀ ls : Array Slot, lv_has ls 7 [(0, .ref s0), (1, .int (nI a0)), (2, .int (nI b0)), (3, .long (lN (tbF ft a0 j))), (5, .int (nI (a0 + j)))] → W p l e (headSpec wsX4_typedBits ({ frames := 5, cells := 0, slots := 0, locals := 106 } : Room)).room s m ([.ref s0, .int (nI a0), .int (nI b0)] : List Value).toArray below meth c s.heap [] 0 0 (MQ below (vp_Sl (fun r : Int64 => r = lN (tbF ft a0 (b0 - a0)))) ([.ref s0, .int (nI a0), .int (nI b0)] : List Value).toArray s 0 0 nA) (F0 m 5 ls []) := by
    intro fu
    induction fu with
    | zero => intro j h1 h2 ls hl; exact absurd h1 (by omega)
    | succ fu ihL1 =>
      intro j h1 h2 ls hl
      refine lv_iload hx hb dX4_typedBits_5 (lv_at hl 4 rfl) ?_
      refine lv_iload_n hx hb dX4_typedBits_7 rfl (lv_at hl 2 rfl) ?_
      rcases Nat.lt_or_ge (a0 + j) b0 with q | q
      · refine lv_icmp_ge (tgt := 46) hx hb dX4_typedBits_8 (by decide) (fun c9 => absurd c9 (nI_ge q (by omega))) (fun _ => ?_)
        refine lv_aload_n hx hb dX4_typedBits_11 rfl (lv_at hl 0 rfl) ?_
        refine va_get (D := g.1) (ci := 5) (v := .ref ty) (C := RX4) (T := TX4) (N := 10) hx hb hts hiX4 hown hK.1 hP 0 rfl rfl 4 (by decide) (hts (.fieldLink RX4 19 "StampMaker" "typed" "[I") (by decide +kernel)) (fun _ h9 => h9) rfl dX4_typedBits_12 ?_
        refine lv_iload hx hb dX4_typedBits_15 (lv_at hl 4 rfl) ?_
        refine va_iald hx hb hK.1 hP 1 0 rfl rfl (vp_in_nI (by omega) (by omega)) dX4_typedBits_17 ?_
        refine lv_rei (x' := ft (a0 + j)) (congrArg ft (nI_clamp (by omega))) ?_
        refine cSi (rest := []) ⟨hx, hb, hml, hown, hts⟩ [.int (ft (a0 + j))] (c_X4_worthOf l g (x := (ft (a0 + j)))) (va_cwS 1 hts gX4_typedBits_X4_worthOf rfl rfl rfl (by decide +kernel) ⟨Nat.le_of_ble_eq_true rfl, Nat.le_of_ble_eq_true rfl⟩) hK hZ hS (subP hP [] rfl) rfl hl.1 rfl (Nat.le_of_ble_eq_true rfl) dX4_typedBits_18 ⟨Nat.zero_le _, Nat.zero_le _⟩ (fun r_87 hr_87 => ?_)
        obtain rfl : r_87 = (rW (ft (a0 + j))) := hr_87
        have hw := hok (a0 + j) (by omega) q
        have hT := tbF_11 (ft := ft) (a := a0) (n := j) (by omega) (fun i h1 h2 => hok i h1 (by omega))
        refine lv_rei (x' := (nI (wo (ft (a0 + j))))) (rW_y hw) ?_
        refine lv_istore (lv' := [(6, .int (nI (wo (ft (a0 + j))))), (0, .ref s0), (1, .int (nI a0)), (2, .int (nI b0)), (3, .long (lN (tbF ft a0 j))), (5, .int (nI (a0 + j)))]) hx hb dX4_typedBits_21 hl (by decide) rfl (fun ls hl => ?_)
        refine lv_iload hx hb dX4_typedBits_23 (lv_at hl 0 rfl) ?_
        refine lv_if_ge (tgt := 32) hx hb dX4_typedBits_25 (by decide) (fun _ => ?_) (fun c9 => absurd (nI_pos' (by omega)) c9)
        refine lv_lload_n hx hb dX4_typedBits_32 rfl (lv_at hl 4 rfl) ?_
        refine lv_iconst (v := (nI 5)) hx hb dX4_typedBits_33 (by decide) ?_
        refine lv_lshl hx hb dX4_typedBits_34 rfl ?_
        refine lv_rel (x' := (lN (tbF ft a0 j * 2 ^ 5))) (l_shl (by decide) (by omega)) ?_
        refine lv_iload hx hb dX4_typedBits_35 (lv_at hl 0 rfl) ?_
        refine lv_i2l hx hb dX4_typedBits_37 rfl ?_
        refine lv_rel (x' := (lN (wo (ft (a0 + j))))) (nI_L (by omega)) ?_
        refine lv_lor hx hb dX4_typedBits_38 ?_
        refine lv_rel (x' := (lN (tbF ft a0 (j + 1)))) (tb_step (by omega) hw) ?_
        refine lv_lstore_n (lv' := [(3, .long (lN (tbF ft a0 (j + 1)))), (6, .int (nI (wo (ft (a0 + j))))), (0, .ref s0), (1, .int (nI a0)), (2, .int (nI b0)), (5, .int (nI (a0 + j)))]) hx hb dX4_typedBits_39 rfl hl (by decide) rfl (fun ls hl => ?_)
        refine lv_iinc (v := (nI (a0 + (j + 1)))) (lv' := [(5, .int (nI (a0 + (j + 1)))), (3, .long (lN (tbF ft a0 (j + 1)))), (6, .int (nI (wo (ft (a0 + j))))), (0, .ref s0), (1, .int (nI a0)), (2, .int (nI b0))]) hx hb dX4_typedBits_40 hl (k := 5) rfl (nI_1 _) (by decide) rfl (fun ls hl => ?_)
        refine lv_goto (tgt := 5) hx hb dX4_typedBits_43 (by decide) ?_
        exact ihL1 (j + 1) (by omega) (by omega) ls (lv_sub hl [3, 4, 5, 1, 0] rfl)
      · refine lv_icmp_ge (tgt := 46) hx hb dX4_typedBits_8 (by decide) (fun _ => ?_) (fun c9 => absurd (nI_le q (by omega)) c9)
        refine lv_lload_n hx hb dX4_typedBits_46 rfl (lv_at hl 3 rfl) ?_
        exact endRl hx hb hr hlocks dX4_typedBits_47 (by rw [show b0 - a0 = j by omega])
  exact L1 (b0 + 1) 0 (by omega) (by omega) ls (lv_sub hl [2, 3, 4, 1, 0] rfl)

set_option maxHeartbeats 4000000 in
set_option maxRecDepth 100000 in
/-- one is no letter -/
theorem c_X4_tb_no (l : Launch) (g : gE) (s0 ks lt ty lg dg kn mn tn : Nat) (cc sp : Int32) (ft : Nat → Int32) (a0 b0 : Nat) (hb2 : b0 ≤ 16) (bad : Nat) (hb3 : a0 ≤ bad) (hb4 : bad < b0) (hb5 : ¬ wo (ft bad) < 32) : Met l yX4_typedBits wsX4_typedBits ({ frames := 5, cells := 0, slots := 0, locals := 106 }) (va_Pc [.ref s0, .int (nI a0), .int (nI b0)] (ro g [(s0, .inr (5, [.ref ks, .int (nI kn), .int (nI mn), .ref lt, .ref ty, .int (nI tn), .int cc, .int sp, .ref lg, .ref dg])), (ty, .inl (g.2.1 0, 40, .inl ft))])) (vp_Sl (fun r : Int64 => r = -1)) 0 0 nA := by
  refine ofRo (cc := cX4_typedBits) (maxL := 7) (ret := (some .long)) (by decide) rfl (Nat.le_of_ble_eq_true rfl) (fun p e s m below meth c hx hb hr hml hts hown hlocks hnm hP hK hZ hS ls hl => ?_)
  have hown : s.vm.findClass RX4 = some m.cls := hown
  have hl : lv_has ls 7 [(0, .ref s0), (1, .int (nI a0)), (2, .int (nI b0))] := hl
  have hiX4 : ∀ w ∈ wsX40, w ∈ wsX4_typedBits := by decide +kernel
  refine lv_lconst (v := lN 0) hx hb dX4_typedBits_0 (by decide) ?_
  refine lv_lstore_n (lv' := [(3, .long (lN 0)), (0, .ref s0), (1, .int (nI a0)), (2, .int (nI b0))]) hx hb dX4_typedBits_1 rfl hl (by decide) rfl (fun ls hl => ?_)
  refine lv_iload_n hx hb dX4_typedBits_2 rfl (lv_at hl 2 rfl) ?_
  refine lv_rei (x' := (nI (a0 + 0))) (rfl) ?_
  refine lv_istore (lv' := [(5, .int (nI (a0 + 0))), (3, .long (lN 0)), (0, .ref s0), (1, .int (nI a0)), (2, .int (nI b0))]) hx hb dX4_typedBits_3 hl (by decide) rfl (fun ls hl => ?_)
  have L1 : ∀ (fu : Nat) (j : Nat) (xb : Int64), (b0 + 1 ≤ a0 + j + fu) → (a0 + j ≤ bad) → ∀ ls : Array Slot, lv_has ls 7 [(0, .ref s0), (1, .int (nI a0)), (2, .int (nI b0)), (3, .long xb), (5, .int (nI (a0 + j)))] → W p l e (headSpec wsX4_typedBits ({ frames := 5, cells := 0, slots := 0, locals := 106 } : Room)).room s m ([.ref s0, .int (nI a0), .int (nI b0)] : List Value).toArray below meth c s.heap [] 0 0 (MQ below (vp_Sl (fun r : Int64 => r = -1)) ([.ref s0, .int (nI a0), .int (nI b0)] : List Value).toArray s 0 0 nA) (F0 m 5 ls []) := by
    intro fu
    induction fu with
    | zero => intro j xb h1 h2 ls hl; exact absurd h1 (by omega)
    | succ fu ihL1 =>
      intro j xb h1 h2 ls hl
      refine lv_iload hx hb dX4_typedBits_5 (lv_at hl 4 rfl) ?_
      refine lv_iload_n hx hb dX4_typedBits_7 rfl (lv_at hl 2 rfl) ?_
      refine lv_icmp_ge (tgt := 46) hx hb dX4_typedBits_8 (by decide) (fun c9 => absurd c9 (nI_ge (by omega) (by omega))) (fun _ => ?_)
      refine lv_aload_n hx hb dX4_typedBits_11 rfl (lv_at hl 0 rfl) ?_
      refine va_get (D := g.1) (ci := 5) (v := .ref ty) (C := RX4) (T := TX4) (N := 10) hx hb hts hiX4 hown hK.1 hP 0 rfl rfl 4 (by decide) (hts (.fieldLink RX4 19 "StampMaker" "typed" "[I") (by decide +kernel)) (fun _ h9 => h9) rfl dX4_typedBits_12 ?_
      refine lv_iload hx hb dX4_typedBits_15 (lv_at hl 4 rfl) ?_
      refine va_iald hx hb hK.1 hP 1 0 rfl rfl (vp_in_nI (by omega) (by omega)) dX4_typedBits_17 ?_
      refine lv_rei (x' := ft (a0 + j)) (congrArg ft (nI_clamp (by omega))) ?_
      refine cSi (rest := []) ⟨hx, hb, hml, hown, hts⟩ [.int (ft (a0 + j))] (c_X4_worthOf l g (x := (ft (a0 + j)))) (va_cwS 1 hts gX4_typedBits_X4_worthOf rfl rfl rfl (by decide +kernel) ⟨Nat.le_of_ble_eq_true rfl, Nat.le_of_ble_eq_true rfl⟩) hK hZ hS (subP hP [] rfl) rfl hl.1 rfl (Nat.le_of_ble_eq_true rfl) dX4_typedBits_18 ⟨Nat.zero_le _, Nat.zero_le _⟩ (fun r_88 hr_88 => ?_)
      obtain rfl : r_88 = (rW (ft (a0 + j))) := hr_88
      by_cases hw : wo (ft (a0 + j)) < 32
      · refine lv_rei (x' := (nI (wo (ft (a0 + j))))) (rW_y hw) ?_
        refine lv_istore (lv' := [(6, .int (nI (wo (ft (a0 + j))))), (0, .ref s0), (1, .int (nI a0)), (2, .int (nI b0)), (3, .long xb), (5, .int (nI (a0 + j)))]) hx hb dX4_typedBits_21 hl (by decide) rfl (fun ls hl => ?_)
        refine lv_iload hx hb dX4_typedBits_23 (lv_at hl 0 rfl) ?_
        refine lv_if_ge (tgt := 32) hx hb dX4_typedBits_25 (by decide) (fun _ => ?_) (fun c9 => absurd (nI_pos' (by omega)) c9)
        refine lv_lload_n hx hb dX4_typedBits_32 rfl (lv_at hl 4 rfl) ?_
        refine lv_iconst (v := (nI 5)) hx hb dX4_typedBits_33 (by decide) ?_
        refine lv_lshl hx hb dX4_typedBits_34 rfl ?_
        refine lv_iload hx hb dX4_typedBits_35 (lv_at hl 0 rfl) ?_
        refine lv_i2l hx hb dX4_typedBits_37 rfl ?_
        refine lv_lor hx hb dX4_typedBits_38 ?_
        refine lv_lstore_n (lv' := [(3, .long ((xb <<< (((nI 5)).toInt64 &&& 63)) ||| (((nI (wo (ft (a0 + j))))).toInt64))), (6, .int (nI (wo (ft (a0 + j))))), (0, .ref s0), (1, .int (nI a0)), (2, .int (nI b0)), (5, .int (nI (a0 + j)))]) hx hb dX4_typedBits_39 rfl hl (by decide) rfl (fun ls hl => ?_)
        refine lv_iinc (v := (nI (a0 + (j + 1)))) (lv' := [(5, .int (nI (a0 + (j + 1)))), (3, .long ((xb <<< (((nI 5)).toInt64 &&& 63)) ||| (((nI (wo (ft (a0 + j))))).toInt64))), (6, .int (nI (wo (ft (a0 + j))))), (0, .ref s0), (1, .int (nI a0)), (2, .int (nI b0))]) hx hb dX4_typedBits_40 hl (k := 5) rfl (nI_1 _) (by decide) rfl (fun ls hl => ?_)
        refine lv_goto (tgt := 5) hx hb dX4_typedBits_43 (by decide) ?_
        have hne : a0 + j ≠ bad := fun z => hb5 (by rw [← z]; exact hw)
        exact ihL1 (j + 1) ((xb <<< (((nI 5)).toInt64 &&& 63)) ||| (((nI (wo (ft (a0 + j))))).toInt64)) (by omega) (by omega) ls (lv_sub hl [3, 4, 5, 1, 0] rfl)
      · refine lv_rei (x' := (-1)) (rW_n hw) ?_
        refine lv_istore (lv' := [(6, .int (-1)), (0, .ref s0), (1, .int (nI a0)), (2, .int (nI b0)), (3, .long xb), (5, .int (nI (a0 + j)))]) hx hb dX4_typedBits_21 hl (by decide) rfl (fun ls hl => ?_)
        refine lv_iload hx hb dX4_typedBits_23 (lv_at hl 0 rfl) ?_
        refine lv_if_ge (tgt := 32) hx hb dX4_typedBits_25 (by decide) (fun c9 => absurd c9 (by decide)) (fun _ => ?_)
        refine lv_ldc2 (v := (-1)) hx hb hown (hts (.constantLong RX4 156 (-1)) (by decide +kernel)) dX4_typedBits_28 ?_
        exact endRl hx hb hr hlocks dX4_typedBits_31 (rfl)
  exact L1 (b0 + 1) 0 (lN 0) (by omega) (by omega) ls (lv_sub hl [2, 3, 4, 1, 0] rfl)

set_option maxHeartbeats 4000000 in
set_option maxRecDepth 100000 in
/-- spends, if nothing became of it -/
theorem c_X4_accepted (l : Launch) (g : gE) (hsz : Nat) (s0 ks lt ty lg dg kn mn tn : Nat) (cc sp : Int32) (fa da ch : Nat) (ff fd fc : Nat → Int32) (j : Nat) (xd : Int32) (hj : j < 16384) : Met l yX4_accepted wsX4_accepted ({ frames := 2, cells := 0, slots := 0, locals := 44 }) (va_Pc [.ref s0, .int (nI j), .int xd] (wr g [(s0, .inr (5, [.ref ks, .int (nI kn), .int (nI mn), .ref lt, .ref ty, .int (nI tn), .int cc, .int sp, .ref lg, .ref dg])), (lg, .inr (4, [.ref fa, .ref da, .ref ch])), (fa, .inl (g.2.1 1, 16384, .inl ff)), (da, .inl (g.2.1 0, 16384, .inl fd)), (ch, .inl (g.2.1 0, 16384, .inl fc))] hsz)) (va_Qi (fun (r : Int32) (u : (Int32 × (Nat → Int32) × (Nat → Int32) × (Nat → Int32))) => r = acR (ff j) ∧ u.1 = acS (ff j) sp j ∧ u.2.1 = acF (ff j) ff j (nI 1) ∧ u.2.2.1 = acF (ff j) fd j xd ∧ u.2.2.2 = acF (ff j) fc j cc) (wB g (va_A [(s0, .inr (5, [.ref ks, .int (nI kn), .int (nI mn), .ref lt, .ref ty, .int (nI tn), .int cc, .int sp, .ref lg, .ref dg])), (lg, .inr (4, [.ref fa, .ref da, .ref ch])), (fa, .inl (g.2.1 1, 16384, .inl ff)), (da, .inl (g.2.1 0, 16384, .inl fd)), (ch, .inl (g.2.1 0, 16384, .inl fc))] hsz) (fun u : (Int32 × (Nat → Int32) × (Nat → Int32) × (Nat → Int32)) => [(s0, .inr (5, [.ref ks, .int (nI kn), .int (nI mn), .ref lt, .ref ty, .int (nI tn), .int cc, .int u.1, .ref lg, .ref dg])), (lg, .inr (4, [.ref fa, .ref da, .ref ch])), (fa, .inl (g.2.1 1, 16384, .inl u.2.1)), (da, .inl (g.2.1 0, 16384, .inl u.2.2.1)), (ch, .inl (g.2.1 0, 16384, .inl u.2.2.2))])) (va_A [(s0, .inr (5, [.ref ks, .int (nI kn), .int (nI mn), .ref lt, .ref ty, .int (nI tn), .int cc, .int sp, .ref lg, .ref dg])), (lg, .inr (4, [.ref fa, .ref da, .ref ch])), (fa, .inl (g.2.1 1, 16384, .inl ff)), (da, .inl (g.2.1 0, 16384, .inl fd)), (ch, .inl (g.2.1 0, 16384, .inl fc))] hsz)) 0 0 (va_A [(s0, .inr (5, [.ref ks, .int (nI kn), .int (nI mn), .ref lt, .ref ty, .int (nI tn), .int cc, .int sp, .ref lg, .ref dg])), (lg, .inr (4, [.ref fa, .ref da, .ref ch])), (fa, .inl (g.2.1 1, 16384, .inl ff)), (da, .inl (g.2.1 0, 16384, .inl fd)), (ch, .inl (g.2.1 0, 16384, .inl fc))] hsz) := by
  refine ofWi (cc := cX4_accepted) (maxL := 4) (ret := (some .int)) (by decide) rfl (Nat.le_of_ble_eq_true rfl) (fun p e s m below meth c hx hb hr hml hts hown hlocks hnm A H hH hA hP hD hK hZ hS ls hl => ?_)
  have hown : s.vm.findClass RX4 = some m.cls := hown
  have hl : lv_has ls 4 [(0, .ref s0), (1, .int (nI j)), (2, .int xd)] := hl
  have hiX4 : ∀ w ∈ wsX40, w ∈ wsX4_accepted := by decide +kernel
  refine lv_aload_n hx hb dX4_accepted_0 rfl (lv_at hl 0 rfl) ?_
  refine va_get (D := g.1) (ci := 5) (v := .ref lg) (C := RX4) (T := TX4) (N := 10) hx hb hts hiX4 hown hK.1 hP 0 rfl rfl 8 (by decide) (hts (.fieldLink RX4 29 "StampMaker" "ledger" "LStampMaker$Ledger;") (by decide +kernel)) (fun _ h9 => h9) rfl dX4_accepted_1 ?_
  refine lv_iload_n hx hb dX4_accepted_4 rfl (lv_at hl 1 rfl) ?_
  refine lv_i2l hx hb dX4_accepted_5 rfl ?_
  refine lv_rel (x' := (lN j)) (nI_L (by omega)) ?_
  refine cVi (rest := []) ⟨hx, hb, hml, hown, hts⟩ [.long (lN j)] (c_X3_fateOf_in l g (lg := lg) (fa := fa) (da := da) (ch := ch) (ff := ff) (j := j) hj) (cwV 1 hts gX4_accepted_X3_fateOf rfl rfl rfl (by decide +kernel) ⟨Nat.le_of_ble_eq_true rfl, Nat.le_of_ble_eq_true rfl⟩) hK hZ hS (subP hP [1, 2] rfl) (va_recv hK.1 hP (ci := 4) (q0 := 1) rfl rfl) rfl hl.1 rfl (Nat.le_of_ble_eq_true rfl) dX4_accepted_6 ⟨Nat.zero_le _, Nat.zero_le _⟩ (fun r_89 hr_89 => ?_)
  obtain rfl : r_89 = (ff j) := hr_89
  refine lv_istore_n (lv' := [(3, .int (ff j)), (0, .ref s0), (1, .int (nI j)), (2, .int xd)]) hx hb dX4_accepted_9 rfl hl (by decide) rfl (fun ls hl => ?_)
  refine lv_iload_n hx hb dX4_accepted_10 rfl (lv_at hl 0 rfl) ?_
  refine lv_iconst (v := (nI 2)) hx hb dX4_accepted_11 (by decide) ?_
  refine lv_icmp_ne (tgt := 18) hx hb dX4_accepted_12 (by decide) (fun c_90 => ?_) (fun c_90 => ?_)
  · refine lv_aload_n hx hb dX4_accepted_18 rfl (lv_at hl 1 rfl) ?_
    refine lv_iload_n hx hb dX4_accepted_19 rfl (lv_at hl 2 rfl) ?_
    refine va_put (D := g.1) (ci := 5) (v := .int (nI j)) (ty := .int) (C := RX4) (T := TX4) (N := 10) hx hb hts hiX4 tyX4 tyX4_ok nmX4 hown hK.1 hP hD hS 0 rfl rfl 7 (by decide) (hts (.fieldLink RX4 22 "StampMaker" "latestSpent" "I") (by decide +kernel)) (fun _ h9 => h9) rfl (by decide +kernel) rfl rfl (Nat.le_of_ble_eq_true rfl) dX4_accepted_20 (fun H locs hP hD hS => ?_)
    have hP : va_P g.1 vwCl [(s0, .inr (5, [.ref ks, .int (nI kn), .int (nI mn), .ref lt, .ref ty, .int (nI tn), .int cc, .int (nI j), .ref lg, .ref dg])), (lg, .inr (4, [.ref fa, .ref da, .ref ch])), (fa, .inl (g.2.1 1, 16384, .inl ff)), (da, .inl (g.2.1 0, 16384, .inl fd)), (ch, .inl (g.2.1 0, 16384, .inl fc))] H := hP
    have hD : va_D A [(s0, .inr (5, [.ref ks, .int (nI kn), .int (nI mn), .ref lt, .ref ty, .int (nI tn), .int cc, .int (nI j), .ref lg, .ref dg])), (lg, .inr (4, [.ref fa, .ref da, .ref ch])), (fa, .inl (g.2.1 1, 16384, .inl ff)), (da, .inl (g.2.1 0, 16384, .inl fd)), (ch, .inl (g.2.1 0, 16384, .inl fc))] := hD
    refine lv_iload_n hx hb dX4_accepted_23 rfl (lv_at hl 0 rfl) ?_
    refine lv_iconst (v := (nI 1)) hx hb dX4_accepted_24 (by decide) ?_
    refine lv_icmp_ne (tgt := 31) hx hb dX4_accepted_25 (by decide) (fun c_91 => ?_) (fun c_91 => ?_)
    · refine lv_aload_n hx hb dX4_accepted_31 rfl (lv_at hl 1 rfl) ?_
      refine va_get (D := g.1) (ci := 5) (v := .ref lg) (C := RX4) (T := TX4) (N := 10) hx hb hts hiX4 hown hK.1 hP 0 rfl rfl 8 (by decide) (hts (.fieldLink RX4 29 "StampMaker" "ledger" "LStampMaker$Ledger;") (by decide +kernel)) (fun _ h9 => h9) rfl dX4_accepted_32 ?_
      refine lv_iload_n hx hb dX4_accepted_35 rfl (lv_at hl 2 rfl) ?_
      refine lv_iload_n hx hb dX4_accepted_36 rfl (lv_at hl 3 rfl) ?_
      refine lv_aload_n hx hb dX4_accepted_37 rfl (lv_at hl 1 rfl) ?_
      refine va_get (D := g.1) (ci := 5) (v := .int cc) (C := RX4) (T := TX4) (N := 10) hx hb hts hiX4 hown hK.1 hP 0 rfl rfl 6 (by decide) (hts (.fieldLink RX4 95 "StampMaker" "checkCount" "I") (by decide +kernel)) (fun _ h9 => h9) rfl dX4_accepted_38 ?_
      refine wVv (rest := []) ⟨hx, hb, hml, hown, hts⟩ [.int (nI j), .int xd, .int cc] [1, 2, 3, 4] (c_X3_spend l g H.size (lg := lg) (fa := fa) (da := da) (ch := ch) (ff := ff) (fd := fd) (fc := fc) (j := j) (xd := xd) (xc := cc) hj) (cwV 3 hts gX4_accepted_X3_spend rfl rfl rfl (by decide +kernel) ⟨Nat.le_of_ble_eq_true rfl, Nat.le_of_ble_eq_true rfl⟩) hK hZ hS hP hD hA rfl (by decide) (fun _ => Nat.le_of_ble_eq_true rfl) (fun _ => rfl) (va_recv hK.1 hP (ci := 4) (q0 := 1) rfl rfl) rfl hl.1 rfl (Nat.le_of_ble_eq_true rfl) dX4_accepted_41 ⟨Nat.le_of_ble_eq_true rfl, Nat.le_of_ble_eq_true rfl⟩ (fun u H locs hr_92 hP hD hS => ?_)
      have hP : va_P g.1 vwCl [(s0, .inr (5, [.ref ks, .int (nI kn), .int (nI mn), .ref lt, .ref ty, .int (nI tn), .int cc, .int (nI j), .ref lg, .ref dg])), (lg, .inr (4, [.ref fa, .ref da, .ref ch])), (fa, .inl (g.2.1 1, 16384, .inl (upd ff j (nI 1)))), (da, .inl (g.2.1 0, 16384, .inl (upd fd j xd))), (ch, .inl (g.2.1 0, 16384, .inl (upd fc j cc)))] H := hP
      have hD : va_D A [(s0, .inr (5, [.ref ks, .int (nI kn), .int (nI mn), .ref lt, .ref ty, .int (nI tn), .int cc, .int (nI j), .ref lg, .ref dg])), (lg, .inr (4, [.ref fa, .ref da, .ref ch])), (fa, .inl (g.2.1 1, 16384, .inl (upd ff j (nI 1)))), (da, .inl (g.2.1 0, 16384, .inl (upd fd j xd))), (ch, .inl (g.2.1 0, 16384, .inl (upd fc j cc)))] := hD
      refine lv_iconst (v := (nI 1)) hx hb dX4_accepted_44 (by decide) ?_
      exact endWi (nI j, upd ff j (nI 1), upd fd j xd, upd fc j cc) hx hb hr hlocks hS dX4_accepted_45 hP hD (by unfold acR acS acF; simp only [if_neg c_90, if_neg c_91, if_neg (not_or.mpr ⟨c_90, c_91⟩), true_and])
    · refine lv_bipush (v := (-7)) hx hb dX4_accepted_28 (by decide) ?_
      exact endWi (nI j, ff, fd, fc) hx hb hr hlocks hS dX4_accepted_30 hP hD (by unfold acR acS acF; rw [c_91]; exact ⟨rfl, rfl, rfl, rfl, rfl⟩)
  · refine lv_bipush (v := (-8)) hx hb dX4_accepted_15 (by decide) ?_
    exact endWi (sp, ff, fd, fc) hx hb hr hlocks hS dX4_accepted_17 hP hD (by unfold acR acS acF; rw [c_90]; exact ⟨rfl, rfl, rfl, rfl, rfl⟩)

set_option maxHeartbeats 4000000 in
set_option maxRecDepth 100000 in
/-- no such key -/
theorem c_X4_make_out (l : Launch) (g : gE) (s0 ks lt ty lg dg kn mn tn : Nat) (cc sp : Int32) (fk : Nat → Option Nat) (x xv xk : Int32) (xd : Int64) (hx0 : ¬ (0 ≤ x.toInt ∧ x.toInt < kn)) (hkn : kn ≤ 15) : Met l yX4_make wsX4_make ({ frames := 1, cells := 0, slots := 0, locals := 21 }) (va_Pc [.ref s0, .int x, .int xv, .int xk, .long xd] (ro g [(s0, .inr (5, [.ref ks, .int (nI kn), .int (nI mn), .ref lt, .ref ty, .int (nI tn), .int cc, .int sp, .ref lg, .ref dg])), (ks, .inl (g.2.1 4, 15, .inr (.inr (.inr (.inr fk)))))])) (vp_Si (fun r : Int32 => r = -21)) 0 0 nA := by
  refine ofRo (cc := cX4_make) (maxL := 9) (ret := (some .int)) (by decide) rfl (Nat.le_of_ble_eq_true rfl) (fun p e s m below meth c hx hb hr hml hts hown hlocks hnm hP hK hZ hS ls hl => ?_)
  have hown : s.vm.findClass RX4 = some m.cls := hown
  have hl : lv_has ls 9 [(0, .ref s0), (1, .int x), (2, .int xv), (3, .int xk), (4, .long xd)] := hl
  have hiX4 : ∀ w ∈ wsX40, w ∈ wsX4_make := by decide +kernel
  refine lv_aload_n hx hb dX4_make_0 rfl (lv_at hl 0 rfl) ?_
  refine lv_iload_n hx hb dX4_make_1 rfl (lv_at hl 1 rfl) ?_
  refine cVq (rest := []) ⟨hx, hb, hml, hown, hts⟩ [.int x] (c_X4_kn_out l g (s0 := s0) (ks := ks) (lt := lt) (ty := ty) (lg := lg) (dg := dg) (kn := kn) (mn := mn) (tn := tn) (cc := cc) (sp := sp) (fk := fk) (x := x) hx0 hkn) (cwV 1 hts gX4_make_X4_keyNumbered rfl rfl rfl (by decide +kernel) ⟨Nat.le_of_ble_eq_true rfl, Nat.le_of_ble_eq_true rfl⟩) hK hZ hS (subP hP [0, 1] rfl) (va_recv hK.1 hP (ci := 5) (q0 := 0) rfl rfl) rfl hl.1 rfl (Nat.le_of_ble_eq_true rfl) dX4_make_2 ⟨Nat.zero_le _, Nat.zero_le _⟩ (fun r_93 hr_93 => ?_)
  obtain rfl : r_93 = none := hr_93
  refine lv_reN (rfl) ?_
  refine lv_astoreN (lv' := [(6, .null), (0, .ref s0), (1, .int x), (2, .int xv), (3, .int xk), (4, .long xd)]) hx hb dX4_make_5 hl (by decide) rfl (fun ls hl => ?_)
  refine lv_aloadN hx hb dX4_make_7 (lv_at hl 0 rfl) ?_
  refine lv_ifnonnullN hx hb dX4_make_9 ?_
  refine lv_bipush (v := (-21)) hx hb dX4_make_12 (by decide) ?_
  exact endRi hx hb hr hlocks dX4_make_14 (rfl)

set_option maxHeartbeats 4000000 in
set_option maxRecDepth 100000 in
/-- a number is not as said -/
theorem c_X4_make_dom (l : Launch) (g : gE) (s0 ks lt ty lg dg kn mn tn : Nat) (cc sp : Int32) (fk : Nat → Option Nat) (i k : Nat) (xv xk : Int32) (xd : Int64) (hi : i < kn) (hkn : kn ≤ 15) (hk : fk i = some k) (hd : ¬ ((1 ≤ xv.toInt ∧ xv.toInt ≤ 99999) ∧ (0 ≤ xk.toInt ∧ xk.toInt ≤ 9) ∧ (0 ≤ xd.toInt ∧ xd.toInt ≤ 65535))) : Met l yX4_make wsX4_make ({ frames := 1, cells := 0, slots := 0, locals := 21 }) (va_Pc [.ref s0, .int (nI i), .int xv, .int xk, .long xd] (ro g [(s0, .inr (5, [.ref ks, .int (nI kn), .int (nI mn), .ref lt, .ref ty, .int (nI tn), .int cc, .int sp, .ref lg, .ref dg])), (ks, .inl (g.2.1 4, 15, .inr (.inr (.inr (.inr fk)))))])) (vp_Si (fun r : Int32 => r = -22)) 0 0 nA := by
  refine ofRo (cc := cX4_make) (maxL := 9) (ret := (some .int)) (by decide) rfl (Nat.le_of_ble_eq_true rfl) (fun p e s m below meth c hx hb hr hml hts hown hlocks hnm hP hK hZ hS ls hl => ?_)
  have hown : s.vm.findClass RX4 = some m.cls := hown
  have hl : lv_has ls 9 [(0, .ref s0), (1, .int (nI i)), (2, .int xv), (3, .int xk), (4, .long xd)] := hl
  have hiX4 : ∀ w ∈ wsX40, w ∈ wsX4_make := by decide +kernel
  refine lv_aload_n hx hb dX4_make_0 rfl (lv_at hl 0 rfl) ?_
  refine lv_iload_n hx hb dX4_make_1 rfl (lv_at hl 1 rfl) ?_
  refine cVq (rest := []) ⟨hx, hb, hml, hown, hts⟩ [.int (nI i)] (c_X4_kn_in l g (s0 := s0) (ks := ks) (lt := lt) (ty := ty) (lg := lg) (dg := dg) (kn := kn) (mn := mn) (tn := tn) (cc := cc) (sp := sp) (fk := fk) (i := i) hi hkn) (cwV 1 hts gX4_make_X4_keyNumbered rfl rfl rfl (by decide +kernel) ⟨Nat.le_of_ble_eq_true rfl, Nat.le_of_ble_eq_true rfl⟩) hK hZ hS (subP hP [0, 1] rfl) (va_recv hK.1 hP (ci := 5) (q0 := 0) rfl rfl) rfl hl.1 rfl (Nat.le_of_ble_eq_true rfl) dX4_make_2 ⟨Nat.zero_le _, Nat.zero_le _⟩ (fun r_94 hr_94 => ?_)
  obtain rfl : r_94 = (fk i) := hr_94
  refine lv_reR (a := k) (hk) ?_
  refine lv_astore (lv' := [(6, .ref k), (0, .ref s0), (1, .int (nI i)), (2, .int xv), (3, .int xk), (4, .long xd)]) hx hb dX4_make_5 hl (by decide) rfl (fun ls hl => ?_)
  refine lv_aload hx hb dX4_make_7 (lv_at hl 0 rfl) ?_
  refine lv_ifnonnull (tgt := 15) hx hb dX4_make_9 (by decide) ?_
  refine lv_iload_n hx hb dX4_make_15 rfl (lv_at hl 3 rfl) ?_
  refine cSi (rest := []) ⟨hx, hb, hml, hown, hts⟩ [.int xv] (c_X4_isValue l g (x := xv)) (va_cwS 1 hts gX4_make_X4_isValue rfl rfl rfl (by decide +kernel) ⟨Nat.le_of_ble_eq_true rfl, Nat.le_of_ble_eq_true rfl⟩) hK hZ hS (subP hP [] rfl) rfl hl.1 rfl (Nat.le_of_ble_eq_true rfl) dX4_make_16 ⟨Nat.zero_le _, Nat.zero_le _⟩ (fun r_95 hr_95 => ?_)
  obtain rfl : r_95 = (inI xv.toInt 1 99999) := hr_95
  refine lv_if_eq (tgt := 37) hx hb dX4_make_19 (by decide) (fun c_96 => ?_) (fun c_96 => ?_)
  · refine lv_bipush (v := (-22)) hx hb dX4_make_37 (by decide) ?_
    exact endRi hx hb hr hlocks dX4_make_39 (rfl)
  · refine lv_iload_n hx hb dX4_make_22 rfl (lv_at hl 4 rfl) ?_
    refine cSi (rest := []) ⟨hx, hb, hml, hown, hts⟩ [.int xk] (c_X4_isKind l g (x := xk)) (va_cwS 1 hts gX4_make_X4_isKind rfl rfl rfl (by decide +kernel) ⟨Nat.le_of_ble_eq_true rfl, Nat.le_of_ble_eq_true rfl⟩) hK hZ hS (subP hP [] rfl) rfl hl.1 rfl (Nat.le_of_ble_eq_true rfl) dX4_make_23 ⟨Nat.zero_le _, Nat.zero_le _⟩ (fun r_97 hr_97 => ?_)
    obtain rfl : r_97 = (inI xk.toInt 0 9) := hr_97
    refine lv_if_eq (tgt := 37) hx hb dX4_make_26 (by decide) (fun c_98 => ?_) (fun c_98 => ?_)
    · refine lv_bipush (v := (-22)) hx hb dX4_make_37 (by decide) ?_
      exact endRi hx hb hr hlocks dX4_make_39 (rfl)
    · refine lv_lload hx hb dX4_make_29 (lv_at hl 5 rfl) ?_
      refine cSi (rest := []) ⟨hx, hb, hml, hown, hts⟩ [.long xd] (c_X4_isDay l g (x := xd)) (va_cwS 1 hts gX4_make_X4_isDay rfl rfl rfl (by decide +kernel) ⟨Nat.le_of_ble_eq_true rfl, Nat.le_of_ble_eq_true rfl⟩) hK hZ hS (subP hP [] rfl) rfl hl.1 rfl (Nat.le_of_ble_eq_true rfl) dX4_make_31 ⟨Nat.zero_le _, Nat.zero_le _⟩ (fun r_99 hr_99 => ?_)
      obtain rfl : r_99 = (inI xd.toInt 0 65535) := hr_99
      refine lv_if_ne (tgt := 40) hx hb dX4_make_34 (by decide) (fun c_100 => ?_) (fun c_100 => ?_)
      · exact absurd (by rw [inI_eq0] at c_96 c_98 c_100; omega) hd
      · refine lv_bipush (v := (-22)) hx hb dX4_make_37 (by decide) ?_
        exact endRi hx hb hr hlocks dX4_make_39 (rfl)

set_option maxHeartbeats 4000000 in
set_option maxRecDepth 100000 in
/-- the key does not hold on that day -/
theorem c_X4_make_state (l : Launch) (g : gE) (s0 ks lt ty lg dg kn mn tn : Nat) (cc sp : Int32) (fk : Nat → Option Nat) (i k kb : Nat) (fr un cn cl : Int32) (xv xk : Int32) (xd : Int64) (hi : i < kn) (hkn : kn ≤ 15) (hk : fk i = some k) (hd : ((1 ≤ xv.toInt ∧ xv.toInt ≤ 99999) ∧ (0 ≤ xk.toInt ∧ xk.toInt ≤ 9) ∧ (0 ≤ xd.toInt ∧ xd.toInt ≤ 65535))) (hst : ¬ (fr.toInt ≤ xd.toInt ∧ xd.toInt ≤ un.toInt)) : Met l yX4_make wsX4_make ({ frames := 1, cells := 0, slots := 0, locals := 22 }) (va_Pc [.ref s0, .int (nI i), .int xv, .int xk, .long xd] (ro g [(s0, .inr (5, [.ref ks, .int (nI kn), .int (nI mn), .ref lt, .ref ty, .int (nI tn), .int cc, .int sp, .ref lg, .ref dg])), (ks, .inl (g.2.1 4, 15, .inr (.inr (.inr (.inr fk))))), (k, .inr (3, [.int fr, .int un, .ref kb, .int cn, .int cl]))])) (vp_Si (fun r : Int32 => r = -23)) 0 0 nA := by
  refine ofRo (cc := cX4_make) (maxL := 9) (ret := (some .int)) (by decide) rfl (Nat.le_of_ble_eq_true rfl) (fun p e s m below meth c hx hb hr hml hts hown hlocks hnm hP hK hZ hS ls hl => ?_)
  have hown : s.vm.findClass RX4 = some m.cls := hown
  have hl : lv_has ls 9 [(0, .ref s0), (1, .int (nI i)), (2, .int xv), (3, .int xk), (4, .long xd)] := hl
  have hiX4 : ∀ w ∈ wsX40, w ∈ wsX4_make := by decide +kernel
  refine lv_aload_n hx hb dX4_make_0 rfl (lv_at hl 0 rfl) ?_
  refine lv_iload_n hx hb dX4_make_1 rfl (lv_at hl 1 rfl) ?_
  refine cVq (rest := []) ⟨hx, hb, hml, hown, hts⟩ [.int (nI i)] (c_X4_kn_in l g (s0 := s0) (ks := ks) (lt := lt) (ty := ty) (lg := lg) (dg := dg) (kn := kn) (mn := mn) (tn := tn) (cc := cc) (sp := sp) (fk := fk) (i := i) hi hkn) (cwV 1 hts gX4_make_X4_keyNumbered rfl rfl rfl (by decide +kernel) ⟨Nat.le_of_ble_eq_true rfl, Nat.le_of_ble_eq_true rfl⟩) hK hZ hS (subP hP [0, 1] rfl) (va_recv hK.1 hP (ci := 5) (q0 := 0) rfl rfl) rfl hl.1 rfl (Nat.le_of_ble_eq_true rfl) dX4_make_2 ⟨Nat.zero_le _, Nat.zero_le _⟩ (fun r_101 hr_101 => ?_)
  obtain rfl : r_101 = (fk i) := hr_101
  refine lv_reR (a := k) (hk) ?_
  refine lv_astore (lv' := [(6, .ref k), (0, .ref s0), (1, .int (nI i)), (2, .int xv), (3, .int xk), (4, .long xd)]) hx hb dX4_make_5 hl (by decide) rfl (fun ls hl => ?_)
  refine lv_aload hx hb dX4_make_7 (lv_at hl 0 rfl) ?_
  refine lv_ifnonnull (tgt := 15) hx hb dX4_make_9 (by decide) ?_
  refine lv_iload_n hx hb dX4_make_15 rfl (lv_at hl 3 rfl) ?_
  refine cSi (rest := []) ⟨hx, hb, hml, hown, hts⟩ [.int xv] (c_X4_isValue l g (x := xv)) (va_cwS 1 hts gX4_make_X4_isValue rfl rfl rfl (by decide +kernel) ⟨Nat.le_of_ble_eq_true rfl, Nat.le_of_ble_eq_true rfl⟩) hK hZ hS (subP hP [] rfl) rfl hl.1 rfl (Nat.le_of_ble_eq_true rfl) dX4_make_16 ⟨Nat.zero_le _, Nat.zero_le _⟩ (fun r_102 hr_102 => ?_)
  obtain rfl : r_102 = (inI (xv).toInt 1 99999) := hr_102
  refine lv_if_eq (tgt := 37) hx hb dX4_make_19 (by decide) (fun c9 => absurd c9 (by rw [inI_1 (by omega) (by omega)]; decide)) (fun _ => ?_)
  refine lv_iload_n hx hb dX4_make_22 rfl (lv_at hl 4 rfl) ?_
  refine cSi (rest := []) ⟨hx, hb, hml, hown, hts⟩ [.int xk] (c_X4_isKind l g (x := xk)) (va_cwS 1 hts gX4_make_X4_isKind rfl rfl rfl (by decide +kernel) ⟨Nat.le_of_ble_eq_true rfl, Nat.le_of_ble_eq_true rfl⟩) hK hZ hS (subP hP [] rfl) rfl hl.1 rfl (Nat.le_of_ble_eq_true rfl) dX4_make_23 ⟨Nat.zero_le _, Nat.zero_le _⟩ (fun r_103 hr_103 => ?_)
  obtain rfl : r_103 = (inI (xk).toInt 0 9) := hr_103
  refine lv_if_eq (tgt := 37) hx hb dX4_make_26 (by decide) (fun c9 => absurd c9 (by rw [inI_1 (by omega) (by omega)]; decide)) (fun _ => ?_)
  refine lv_lload hx hb dX4_make_29 (lv_at hl 5 rfl) ?_
  refine cSi (rest := []) ⟨hx, hb, hml, hown, hts⟩ [.long xd] (c_X4_isDay l g (x := xd)) (va_cwS 1 hts gX4_make_X4_isDay rfl rfl rfl (by decide +kernel) ⟨Nat.le_of_ble_eq_true rfl, Nat.le_of_ble_eq_true rfl⟩) hK hZ hS (subP hP [] rfl) rfl hl.1 rfl (Nat.le_of_ble_eq_true rfl) dX4_make_31 ⟨Nat.zero_le _, Nat.zero_le _⟩ (fun r_104 hr_104 => ?_)
  obtain rfl : r_104 = (inI (xd).toInt 0 65535) := hr_104
  refine lv_if_ne (tgt := 40) hx hb dX4_make_34 (by decide) (fun _ => ?_) (fun c9 => absurd c9 (by rw [inI_1 (by omega) (by omega)]; decide))
  refine lv_aload hx hb dX4_make_40 (lv_at hl 0 rfl) ?_
  refine lv_lload hx hb dX4_make_42 (lv_at hl 5 rfl) ?_
  refine cVi (rest := []) ⟨hx, hb, hml, hown, hts⟩ [.long xd] (c_X2_holdsOn l g (k := k) (kb := kb) (fr := fr) (un := un) (cn := cn) (cl := cl) (x := xd)) (cwV 1 hts gX4_make_X2_holdsOn rfl rfl rfl (by decide +kernel) ⟨Nat.le_of_ble_eq_true rfl, Nat.le_of_ble_eq_true rfl⟩) hK hZ hS (subP hP [2] rfl) (va_recv hK.1 hP (ci := 3) (q0 := 2) rfl rfl) rfl hl.1 rfl (Nat.le_of_ble_eq_true rfl) dX4_make_44 ⟨Nat.zero_le _, Nat.zero_le _⟩ (fun r_105 hr_105 => ?_)
  obtain rfl : r_105 = (inI xd.toInt fr.toInt un.toInt) := hr_105
  refine lv_if_ne (tgt := 53) hx hb dX4_make_47 (by decide) (fun c9 => absurd (inI_0 hst) c9) (fun _ => ?_)
  refine lv_bipush (v := (-23)) hx hb dX4_make_50 (by decide) ?_
  exact endRi hx hb hr hlocks dX4_make_52 (rfl)

set_option maxHeartbeats 4000000 in
set_option maxRecDepth 100000 in
/-- a stamp made -/
theorem c_X4_make_yes (l : Launch) (g : gE) (hsz : Nat) (s0 ks lt ty lg dg kn mn tn : Nat) (cc sp : Int32) (fk : Nat → Option Nat) (wa st : Nat) (rk : Int32) (fw fs fl : Nat → Int32) (k kb : Nat) (fr un cl : Int32) (f : Nat → Int32) (nz i v kd d : Nat) (hi : i < kn) (hkn : kn ≤ 15) (hk : fk i = some k) (hz : nz ≤ 32) (hmn : mn < 16384) (hv1 : 1 ≤ v) (hv2 : v ≤ 99999) (hkd : kd ≤ 9) (hdd : d ≤ 65535) (hst : fr.toInt ≤ d ∧ (d : Int) ≤ un.toInt) : Met l yX4_make wsX4_make ({ frames := 6, cells := 0, slots := 0, locals := 129 }) (va_Pc [.ref s0, .int (nI i), .int (nI v), .int (nI kd), .long (lN d)] (wr g [(s0, .inr (5, [.ref ks, .int (nI kn), .int (nI mn), .ref lt, .ref ty, .int (nI tn), .int cc, .int sp, .ref lg, .ref dg])), (ks, .inl (g.2.1 4, 15, .inr (.inr (.inr (.inr fk))))), (dg, .inr (2, [.ref wa, .ref st, .int rk])), (wa, .inl (g.2.1 0, 64, .inl fw)), (st, .inl (g.2.1 0, 8, .inl fs)), (k, .inr (3, [.int fr, .int un, .ref kb, .int (nI nz), .int cl])), (kb, .inl (g.2.1 1, 32, .inl f)), (lt, .inl (g.2.1 0, 16, .inl fl))] hsz)) (va_Qi (fun (r : Int32) (u : ((Nat → Int32) × (Nat → Int32) × (Nat → Int32))) => r = nI 16 ∧ (∀ j, j < 8 → u.2.1 j = dG f nz (pkN i kd v d mn) j) ∧ ∀ j, j < 16 → u.2.2 j = ltE (pkN i kd v d mn) (sN f nz (pkN i kd v d mn)) j) (wB g (va_A [(s0, .inr (5, [.ref ks, .int (nI kn), .int (nI mn), .ref lt, .ref ty, .int (nI tn), .int cc, .int sp, .ref lg, .ref dg])), (ks, .inl (g.2.1 4, 15, .inr (.inr (.inr (.inr fk))))), (dg, .inr (2, [.ref wa, .ref st, .int rk])), (wa, .inl (g.2.1 0, 64, .inl fw)), (st, .inl (g.2.1 0, 8, .inl fs)), (k, .inr (3, [.int fr, .int un, .ref kb, .int (nI nz), .int cl])), (kb, .inl (g.2.1 1, 32, .inl f)), (lt, .inl (g.2.1 0, 16, .inl fl))] hsz) (fun u : ((Nat → Int32) × (Nat → Int32) × (Nat → Int32)) => [(s0, .inr (5, [.ref ks, .int (nI kn), .int (nI (mn + 1)), .ref lt, .ref ty, .int (nI tn), .int cc, .int sp, .ref lg, .ref dg])), (ks, .inl (g.2.1 4, 15, .inr (.inr (.inr (.inr fk))))), (dg, .inr (2, [.ref wa, .ref st, .int (nI 1)])), (wa, .inl (g.2.1 0, 64, .inl u.1)), (st, .inl (g.2.1 0, 8, .inl u.2.1)), (k, .inr (3, [.int fr, .int un, .ref kb, .int (nI nz), .int (nI 1)])), (kb, .inl (g.2.1 1, 32, .inl f)), (lt, .inl (g.2.1 0, 16, .inl u.2.2))])) (va_A [(s0, .inr (5, [.ref ks, .int (nI kn), .int (nI mn), .ref lt, .ref ty, .int (nI tn), .int cc, .int sp, .ref lg, .ref dg])), (ks, .inl (g.2.1 4, 15, .inr (.inr (.inr (.inr fk))))), (dg, .inr (2, [.ref wa, .ref st, .int rk])), (wa, .inl (g.2.1 0, 64, .inl fw)), (st, .inl (g.2.1 0, 8, .inl fs)), (k, .inr (3, [.int fr, .int un, .ref kb, .int (nI nz), .int cl])), (kb, .inl (g.2.1 1, 32, .inl f)), (lt, .inl (g.2.1 0, 16, .inl fl))] hsz)) 0 0 (va_A [(s0, .inr (5, [.ref ks, .int (nI kn), .int (nI mn), .ref lt, .ref ty, .int (nI tn), .int cc, .int sp, .ref lg, .ref dg])), (ks, .inl (g.2.1 4, 15, .inr (.inr (.inr (.inr fk))))), (dg, .inr (2, [.ref wa, .ref st, .int rk])), (wa, .inl (g.2.1 0, 64, .inl fw)), (st, .inl (g.2.1 0, 8, .inl fs)), (k, .inr (3, [.int fr, .int un, .ref kb, .int (nI nz), .int cl])), (kb, .inl (g.2.1 1, 32, .inl f)), (lt, .inl (g.2.1 0, 16, .inl fl))] hsz) := by
  refine ofWi (cc := cX4_make) (maxL := 9) (ret := (some .int)) (by decide) rfl (Nat.le_of_ble_eq_true rfl) (fun p e s m below meth c hx hb hr hml hts hown hlocks hnm A H hH hA hP hD hK hZ hS ls hl => ?_)
  have hown : s.vm.findClass RX4 = some m.cls := hown
  have hl : lv_has ls 9 [(0, .ref s0), (1, .int (nI i)), (2, .int (nI v)), (3, .int (nI kd)), (4, .long (lN d))] := hl
  have hiX4 : ∀ w ∈ wsX40, w ∈ wsX4_make := by decide +kernel
  have tv := ti_n (n := v) (by omega)
  have tkd := ti_n (n := kd) (by omega)
  have td := tl_n (n := d) (by omega)
  have hN : pkN i kd v d mn < 36028797018963968 := by unfold pkN; omega
  refine lv_aload_n hx hb dX4_make_0 rfl (lv_at hl 0 rfl) ?_
  refine lv_iload_n hx hb dX4_make_1 rfl (lv_at hl 1 rfl) ?_
  refine cVq (rest := []) ⟨hx, hb, hml, hown, hts⟩ [.int (nI i)] (c_X4_kn_in l g (s0 := s0) (ks := ks) (lt := lt) (ty := ty) (lg := lg) (dg := dg) (kn := kn) (mn := mn) (tn := tn) (cc := cc) (sp := sp) (fk := fk) (i := i) hi hkn) (cwV 1 hts gX4_make_X4_keyNumbered rfl rfl rfl (by decide +kernel) ⟨Nat.le_of_ble_eq_true rfl, Nat.le_of_ble_eq_true rfl⟩) hK hZ hS (subP hP [0, 1] rfl) (va_recv hK.1 hP (ci := 5) (q0 := 0) rfl rfl) rfl hl.1 rfl (Nat.le_of_ble_eq_true rfl) dX4_make_2 ⟨Nat.zero_le _, Nat.zero_le _⟩ (fun r_106 hr_106 => ?_)
  obtain rfl : r_106 = (fk i) := hr_106
  refine lv_reR (a := k) (hk) ?_
  refine lv_astore (lv' := [(6, .ref k), (0, .ref s0), (1, .int (nI i)), (2, .int (nI v)), (3, .int (nI kd)), (4, .long (lN d))]) hx hb dX4_make_5 hl (by decide) rfl (fun ls hl => ?_)
  refine lv_aload hx hb dX4_make_7 (lv_at hl 0 rfl) ?_
  refine lv_ifnonnull (tgt := 15) hx hb dX4_make_9 (by decide) ?_
  refine lv_iload_n hx hb dX4_make_15 rfl (lv_at hl 3 rfl) ?_
  refine cSi (rest := []) ⟨hx, hb, hml, hown, hts⟩ [.int (nI v)] (c_X4_isValue l g (x := nI v)) (va_cwS 1 hts gX4_make_X4_isValue rfl rfl rfl (by decide +kernel) ⟨Nat.le_of_ble_eq_true rfl, Nat.le_of_ble_eq_true rfl⟩) hK hZ hS (subP hP [] rfl) rfl hl.1 rfl (Nat.le_of_ble_eq_true rfl) dX4_make_16 ⟨Nat.zero_le _, Nat.zero_le _⟩ (fun r_107 hr_107 => ?_)
  obtain rfl : r_107 = (inI (nI v).toInt 1 99999) := hr_107
  refine lv_if_eq (tgt := 37) hx hb dX4_make_19 (by decide) (fun c9 => absurd c9 (by rw [inI_1 (by omega) (by omega)]; decide)) (fun _ => ?_)
  refine lv_iload_n hx hb dX4_make_22 rfl (lv_at hl 4 rfl) ?_
  refine cSi (rest := []) ⟨hx, hb, hml, hown, hts⟩ [.int (nI kd)] (c_X4_isKind l g (x := nI kd)) (va_cwS 1 hts gX4_make_X4_isKind rfl rfl rfl (by decide +kernel) ⟨Nat.le_of_ble_eq_true rfl, Nat.le_of_ble_eq_true rfl⟩) hK hZ hS (subP hP [] rfl) rfl hl.1 rfl (Nat.le_of_ble_eq_true rfl) dX4_make_23 ⟨Nat.zero_le _, Nat.zero_le _⟩ (fun r_108 hr_108 => ?_)
  obtain rfl : r_108 = (inI (nI kd).toInt 0 9) := hr_108
  refine lv_if_eq (tgt := 37) hx hb dX4_make_26 (by decide) (fun c9 => absurd c9 (by rw [inI_1 (by omega) (by omega)]; decide)) (fun _ => ?_)
  refine lv_lload hx hb dX4_make_29 (lv_at hl 5 rfl) ?_
  refine cSi (rest := []) ⟨hx, hb, hml, hown, hts⟩ [.long (lN d)] (c_X4_isDay l g (x := lN d)) (va_cwS 1 hts gX4_make_X4_isDay rfl rfl rfl (by decide +kernel) ⟨Nat.le_of_ble_eq_true rfl, Nat.le_of_ble_eq_true rfl⟩) hK hZ hS (subP hP [] rfl) rfl hl.1 rfl (Nat.le_of_ble_eq_true rfl) dX4_make_31 ⟨Nat.zero_le _, Nat.zero_le _⟩ (fun r_109 hr_109 => ?_)
  obtain rfl : r_109 = (inI (lN d).toInt 0 65535) := hr_109
  refine lv_if_ne (tgt := 40) hx hb dX4_make_34 (by decide) (fun _ => ?_) (fun c9 => absurd c9 (by rw [inI_1 (by omega) (by omega)]; decide))
  refine lv_aload hx hb dX4_make_40 (lv_at hl 0 rfl) ?_
  refine lv_lload hx hb dX4_make_42 (lv_at hl 5 rfl) ?_
  refine cVi (rest := []) ⟨hx, hb, hml, hown, hts⟩ [.long (lN d)] (c_X2_holdsOn l g (k := k) (kb := kb) (fr := fr) (un := un) (cn := (nI nz)) (cl := cl) (x := (lN d))) (cwV 1 hts gX4_make_X2_holdsOn rfl rfl rfl (by decide +kernel) ⟨Nat.le_of_ble_eq_true rfl, Nat.le_of_ble_eq_true rfl⟩) hK hZ hS (subP hP [5] rfl) (va_recv hK.1 hP (ci := 3) (q0 := 5) rfl rfl) rfl hl.1 rfl (Nat.le_of_ble_eq_true rfl) dX4_make_44 ⟨Nat.zero_le _, Nat.zero_le _⟩ (fun r_110 hr_110 => ?_)
  obtain rfl : r_110 = (inI (lN d).toInt fr.toInt un.toInt) := hr_110
  refine lv_if_ne (tgt := 53) hx hb dX4_make_47 (by decide) (fun _ => ?_) (fun c9 => absurd c9 (by rw [inI_1 (by omega) (by omega)]; decide))
  refine lv_aload_n hx hb dX4_make_53 rfl (lv_at hl 1 rfl) ?_
  refine va_get (D := g.1) (ci := 5) (v := .int (nI mn)) (C := RX4) (T := TX4) (N := 10) hx hb hts hiX4 hown hK.1 hP 0 rfl rfl 2 (by decide) (hts (.fieldLink RX4 68 "StampMaker" "made" "I") (by decide +kernel)) (fun _ h9 => h9) rfl dX4_make_54 ?_
  refine lv_sipush (v := (nI 16384)) hx hb dX4_make_57 (by decide) ?_
  refine lv_icmp_lt (tgt := 66) hx hb dX4_make_60 (by decide) (fun _ => ?_) (fun c9 => absurd (nI_lt hmn (by omega)) c9)
  refine lv_iload_n hx hb dX4_make_66 rfl (lv_at hl 2 rfl) ?_
  refine lv_iload_n hx hb dX4_make_67 rfl (lv_at hl 4 rfl) ?_
  refine lv_iload_n hx hb dX4_make_68 rfl (lv_at hl 3 rfl) ?_
  refine lv_lload hx hb dX4_make_69 (lv_at hl 5 rfl) ?_
  refine lv_l2i hx hb dX4_make_71 rfl ?_
  refine lv_rei (x' := (nI d)) (l_i) ?_
  refine lv_aload_n hx hb dX4_make_72 rfl (lv_at hl 1 rfl) ?_
  refine va_get (D := g.1) (ci := 5) (v := .int (nI mn)) (C := RX4) (T := TX4) (N := 10) hx hb hts hiX4 hown hK.1 hP 0 rfl rfl 2 (by decide) (hts (.fieldLink RX4 68 "StampMaker" "made" "I") (by decide +kernel)) (fun _ h9 => h9) rfl dX4_make_73 ?_
  refine cSl (rest := []) ⟨hx, hb, hml, hown, hts⟩ [.int (nI i), .int (nI kd), .int (nI v), .int (nI d), .int (nI mn)] (c_X1_joined l g (fa := (nI i)) (fb := (nI kd)) (fc := (nI v)) (fd := (nI d)) (ff := (nI mn))) (va_cwS 5 hts gX4_make_X1_joined rfl rfl rfl (by decide +kernel) ⟨Nat.le_of_ble_eq_true rfl, Nat.le_of_ble_eq_true rfl⟩) hK hZ hS (subP hP [] rfl) rfl hl.1 rfl (Nat.le_of_ble_eq_true rfl) dX4_make_76 ⟨Nat.zero_le _, Nat.zero_le _⟩ (fun r_111 hr_111 => ?_)
  obtain rfl : r_111 = (jnE (nI i) (nI kd) (nI v) (nI d) (nI mn)) := hr_111
  refine lv_rel (x' := (lN (pkN i kd v d mn))) (jnE_n (by omega) (by omega) (by omega) (by omega) (by omega)) ?_
  refine lv_lstore (lv' := [(7, .long (lN (pkN i kd v d mn))), (6, .ref k), (0, .ref s0), (1, .int (nI i)), (2, .int (nI v)), (3, .int (nI kd)), (4, .long (lN d))]) hx hb dX4_make_79 hl (by decide) rfl (fun ls hl => ?_)
  refine lv_aload_n hx hb dX4_make_81 rfl (lv_at hl 2 rfl) ?_
  refine lv_dup hx hb dX4_make_82 rfl ?_
  refine va_get (D := g.1) (ci := 5) (v := .int (nI mn)) (C := RX4) (T := TX4) (N := 10) hx hb hts hiX4 hown hK.1 hP 0 rfl rfl 2 (by decide) (hts (.fieldLink RX4 68 "StampMaker" "made" "I") (by decide +kernel)) (fun _ h9 => h9) rfl dX4_make_83 ?_
  refine lv_iconst (v := (nI 1)) hx hb dX4_make_86 (by decide) ?_
  refine lv_iadd hx hb dX4_make_87 ?_
  refine lv_rei (x' := (nI (mn + 1))) (nI_1 _) ?_
  refine va_put (D := g.1) (ci := 5) (v := .int (nI (mn + 1))) (ty := .int) (C := RX4) (T := TX4) (N := 10) hx hb hts hiX4 tyX4 tyX4_ok nmX4 hown hK.1 hP hD hS 0 rfl rfl 2 (by decide) (hts (.fieldLink RX4 68 "StampMaker" "made" "I") (by decide +kernel)) (fun _ h9 => h9) rfl (by decide +kernel) rfl rfl (Nat.le_of_ble_eq_true rfl) dX4_make_88 (fun H locs hP hD hS => ?_)
  have hP : va_P g.1 vwCl [(s0, .inr (5, [.ref ks, .int (nI kn), .int (nI (mn + 1)), .ref lt, .ref ty, .int (nI tn), .int cc, .int sp, .ref lg, .ref dg])), (ks, .inl (g.2.1 4, 15, .inr (.inr (.inr (.inr fk))))), (dg, .inr (2, [.ref wa, .ref st, .int rk])), (wa, .inl (g.2.1 0, 64, .inl fw)), (st, .inl (g.2.1 0, 8, .inl fs)), (k, .inr (3, [.int fr, .int un, .ref kb, .int (nI nz), .int cl])), (kb, .inl (g.2.1 1, 32, .inl f)), (lt, .inl (g.2.1 0, 16, .inl fl))] H := hP
  have hD : va_D A [(s0, .inr (5, [.ref ks, .int (nI kn), .int (nI (mn + 1)), .ref lt, .ref ty, .int (nI tn), .int cc, .int sp, .ref lg, .ref dg])), (ks, .inl (g.2.1 4, 15, .inr (.inr (.inr (.inr fk))))), (dg, .inr (2, [.ref wa, .ref st, .int rk])), (wa, .inl (g.2.1 0, 64, .inl fw)), (st, .inl (g.2.1 0, 8, .inl fs)), (k, .inr (3, [.int fr, .int un, .ref kb, .int (nI nz), .int cl])), (kb, .inl (g.2.1 1, 32, .inl f)), (lt, .inl (g.2.1 0, 16, .inl fl))] := hD
  refine lv_aload hx hb dX4_make_91 (lv_at hl 1 rfl) ?_
  refine wVv (rest := []) ⟨hx, hb, hml, hown, hts⟩ [] [5] (c_X2_close l g H.size (k := k) (kb := kb) (fr := fr) (un := un) (cn := (nI nz)) (cl := cl)) (cwV 0 hts gX4_make_X2_close rfl rfl rfl (by decide +kernel) ⟨Nat.le_of_ble_eq_true rfl, Nat.le_of_ble_eq_true rfl⟩) hK hZ hS hP hD hA rfl (by decide) (fun _ => Nat.le_of_ble_eq_true rfl) (fun _ => rfl) (va_recv hK.1 hP (ci := 3) (q0 := 5) rfl rfl) rfl hl.1 rfl (Nat.le_of_ble_eq_true rfl) dX4_make_93 ⟨Nat.le_of_ble_eq_true rfl, Nat.le_of_ble_eq_true rfl⟩ (fun u H locs hr_112 hP hD hS => ?_)
  have hP : va_P g.1 vwCl [(s0, .inr (5, [.ref ks, .int (nI kn), .int (nI (mn + 1)), .ref lt, .ref ty, .int (nI tn), .int cc, .int sp, .ref lg, .ref dg])), (ks, .inl (g.2.1 4, 15, .inr (.inr (.inr (.inr fk))))), (dg, .inr (2, [.ref wa, .ref st, .int rk])), (wa, .inl (g.2.1 0, 64, .inl fw)), (st, .inl (g.2.1 0, 8, .inl fs)), (k, .inr (3, [.int fr, .int un, .ref kb, .int (nI nz), .int (nI 1)])), (kb, .inl (g.2.1 1, 32, .inl f)), (lt, .inl (g.2.1 0, 16, .inl fl))] H := hP
  have hD : va_D A [(s0, .inr (5, [.ref ks, .int (nI kn), .int (nI (mn + 1)), .ref lt, .ref ty, .int (nI tn), .int cc, .int sp, .ref lg, .ref dg])), (ks, .inl (g.2.1 4, 15, .inr (.inr (.inr (.inr fk))))), (dg, .inr (2, [.ref wa, .ref st, .int rk])), (wa, .inl (g.2.1 0, 64, .inl fw)), (st, .inl (g.2.1 0, 8, .inl fs)), (k, .inr (3, [.int fr, .int un, .ref kb, .int (nI nz), .int (nI 1)])), (kb, .inl (g.2.1 1, 32, .inl f)), (lt, .inl (g.2.1 0, 16, .inl fl))] := hD
  refine lv_aload_n hx hb dX4_make_96 rfl (lv_at hl 2 rfl) ?_
  refine va_get (D := g.1) (ci := 5) (v := .ref dg) (C := RX4) (T := TX4) (N := 10) hx hb hts hiX4 hown hK.1 hP 0 rfl rfl 9 (by decide) (hts (.fieldLink RX4 36 "StampMaker" "latestDigest" "LStampMaker$Digest;") (by decide +kernel)) (fun _ h9 => h9) rfl dX4_make_97 ?_
  refine lv_aload hx hb dX4_make_100 (lv_at hl 1 rfl) ?_
  refine lv_lload hx hb dX4_make_102 (lv_at hl 0 rfl) ?_
  refine wVv (rest := []) ⟨hx, hb, hml, hown, hts⟩ [.ref k, .long (lN (pkN i kd v d mn))] [2, 3, 4, 5, 6] (c_X0_reckon l g H.size (dg := dg) (wa := wa) (st := st) (rk := rk) (fw := fw) (fs := fs) (k := k) (kb := kb) (fr := fr) (un := un) (cl := (nI 1)) (f := f) (sz := nz) (N := (pkN i kd v d mn)) hz hN) (cwV 2 hts gX4_make_X0_reckon rfl rfl rfl (by decide +kernel) ⟨Nat.le_of_ble_eq_true rfl, Nat.le_of_ble_eq_true rfl⟩) hK hZ hS hP hD hA rfl (by decide) (fun _ => Nat.le_of_ble_eq_true rfl) (fun _ => rfl) (va_recv hK.1 hP (ci := 2) (q0 := 2) rfl rfl) rfl hl.1 rfl (Nat.le_of_ble_eq_true rfl) dX4_make_104 ⟨Nat.le_of_ble_eq_true rfl, Nat.le_of_ble_eq_true rfl⟩ (fun u H locs hz1 hP hD hS => ?_)
  obtain ⟨G, T⟩ := u
  have hP : va_P g.1 vwCl [(s0, .inr (5, [.ref ks, .int (nI kn), .int (nI (mn + 1)), .ref lt, .ref ty, .int (nI tn), .int cc, .int sp, .ref lg, .ref dg])), (ks, .inl (g.2.1 4, 15, .inr (.inr (.inr (.inr fk))))), (dg, .inr (2, [.ref wa, .ref st, .int (nI 1)])), (wa, .inl (g.2.1 0, 64, .inl ((G, T).1))), (st, .inl (g.2.1 0, 8, .inl ((G, T).2))), (k, .inr (3, [.int fr, .int un, .ref kb, .int (nI nz), .int (nI 1)])), (kb, .inl (g.2.1 1, 32, .inl f)), (lt, .inl (g.2.1 0, 16, .inl fl))] H := hP
  have hD : va_D A [(s0, .inr (5, [.ref ks, .int (nI kn), .int (nI (mn + 1)), .ref lt, .ref ty, .int (nI tn), .int cc, .int sp, .ref lg, .ref dg])), (ks, .inl (g.2.1 4, 15, .inr (.inr (.inr (.inr fk))))), (dg, .inr (2, [.ref wa, .ref st, .int (nI 1)])), (wa, .inl (g.2.1 0, 64, .inl ((G, T).1))), (st, .inl (g.2.1 0, 8, .inl ((G, T).2))), (k, .inr (3, [.int fr, .int un, .ref kb, .int (nI nz), .int (nI 1)])), (kb, .inl (g.2.1 1, 32, .inl f)), (lt, .inl (g.2.1 0, 16, .inl fl))] := hD
  have hz1 : ∀ j, j < 8 → T j = dG f nz (pkN i kd v d mn) j := hz1
  have hP : va_P g.1 vwCl [(s0, .inr (5, [.ref ks, .int (nI kn), .int (nI (mn + 1)), .ref lt, .ref ty, .int (nI tn), .int cc, .int sp, .ref lg, .ref dg])), (ks, .inl (g.2.1 4, 15, .inr (.inr (.inr (.inr fk))))), (dg, .inr (2, [.ref wa, .ref st, .int (nI 1)])), (wa, .inl (g.2.1 0, 64, .inl G)), (st, .inl (g.2.1 0, 8, .inl T)), (k, .inr (3, [.int fr, .int un, .ref kb, .int (nI nz), .int (nI 1)])), (kb, .inl (g.2.1 1, 32, .inl f)), (lt, .inl (g.2.1 0, 16, .inl fl))] H := hP
  have hD : va_D A [(s0, .inr (5, [.ref ks, .int (nI kn), .int (nI (mn + 1)), .ref lt, .ref ty, .int (nI tn), .int cc, .int sp, .ref lg, .ref dg])), (ks, .inl (g.2.1 4, 15, .inr (.inr (.inr (.inr fk))))), (dg, .inr (2, [.ref wa, .ref st, .int (nI 1)])), (wa, .inl (g.2.1 0, 64, .inl G)), (st, .inl (g.2.1 0, 8, .inl T)), (k, .inr (3, [.int fr, .int un, .ref kb, .int (nI nz), .int (nI 1)])), (kb, .inl (g.2.1 1, 32, .inl f)), (lt, .inl (g.2.1 0, 16, .inl fl))] := hD
  refine lv_aload_n hx hb dX4_make_107 rfl (lv_at hl 2 rfl) ?_
  refine lv_lload hx hb dX4_make_108 (lv_at hl 0 rfl) ?_
  refine lv_aload_n hx hb dX4_make_110 rfl (lv_at hl 2 rfl) ?_
  refine va_get (D := g.1) (ci := 5) (v := .ref dg) (C := RX4) (T := TX4) (N := 10) hx hb hts hiX4 hown hK.1 hP 0 rfl rfl 9 (by decide) (hts (.fieldLink RX4 36 "StampMaker" "latestDigest" "LStampMaker$Digest;") (by decide +kernel)) (fun _ h9 => h9) rfl dX4_make_111 ?_
  refine cVi (rest := [.long (lN (pkN i kd v d mn)), .ref s0]) ⟨hx, hb, hml, hown, hts⟩ [] (c_X0_firstBits l g (dg := dg) (wa := wa) (st := st) (rk := (nI 1)) (fs := T)) (cwV 0 hts gX4_make_X0_firstBits rfl rfl rfl (by decide +kernel) ⟨Nat.le_of_ble_eq_true rfl, Nat.le_of_ble_eq_true rfl⟩) hK hZ hS (subP hP [2, 4] rfl) (va_recv hK.1 hP (ci := 2) (q0 := 2) rfl rfl) rfl hl.1 rfl (Nat.le_of_ble_eq_true rfl) dX4_make_114 ⟨Nat.zero_le _, Nat.zero_le _⟩ (fun r_113 hr_113 => ?_)
  obtain rfl : r_113 = (fB (T 0)) := hr_113
  refine lv_rei (x' := (nI (sN f nz (pkN i kd v d mn)))) (by rw [hz1 0 (by decide), fB_n]; rfl) ?_
  refine wVv (rest := []) ⟨hx, hb, hml, hown, hts⟩ [.long (lN (pkN i kd v d mn)), .int (nI (sN f nz (pkN i kd v d mn)))] [0, 7] (c_X4_writeLetters l g H.size (s0 := s0) (ks := ks) (lt := lt) (ty := ty) (lg := lg) (dg := dg) (kn := kn) (mn := mn + 1) (tn := tn) (cc := cc) (sp := sp) (fl := fl) (N := (pkN i kd v d mn)) (S := (sN f nz (pkN i kd v d mn))) hN (sN_lt _ _ _)) (cwV 2 hts gX4_make_X4_writeLetters rfl rfl rfl (by decide +kernel) ⟨Nat.le_of_ble_eq_true rfl, Nat.le_of_ble_eq_true rfl⟩) hK hZ hS hP hD hA rfl (by decide) (fun _ => Nat.le_of_ble_eq_true rfl) (fun _ => rfl) (va_recv hK.1 hP (ci := 5) (q0 := 0) rfl rfl) rfl hl.1 rfl (Nat.le_of_ble_eq_true rfl) dX4_make_117 ⟨Nat.le_of_ble_eq_true rfl, Nat.le_of_ble_eq_true rfl⟩ (fun u H locs hz2 hP hD hS => ?_)
  obtain ⟨F2, rfl⟩ : ∃ z, z = u := ⟨_, rfl⟩
  have hP : va_P g.1 vwCl [(s0, .inr (5, [.ref ks, .int (nI kn), .int (nI (mn + 1)), .ref lt, .ref ty, .int (nI tn), .int cc, .int sp, .ref lg, .ref dg])), (ks, .inl (g.2.1 4, 15, .inr (.inr (.inr (.inr fk))))), (dg, .inr (2, [.ref wa, .ref st, .int (nI 1)])), (wa, .inl (g.2.1 0, 64, .inl G)), (st, .inl (g.2.1 0, 8, .inl T)), (k, .inr (3, [.int fr, .int un, .ref kb, .int (nI nz), .int (nI 1)])), (kb, .inl (g.2.1 1, 32, .inl f)), (lt, .inl (g.2.1 0, 16, .inl F2))] H := hP
  have hD : va_D A [(s0, .inr (5, [.ref ks, .int (nI kn), .int (nI (mn + 1)), .ref lt, .ref ty, .int (nI tn), .int cc, .int sp, .ref lg, .ref dg])), (ks, .inl (g.2.1 4, 15, .inr (.inr (.inr (.inr fk))))), (dg, .inr (2, [.ref wa, .ref st, .int (nI 1)])), (wa, .inl (g.2.1 0, 64, .inl G)), (st, .inl (g.2.1 0, 8, .inl T)), (k, .inr (3, [.int fr, .int un, .ref kb, .int (nI nz), .int (nI 1)])), (kb, .inl (g.2.1 1, 32, .inl f)), (lt, .inl (g.2.1 0, 16, .inl F2))] := hD
  refine lv_bipush (v := (nI 16)) hx hb dX4_make_120 (by decide) ?_
  exact endWi (G, T, F2) hx hb hr hlocks hS dX4_make_122 hP hD (⟨rfl, hz1, hz2⟩)
end
