/-! digest: the class throws where there is no byte to tell; the law catches it -/
abbrev nmA : List String := ["java/lang/IndexOutOfBoundsException", "java/lang/RuntimeException", "java/lang/Exception"]
abbrev atA : List Cond := vx_at0 RX4 137 RJx00060 nmA
/-- the words of the throw beside the method's own -/
def wqX4_digest : List Cond := wsX4_digest ++ atA.filter goodWord
def wqL_digest : List Cond := wsL_digest ++ atA.filter goodWord
set_option maxRecDepth 20000 in
theorem atA_tbl : ∀ w ∈ atA.filter goodWord, w ∈ lw_tbl := by decide +kernel
/-- the words that speak of the tables alone, but are none of goodWord -/
def bdX : List Cond := [.castable RJx00060 RJx00060, .declares ⟨"java/lang/IndexOutOfBoundsException", "<init>", "()V"⟩, .declares ⟨"java/lang/RuntimeException", "<init>", "()V"⟩, .declares ⟨"java/lang/Exception", "<init>", "()V"⟩, .declares ⟨"java/lang/Throwable", "<init>", "()V"⟩]
set_option maxRecDepth 20000 in
theorem bdX_ok : ∀ w ∈ atA.filter (fun w => !goodWord w), w ∈ bdX := by decide +kernel
set_option maxRecDepth 20000 in
theorem bdX_tbl : ∀ w ∈ bdX, w ∈ lw_tbl := by decide +kernel
theorem bdX_on : ∀ w ∈ bdX, w.onTables = true := by decide +kernel
theorem bdX_face : ∀ w ∈ bdX, w.faceAtom = true := by decide +kernel
def gX (U : State) : Prop := ∀ w ∈ bdX, w.before #[] U = true
theorem gX.of {args : Array Value} {s : State} (h : ∀ w ∈ lw_tbl, w.before args s = true) : gX s := fun w hw => va_tabs (bdX_on w hw) rfl (h w (bdX_tbl w hw))
theorem gX.moved {s U : State} (ha : s.vm.Alike U.vm) (h : gX s) : gX U := fun w hw => va_tabs (u := s.setVm U.vm) (bdX_on w hw) rfl (Cond.faceAtom_setVm ha w (bdX_face w hw) (h w hw))
theorem gX.at {args : Array Value} {s : State} (h : gX s) : ∀ w ∈ bdX, w.before args s = true := fun w hw => va_tabs (bdX_on w hw) rfl (h w hw)
theorem goodIn_l {a b c : List Cond} (h : GoodIn a c) : GoodIn (a ++ b) c := fun w hw => ⟨List.mem_append_left _ (h w hw).1, (h w hw).2⟩
theorem goodIn_flt {a b : List Cond} : GoodIn (a ++ b.filter goodWord) (b.filter goodWord) := fun w hw => ⟨List.mem_append_right _ hw, good_of_word (List.mem_filter.mp hw).2⟩
theorem gqX4_digest_X0_isReckoned : GoodIn wqX4_digest (wsV RX4 131 RX0 yX0_isReckoned wsX0_isReckoned) := goodIn_l gX4_digest_X0_isReckoned
theorem gqL_digest_X4_digest : GoodIn wqL_digest (wsV RL 7 RX4 yX4_digest wqX4_digest) := by
  intro w hw
  unfold wsV wqX4_digest at hw
  simp only [List.mem_append] at hw
  have h0 : GoodIn wqL_digest (wsV RL 7 RX4 yX4_digest wsX4_digest) := goodIn_l gL_digest_X4_digest
  rcases hw with h | h | h
  · exact h0 w (by unfold wsV; simp only [List.mem_append]; exact Or.inl h)
  · exact h0 w (by unfold wsV; simp only [List.mem_append]; exact Or.inr h)
  · exact goodIn_flt w h
theorem gqL_law_L_digest : GoodIn lw_tbl (va_wsS RL 59 yL_digest wqL_digest) := by
  intro w hw
  unfold va_wsS wqL_digest at hw
  simp only [List.mem_append] at hw
  have h0 : ∀ w ∈ va_wsS RL 59 yL_digest wsL_digest, w ∈ lw_tbl ∧ _ := fun w h => ⟨wsL_law_in w (gL_law_L_digest w h).1, (gL_law_L_digest w h).2⟩
  rcases hw with h | h | h
  · exact h0 w (by unfold va_wsS; simp only [List.mem_append]; exact Or.inl h)
  · exact h0 w (by unfold va_wsS; simp only [List.mem_append]; exact Or.inr h)
  · exact ⟨atA_tbl w h, good_of_word (List.mem_filter.mp h).2⟩
section RXB
variable {l : Launch} {y : MethodName} {ws ws' : List Cond} {rm : Room} {cc : ByteArray} {maxL mc ms sz : Nat} {ret : Option FieldType} {g : gE} {av : List Value} {wc : va_W} {Qc : Array Value → State → Outcome → State → Prop} {XC : String → State → State → Prop} {free : Nat → Prop} {hh : List (Nat × Nat × Nat × Nat)}
/-- a reading contract's beginning, of a method that may throw -/
theorem ofRx (hy : plainName y.cls = true) (hw : ws = Cond.code y cc maxL ret :: ws') (hn : (lg_sl av).length ≤ maxL)
    (body : ∀ (p : Program) (e : Env) (s : State) (m : MethodId) (below : List Frame) (meth : Method) (c : Code), p.tables.exec = Jvm.exec → c.code = cc → meth.sig.returnType = ret → c.maxLocals = maxL → (∀ w ∈ ws, w.before av.toArray s = true) → s.vm.findClass y.cls = some m.cls → meth.locks = false → (∀ x ∈ c.exceptionTable.toList, False) → va_P g.1 vwCl wc s.heap → gK g s → gZ g nA s s.heap → gX s → va_S nA s.heap s.heap [] → ∀ ls : Array Slot, lv_has ls maxL (lv_args 0 av) →
      W p l e (headSpec ws rm).room s m av.toArray below meth c s.heap [] 0 0 (vx_MQ below Qc XC av.toArray s mc ms free) (F0 m 0 ls [])) : vx_Met l y ws rm (va_Pc av (fun U => ro g wc U ∧ gX U)) Qc XC mc ms free := by
  refine vx_ofW (cc := cc) (maxL := maxL) (ret := ret) hy hw ?_
  intro p e s m args below meth c s₁ B hml htab hv
  obtain ⟨rfl, ⟨hP, hK, hZ⟩, hX⟩ := hv
  rw [lg_entry_eq]
  exact body p e s m below meth c B.exec B.bytes B.returns hml (atoms_spec (ws := ws) B.pre) (findClass_of_methodNamed B.named) B.notSynchronized htab hP hK hZ hX va_S.rf _ (lv_entry av hn)
/-- no throw is left -/
theorem met_of_vx {Pc : Array Value → State → Prop} (h : vx_Met l y ws rm Pc Qc (fun _ _ _ => False) mc ms free) : Met l y ws rm Pc Qc mc ms free := by
  intro p e ha hc hk s m args below hf happ hP hK
  obtain ⟨n, o, h1, h2, h3, h4⟩ := h p e ha hc hk s m args below hf happ hP hK
  refine ⟨n, o, h1, h2, h3, ?_⟩
  rcases h4 with h4 | ⟨q, -, E, ce, L, hx, -⟩
  · exact h4
  · exact hx.elim
/-- a writing contract's beginning, of a method with handlers, that answers an int -/
theorem ofWHi {T : Type} {post : Int32 → T → Prop} {w1 : T → va_W} (hy : plainName y.cls = true) (hw : ws = Cond.codeWith y cc maxL ret hh :: ws') (hn : (lg_sl av).length ≤ maxL)
    (body : ∀ (p : Program) (e : Env) (s : State) (m : MethodId) (below : List Frame) (meth : Method) (c : Code), p.tables.exec = Jvm.exec → c.code = cc → meth.sig.returnType = ret → c.maxLocals = maxL → (∀ w ∈ ws, w.before av.toArray s = true) → s.vm.findClass y.cls = some m.cls → meth.locks = false → c.exceptionTable.toList = tableOf hh → ∀ (A : Nat → Prop) (H : Heap), H = s.heap → (∀ q, s.heap.size ≤ q → A q) → va_P g.1 vwCl wc H → va_D A wc → gK g s → gZ g A s s.heap → gX s → va_S A s.heap H [] → ∀ ls : Array Slot, lv_has ls maxL (lv_args 0 av) →
      W p l e (headSpec ws rm).room s m av.toArray below meth c H [] 0 0 (MQ below (va_Qi post (wB g A w1) A) av.toArray s mc ms A) (F0 m 0 ls [])) : Met l y ws rm (va_Pc av (fun U => wr g wc sz U ∧ gX U)) (va_Qi post (wB g (va_A wc sz) w1) (va_A wc sz)) mc ms (va_A wc sz) := by
  refine met_of_vx (vx_ofWH (cc := cc) (maxL := maxL) (ret := ret) (hh := hh) hy hw ?_)
  intro p e s m args below meth c s₁ B hml hv
  obtain ⟨rfl, ⟨rfl, hP, hK, hD, hZ⟩, hX⟩ := hv
  have hts := atoms_spec (ws := ws) B.pre
  have htab := vx_table (x := y) B (hts _ (by rw [hw]; exact List.mem_cons_self))
  rw [lg_entry_eq]
  exact vx_ret (body p e s m below meth c B.exec B.bytes B.returns hml hts (findClass_of_methodNamed B.named) B.notSynchronized htab (va_A wc s.heap.size) s.heap rfl (fun _ h => Or.inr h) hP (hD.self) hK hZ hX va_S.rf _ (lv_entry av hn))
end RXB
theorem rx_blind {g : gE} {ws : va_W} (av : List Value) : FrameBlind (va_Pc av (fun U => ro g ws U ∧ gX U)) := fun a U f mk q => by
  obtain ⟨q0, ⟨qP, qK, qZ⟩, qX⟩ := q
  exact ⟨q0, ⟨qP, gK.same (u := U) (U := U.calling f mk a) rfl qK, gZ.moved (u := U) (U := U.calling f mk a) (Vm.Alike.refl U.vm) qZ⟩, gX.moved (s := U) (U := U.calling f mk a) (Vm.Alike.refl U.vm) qX⟩
theorem wx_blind {g : gE} {ws : va_W} {sz : Nat} (av : List Value) : FrameBlind (va_Pc av (fun U => wr g ws sz U ∧ gX U)) := fun a U f mk q => by
  obtain ⟨q0, ⟨q1, qP, qK, qD, qZ⟩, qX⟩ := q
  exact ⟨q0, ⟨q1, qP, gK.same (u := U) (U := U.calling f mk a) rfl qK, qD, gZ.moved (u := U) (U := U.calling f mk a) (Vm.Alike.refl U.vm) qZ⟩, gX.moved (s := U) (U := U.calling f mk a) (Vm.Alike.refl U.vm) qX⟩
theorem keptP {D : va_G} {cl : List vw_C} {ws : va_W} {H H1 : Heap} (hP : va_P D cl ws H) (hk : ∀ q : Nat, q < H.size → ¬ nA q → H1[q]? = H[q]?) : va_P D cl ws H1 := fun k q hq => (hP k q hq).kept (hk q.1 (hP k q hq).lt (fun h => h))
set_option maxHeartbeats 4000000 in
set_option maxRecDepth 100000 in
/-- byte i of the latest digest -/
theorem c_X4_digest_ok (l : Launch) (g : gE) (s0 ks lt ty lg dg kn mn tn : Nat) (cc sp : Int32) (wa st : Nat) (rk : Int32) (fs : Nat → Int32) (i : Nat) (hi : i < 32) (hrk : rk = 1) : Met l yX4_digest wsX4_digest ({ frames := 1, cells := 0, slots := 0, locals := 21 }) (va_Pc [.ref s0, .int (nI i)] (ro g [(s0, .inr (5, [.ref ks, .int (nI kn), .int (nI mn), .ref lt, .ref ty, .int (nI tn), .int cc, .int sp, .ref lg, .ref dg])), (dg, .inr (2, [.ref wa, .ref st, .int rk])), (st, .inl (g.2.1 0, 8, .inl fs))])) (vp_Si (fun r : Int32 => r = (oB (fs (i / 4)) (24 - 8 * (i % 4))))) 0 0 nA := by
  refine ofRo (cc := cX4_digest) (maxL := 2) (ret := (some .byte)) (by decide) rfl (Nat.le_of_ble_eq_true rfl) (fun p e s m below meth c hx hb hr hml hts hown hlocks hnm hP hK hZ hS ls hl => ?_)
  have hown : s.vm.findClass RX4 = some m.cls := hown
  have hl : lv_has ls 2 [(0, .ref s0), (1, .int (nI i))] := hl
  have hiJx00060 : ∀ w ∈ wsJx000600, w ∈ wsX4_digest := by decide +kernel
  have hiX4 : ∀ w ∈ wsX40, w ∈ wsX4_digest := by decide +kernel
  refine lv_aload_n hx hb dX4_digest_0 rfl (lv_at hl 0 rfl) ?_
  refine va_get (D := g.1) (ci := 5) (v := .ref dg) (C := RX4) (T := TX4) (N := 10) hx hb hts hiX4 hown hK.1 hP 0 rfl rfl 9 (by decide) (hts (.fieldLink RX4 36 "StampMaker" "latestDigest" "LStampMaker$Digest;") (by decide +kernel)) (fun _ h9 => h9) rfl dX4_digest_1 ?_
  refine cVi (rest := []) ⟨hx, hb, hml, hown, hts⟩ [] (c_X0_isReckoned l g (dg := dg) (wa := wa) (st := st) (rk := rk) (Or.inr hrk)) (cwV 0 hts gX4_digest_X0_isReckoned rfl rfl rfl (by decide +kernel) ⟨Nat.le_of_ble_eq_true rfl, Nat.le_of_ble_eq_true rfl⟩) hK hZ hS (subP hP [1] rfl) (va_recv hK.1 hP (ci := 2) (q0 := 1) rfl rfl) rfl hl.1 rfl (Nat.le_of_ble_eq_true rfl) dX4_digest_4 ⟨Nat.zero_le _, Nat.zero_le _⟩ (fun r_253 hr_253 => ?_)
  refine lv_rei (x' := rk) (hr_253) ?_
  refine lv_if_eq (tgt := 20) hx hb dX4_digest_7 (by decide) (fun c9 => absurd c9 (by rw [hrk]; decide)) (fun _ => ?_)
  refine lv_iload_n hx hb dX4_digest_10 rfl (lv_at hl 1 rfl) ?_
  refine lv_if_lt (tgt := 20) hx hb dX4_digest_11 (by decide) (fun c9 => absurd c9 (nI_pos (by omega))) (fun _ => ?_)
  refine lv_iload_n hx hb dX4_digest_14 rfl (lv_at hl 1 rfl) ?_
  refine lv_bipush (v := (nI 32)) hx hb dX4_digest_15 (by decide) ?_
  refine lv_icmp_lt (tgt := 28) hx hb dX4_digest_17 (by decide) (fun _ => ?_) (fun c9 => absurd (nI_lt hi (by omega)) c9)
  refine lv_aload_n hx hb dX4_digest_28 rfl (lv_at hl 0 rfl) ?_
  refine va_get (D := g.1) (ci := 5) (v := .ref dg) (C := RX4) (T := TX4) (N := 10) hx hb hts hiX4 hown hK.1 hP 0 rfl rfl 9 (by decide) (hts (.fieldLink RX4 36 "StampMaker" "latestDigest" "LStampMaker$Digest;") (by decide +kernel)) (fun _ h9 => h9) rfl dX4_digest_29 ?_
  refine lv_iload_n hx hb dX4_digest_32 rfl (lv_at hl 1 rfl) ?_
  refine cVi (rest := []) ⟨hx, hb, hml, hown, hts⟩ [.int (nI i)] (c_X0_octetAt l g (dg := dg) (wa := wa) (st := st) (rk := rk) (fs := fs) (i := i) hi) (cwV 1 hts gX4_digest_X0_octetAt rfl rfl rfl (by decide +kernel) ⟨Nat.le_of_ble_eq_true rfl, Nat.le_of_ble_eq_true rfl⟩) hK hZ hS (subP hP [1, 2] rfl) (va_recv hK.1 hP (ci := 2) (q0 := 1) rfl rfl) rfl hl.1 rfl (Nat.le_of_ble_eq_true rfl) dX4_digest_33 ⟨Nat.zero_le _, Nat.zero_le _⟩ (fun r_254 hr_254 => ?_)
  obtain rfl : r_254 = (oB (fs (i / 4)) (24 - 8 * (i % 4))) := hr_254
  exact endRz hx hb hr hlocks dX4_digest_36 (pk_nb _) (rfl)

set_option maxHeartbeats 4000000 in
set_option maxRecDepth 100000 in
/-- no byte to tell: it throws -/
theorem c_X4_digest_no (l : Launch) (g : gE) (s0 ks lt ty lg dg kn mn tn : Nat) (cc sp : Int32) (wa st : Nat) (rk : Int32) (x : Int32) (hfl : l.stackTraces = false) (hrk : rk = 0 ∨ rk = 1) (hno : ¬ (rk = 1 ∧ 0 ≤ x.toInt ∧ x.toInt < 32)) : vx_Met l yX4_digest wqX4_digest ({ frames := 7, cells := 1, slots := 6, locals := 94 }) (va_Pc [.ref s0, .int x] (fun U => ro g [(s0, .inr (5, [.ref ks, .int (nI kn), .int (nI mn), .ref lt, .ref ty, .int (nI tn), .int cc, .int sp, .ref lg, .ref dg])), (dg, .inr (2, [.ref wa, .ref st, .int rk]))] U ∧ gX U)) (va_Qi (fun (_ : Int32) (_ : Unit) => False) (fun _ _ => True) nA) (vx_X (fun _ : Unit => True) (fun E _ _ => E = RJx00060) nA) 1 6 nA := by
  refine ofRx (cc := cX4_digest) (maxL := 2) (ret := (some .byte)) (by decide) rfl (Nat.le_of_ble_eq_true rfl) (fun p e s m below meth c hx hb hr hml hts hown hlocks htab hP hK hZ hX hS ls hl => ?_)
  have hown : s.vm.findClass RX4 = some m.cls := hown
  have hl : lv_has ls 2 [(0, .ref s0), (1, .int x)] := hl
  have hiX4 : ∀ w ∈ wsX40, w ∈ wqX4_digest := by decide +kernel
  have tn32 : (nI 32).toInt = 32 := by decide
  refine lv_aload_n hx hb dX4_digest_0 rfl (lv_at hl 0 rfl) ?_
  refine va_get (D := g.1) (ci := 5) (v := .ref dg) (C := RX4) (T := TX4) (N := 10) hx hb hts hiX4 hown hK.1 hP 0 rfl rfl 9 (by decide) (hts (.fieldLink RX4 36 "StampMaker" "latestDigest" "LStampMaker$Digest;") (by decide +kernel)) (fun _ h9 => h9) rfl dX4_digest_1 ?_
  refine cVi (rest := []) ⟨hx, hb, hml, hown, hts⟩ [] (c_X0_isReckoned l g (dg := dg) (wa := wa) (st := st) (rk := rk) hrk) (cwV 0 hts gqX4_digest_X0_isReckoned rfl rfl rfl (by decide +kernel) ⟨Nat.le_of_ble_eq_true rfl, Nat.le_of_ble_eq_true rfl⟩) hK hZ hS (subP hP [1] rfl) (va_recv hK.1 hP (ci := 2) (q0 := 1) rfl rfl) rfl hl.1 rfl (Nat.le_of_ble_eq_true rfl) dX4_digest_4 ⟨Nat.zero_le _, Nat.zero_le _⟩ (fun r_255 hr_255 => ?_)
  refine lv_rei (x' := rk) (hr_255) ?_
  refine lv_if_eq (tgt := 20) hx hb dX4_digest_7 (by decide) (fun c_256 => ?_) (fun c_256 => ?_)
  · exact vx_throw0 hx hb hfl (own := RX4) (cls := RJx00060) (names := nmA) (ik := 135) (ic := 137) (A := nA) hown (by decide +kernel) (by decide +kernel) (hts (.classLink RX4 135 RJx00060) (by decide +kernel)) (hts (.initialized RJx00060) (by decide +kernel)) (vx_hat (B := bdX) (fun w hw => hts w (List.mem_append_right _ hw)) bdX_ok hX.at) (by decide +kernel) hZ.2.2.2.2.2.2.2.1 hZ.2.2.2.2.2.2.2.2 hS (by rw [hml]; exact hl.1) dX4_digest_20 dX4_digest_23 dX4_digest_24 dX4_digest_27 (fun z hz => (htab z hz).elim) (by decide) (Nat.le_of_ble_eq_true rfl) (Nat.le_of_ble_eq_true rfl) (Nat.le_of_ble_eq_true rfl) hlocks (fun t _ h1 h2 => ⟨(), trivial, rfl, h1, fun q h3 _ => h2 q h3⟩) (fun _ h => nomatch h) (Nat.le_of_ble_eq_true rfl) (Nat.le_of_ble_eq_true rfl)
  · have hr1 : rk = 1 := by rcases hrk with h | h; exact absurd h c_256; exact h
    refine lv_iload_n hx hb dX4_digest_10 rfl (lv_at hl 1 rfl) ?_
    refine lv_if_lt (tgt := 20) hx hb dX4_digest_11 (by decide) (fun c_257 => ?_) (fun c_257 => ?_)
    · exact vx_throw0 hx hb hfl (own := RX4) (cls := RJx00060) (names := nmA) (ik := 135) (ic := 137) (A := nA) hown (by decide +kernel) (by decide +kernel) (hts (.classLink RX4 135 RJx00060) (by decide +kernel)) (hts (.initialized RJx00060) (by decide +kernel)) (vx_hat (B := bdX) (fun w hw => hts w (List.mem_append_right _ hw)) bdX_ok hX.at) (by decide +kernel) hZ.2.2.2.2.2.2.2.1 hZ.2.2.2.2.2.2.2.2 hS (by rw [hml]; exact hl.1) dX4_digest_20 dX4_digest_23 dX4_digest_24 dX4_digest_27 (fun z hz => (htab z hz).elim) (by decide) (Nat.le_of_ble_eq_true rfl) (Nat.le_of_ble_eq_true rfl) (Nat.le_of_ble_eq_true rfl) hlocks (fun t _ h1 h2 => ⟨(), trivial, rfl, h1, fun q h3 _ => h2 q h3⟩) (fun _ h => nomatch h) (Nat.le_of_ble_eq_true rfl) (Nat.le_of_ble_eq_true rfl)
    · refine lv_iload_n hx hb dX4_digest_14 rfl (lv_at hl 1 rfl) ?_
      refine lv_bipush (v := (nI 32)) hx hb dX4_digest_15 (by decide) ?_
      refine lv_icmp_lt (tgt := 28) hx hb dX4_digest_17 (by decide) (fun c_258 => ?_) (fun c_258 => ?_)
      · exact absurd ⟨hr1, by simp only [ti_lt, ti_le, ti_0, tn32] at c_257 c_258; omega, by simp only [ti_lt, ti_le, ti_0, tn32] at c_257 c_258; omega⟩ hno
      · exact vx_throw0 hx hb hfl (own := RX4) (cls := RJx00060) (names := nmA) (ik := 135) (ic := 137) (A := nA) hown (by decide +kernel) (by decide +kernel) (hts (.classLink RX4 135 RJx00060) (by decide +kernel)) (hts (.initialized RJx00060) (by decide +kernel)) (vx_hat (B := bdX) (fun w hw => hts w (List.mem_append_right _ hw)) bdX_ok hX.at) (by decide +kernel) hZ.2.2.2.2.2.2.2.1 hZ.2.2.2.2.2.2.2.2 hS (by rw [hml]; exact hl.1) dX4_digest_20 dX4_digest_23 dX4_digest_24 dX4_digest_27 (fun z hz => (htab z hz).elim) (by decide) (Nat.le_of_ble_eq_true rfl) (Nat.le_of_ble_eq_true rfl) (Nat.le_of_ble_eq_true rfl) hlocks (fun t _ h1 h2 => ⟨(), trivial, rfl, h1, fun q h3 _ => h2 q h3⟩) (fun _ h => nomatch h) (Nat.le_of_ble_eq_true rfl) (Nat.le_of_ble_eq_true rfl)

set_option maxHeartbeats 4000000 in
set_option maxRecDepth 100000 in
/-- the law asks: a byte -/
theorem c_L_digest_ok (l : Launch) (g : gE) (hsz : Nat) (s0 ks lt ty lg dg kn mn tn : Nat) (cc sp : Int32) (wa st : Nat) (rk : Int32) (fs : Nat → Int32) (i ao : Nat) (fo : Nat → Int64) (hi : i < 32) (hrk : rk = 1) : Met l yL_digest wsL_digest ({ frames := 2, cells := 0, slots := 0, locals := 42 }) (va_Pc [.ref s0, .int (nI i), .ref ao] (fun U => wr g [(s0, .inr (5, [.ref ks, .int (nI kn), .int (nI mn), .ref lt, .ref ty, .int (nI tn), .int cc, .int sp, .ref lg, .ref dg])), (dg, .inr (2, [.ref wa, .ref st, .int rk])), (st, .inl (g.2.1 0, 8, .inl fs)), (ao, .inl (g.2.1 3, 1, .inr (.inl fo)))] hsz U ∧ gX U)) (va_Qi (fun (r : Int32) (u : Unit) => r = nI 0) (wB g (va_A [(s0, .inr (5, [.ref ks, .int (nI kn), .int (nI mn), .ref lt, .ref ty, .int (nI tn), .int cc, .int sp, .ref lg, .ref dg])), (dg, .inr (2, [.ref wa, .ref st, .int rk])), (st, .inl (g.2.1 0, 8, .inl fs)), (ao, .inl (g.2.1 3, 1, .inr (.inl fo)))] hsz) (fun u : Unit => [(s0, .inr (5, [.ref ks, .int (nI kn), .int (nI mn), .ref lt, .ref ty, .int (nI tn), .int cc, .int sp, .ref lg, .ref dg])), (dg, .inr (2, [.ref wa, .ref st, .int rk])), (st, .inl (g.2.1 0, 8, .inl fs)), (ao, .inl (g.2.1 3, 1, .inr (.inl (vp_updL fo 0 ((oB (fs (i / 4)) (24 - 8 * (i % 4))).toInt64)))))])) (va_A [(s0, .inr (5, [.ref ks, .int (nI kn), .int (nI mn), .ref lt, .ref ty, .int (nI tn), .int cc, .int sp, .ref lg, .ref dg])), (dg, .inr (2, [.ref wa, .ref st, .int rk])), (st, .inl (g.2.1 0, 8, .inl fs)), (ao, .inl (g.2.1 3, 1, .inr (.inl fo)))] hsz)) 0 0 (va_A [(s0, .inr (5, [.ref ks, .int (nI kn), .int (nI mn), .ref lt, .ref ty, .int (nI tn), .int cc, .int sp, .ref lg, .ref dg])), (dg, .inr (2, [.ref wa, .ref st, .int rk])), (st, .inl (g.2.1 0, 8, .inl fs)), (ao, .inl (g.2.1 3, 1, .inr (.inl fo)))] hsz) := by
  refine ofWHi (cc := cL_digest) (maxL := 4) (ret := (some .int)) (hh := [(0, 9, 12, 13)]) (by decide) rfl (Nat.le_of_ble_eq_true rfl) (fun p e s m below meth c hx hb hr hml hts hown hlocks htab A H hH hA hP hD hK hZ hX hS ls hl => ?_)
  have hown : s.vm.findClass RL = some m.cls := hown
  have hl : lv_has ls 4 [(0, .ref s0), (1, .int (nI i)), (2, .ref ao)] := hl
  refine lv_aload_n hx hb dL_digest_0 rfl (lv_at hl 2 rfl) ?_
  refine lv_iconst (v := (nI 0)) hx hb dL_digest_1 (by decide) ?_
  refine lv_aload_n hx hb dL_digest_2 rfl (lv_at hl 0 rfl) ?_
  refine lv_iload_n hx hb dL_digest_3 rfl (lv_at hl 1 rfl) ?_
  refine cVi (rest := [.int (nI 0), .ref ao]) ⟨hx, hb, hml, hown, hts⟩ [.int (nI i)] (c_X4_digest_ok l g (s0 := s0) (ks := ks) (lt := lt) (ty := ty) (lg := lg) (dg := dg) (kn := kn) (mn := mn) (tn := tn) (cc := cc) (sp := sp) (wa := wa) (st := st) (rk := rk) (fs := fs) (i := i) hi hrk) (cwV 1 hts gL_digest_X4_digest rfl rfl rfl (by decide +kernel) ⟨Nat.le_of_ble_eq_true rfl, Nat.le_of_ble_eq_true rfl⟩) hK hZ hS (subP hP [0, 1, 2] rfl) (va_recv hK.1 hP (ci := 5) (q0 := 0) rfl rfl) rfl hl.1 rfl (Nat.le_of_ble_eq_true rfl) dL_digest_4 ⟨Nat.zero_le _, Nat.zero_le _⟩ (fun r_259 hr_259 => ?_)
  obtain rfl : r_259 = (oB (fs (i / 4)) (24 - 8 * (i % 4))) := hr_259
  refine lv_i2l hx hb dL_digest_7 rfl ?_
  refine va_last hx hb hK.1 hP hD hS 3 3 rfl rfl (vp_in_nI (by omega) (by omega)) dL_digest_8 (fun H locs hP hD hS => ?_)
  rw [nI_clamp (by omega)] at hP hD
  have hP : va_P g.1 vwCl [(s0, .inr (5, [.ref ks, .int (nI kn), .int (nI mn), .ref lt, .ref ty, .int (nI tn), .int cc, .int sp, .ref lg, .ref dg])), (dg, .inr (2, [.ref wa, .ref st, .int rk])), (st, .inl (g.2.1 0, 8, .inl fs)), (ao, .inl (g.2.1 3, 1, .inr (.inl (vp_updL fo 0 (((oB (fs (i / 4)) (24 - 8 * (i % 4)))).toInt64)))))] H := hP
  have hD : va_D A [(s0, .inr (5, [.ref ks, .int (nI kn), .int (nI mn), .ref lt, .ref ty, .int (nI tn), .int cc, .int sp, .ref lg, .ref dg])), (dg, .inr (2, [.ref wa, .ref st, .int rk])), (st, .inl (g.2.1 0, 8, .inl fs)), (ao, .inl (g.2.1 3, 1, .inr (.inl (vp_updL fo 0 (((oB (fs (i / 4)) (24 - 8 * (i % 4)))).toInt64)))))] := hD
  refine lv_goto (tgt := 15) hx hb dL_digest_9 (by decide) ?_
  refine lv_iconst (v := (nI 0)) hx hb dL_digest_15 (by decide) ?_
  exact endWi () hx hb hr hlocks hS dL_digest_16 hP hD (rfl)

set_option maxHeartbeats 4000000 in
set_option maxRecDepth 100000 in
/-- the law asks: there is none -/
theorem c_L_digest_no (l : Launch) (g : gE) (hsz : Nat) (s0 ks lt ty lg dg kn mn tn : Nat) (cc sp : Int32) (wa st : Nat) (rk : Int32) (x : Int32) (ao : Nat) (hfl : l.stackTraces = false) (hrk : rk = 0 ∨ rk = 1) (hno : ¬ (rk = 1 ∧ 0 ≤ x.toInt ∧ x.toInt < 32)) : Met l yL_digest wqL_digest ({ frames := 8, cells := 1, slots := 6, locals := 115 }) (va_Pc [.ref s0, .int x, .ref ao] (fun U => wr g [(s0, .inr (5, [.ref ks, .int (nI kn), .int (nI mn), .ref lt, .ref ty, .int (nI tn), .int cc, .int sp, .ref lg, .ref dg])), (dg, .inr (2, [.ref wa, .ref st, .int rk]))] hsz U ∧ gX U)) (va_Qi (fun (r : Int32) (u : Unit) => r = nI 1) (wB g (va_A [(s0, .inr (5, [.ref ks, .int (nI kn), .int (nI mn), .ref lt, .ref ty, .int (nI tn), .int cc, .int sp, .ref lg, .ref dg])), (dg, .inr (2, [.ref wa, .ref st, .int rk]))] hsz) (fun u : Unit => [(s0, .inr (5, [.ref ks, .int (nI kn), .int (nI mn), .ref lt, .ref ty, .int (nI tn), .int cc, .int sp, .ref lg, .ref dg])), (dg, .inr (2, [.ref wa, .ref st, .int rk]))])) (va_A [(s0, .inr (5, [.ref ks, .int (nI kn), .int (nI mn), .ref lt, .ref ty, .int (nI tn), .int cc, .int sp, .ref lg, .ref dg])), (dg, .inr (2, [.ref wa, .ref st, .int rk]))] hsz)) 1 6 (va_A [(s0, .inr (5, [.ref ks, .int (nI kn), .int (nI mn), .ref lt, .ref ty, .int (nI tn), .int cc, .int sp, .ref lg, .ref dg])), (dg, .inr (2, [.ref wa, .ref st, .int rk]))] hsz) := by
  refine ofWHi (cc := cL_digest) (maxL := 4) (ret := (some .int)) (hh := [(0, 9, 12, 13)]) (by decide) rfl (Nat.le_of_ble_eq_true rfl) (fun p e s m below meth c hx hb hr hml hts hown hlocks htab A H hH hA hP hD hK hZ hX hS ls hl => ?_)
  have hown : s.vm.findClass RL = some m.cls := hown
  have hl : lv_has ls 4 [(0, .ref s0), (1, .int x), (2, .ref ao)] := hl
  refine lv_aload_n hx hb dL_digest_0 rfl (lv_at hl 2 rfl) ?_
  refine lv_iconst (v := (nI 0)) hx hb dL_digest_1 (by decide) ?_
  refine lv_aload_n hx hb dL_digest_2 rfl (lv_at hl 0 rfl) ?_
  refine lv_iload_n hx hb dL_digest_3 rfl (lv_at hl 1 rfl) ?_
  refine vx_calli (vx_runV (g := F0 m 4 ls _) (rest := [.int (nI 0), .ref ao]) (As := [.int x]) ⟨hx, hb, hml, hown, hts⟩ (c_X4_digest_no l g (s0 := s0) (ks := ks) (lt := lt) (ty := ty) (lg := lg) (dg := dg) (kn := kn) (mn := mn) (tn := tn) (cc := cc) (sp := sp) (wa := wa) (st := st) (rk := rk) (x := x) hfl hrk hno) (cwV 1 hts gqL_digest_X4_digest rfl rfl rfl (by decide +kernel) ⟨Nat.le_of_ble_eq_true rfl, Nat.le_of_ble_eq_true rfl⟩) ⟨rx_blind _, va_recv hK.1 hP (ci := 5) (q0 := 0) rfl rfl, fun U hU hW1 => ⟨rfl, mk_ro hK hZ hS hP U hU hW1, gX.moved hW1.alike hX⟩⟩ rfl rfl hl.1 rfl (lv_room (Nat.le_of_ble_eq_true rfl)) dL_digest_4 ⟨Nat.le_of_ble_eq_true rfl, Nat.le_of_ble_eq_true rfl⟩) hS (fun _ _ h => h.elim) (fun _ h => h.elim) (fun _ _ h => h.elim) (fun E ce q9 u t H1 locs1 ht hvm hpx hE hsz9 hk9 hS1 hce hcv hcl => ?_) (fun r u t H1 locs1 ht hvm hp9 => hp9.elim)
  have hE : E = RJx00060 := hE
  subst hE
  refine vx_catch (name := RJx00060) hown [] ⟨0, 9, 12, 13⟩ [] (by rw [htab]; rfl) (fun z hz => nomatch hz) (by decide) (by decide) (hts (.classLink RL 13 RJx00060) (by decide +kernel)) (hX.at _ (by decide +kernel)) hce hcv hcl ?_
  have hP := keptP hP hk9
  have hS := hS1
  show W _ _ _ _ _ _ _ _ _ _ _ _ _ _ _ (F0 m 12 ls [.ref q9])
  refine lv_astore_n (lv' := [(3, .ref q9), (0, .ref s0), (1, .int x), (2, .ref ao)]) hx hb dL_digest_12 rfl hl (by decide) rfl (fun ls hl => ?_)
  refine lv_iconst (v := (nI 1)) hx hb dL_digest_13 (by decide) ?_
  refine W.widen (k := 1) (n := 6) (Nat.le_of_ble_eq_true rfl) (Nat.le_of_ble_eq_true rfl) ?_
  exact endWi () hx hb hr hlocks hS dL_digest_14 hP hD (rfl)
