/-! THE CLAIM OUT OF ONE WALK OF THE LAW'S BODY. Your part is whole_start (and what it stands on); all else here is the same for every law, but numbers. -/
def R_law : String := "StampMakerLaw"
def lw_P (b : Addr) (xs : List Int32) (args : Array Value) (s : State) : Prop := args = #[.ref b] ∧ s.IntsAt b xs ∧ xs.length ≤ 3072 ∧ (Jvm.Cond.and given_1 narrow_1).before args s = true
def lw_Q (_ : Array Value) (s : State) (o : Outcome) (t : State) : Prop := o = .returned (some (.int 1)) ∧ Framed s o t [] 603072 7219306
def lw_Z (below : List Frame) (a : Array Value) (s : State) : State → Prop := fun t => ∃ o, t.status = .running ∧ Ended t below o ∧ lw_Q a s o t
/-- the law's own end, with 1 on the stack, nothing written that was there before, its room as the claim has it -/
theorem lw_ret {p : Program} {l : Launch} {e : Env} {s : State} {m : MethodId} {below : List Frame} {meth : Method} {c : Code} {b : Nat} (hx : p.tables.exec = Jvm.exec) (hb : c.code = code) (hr : meth.sig.returnType = ret) (hlocks : meth.locks = false) {pc : Nat} {H : Heap} {ls : Array Slot} (hdg : decode code pc = .ok (.ireturn, 1)) : W p l e room_1 s m #[Value.ref b] below meth c H [] 603072 7219306 (lw_Z below #[Value.ref b] s) (F0 m pc ls [.int 1]) := by
  intro T hT X
  obtain ⟨fs, hret, hrun, hended, hW, hframe⟩ := X.leave (v := some (.int 1)) (hlocks := hlocks) (fun h => by rw [hr] at h; cases h)
  have hmeth' : T.vm.method? m = some meth := X.method'
  refine ⟨T.setFrames fs, ?_, .returned (some (.int 1)), hrun, hended, rfl, ⟨_, rfl⟩, hW, hframe⟩
  jvm_step X.here [X.here.top, hx, hb, hdg, hmeth', hr, ret, narrow_b1]
  (try refine ⟨rfl, ?_⟩); (try refine ⟨rfl, ?_⟩)
  first | (intro acts; rw [hret _ acts rfl rfl rfl]) | rw [hret _ _ rfl rfl rfl]
  exact Steps.refl _
/-- what holds at the law's entry: the machine, the code, the tables' words (any of lw_tbl by 'hts w (by decide +kernel)'), the script of L ints xs at the cell b, what the Statement gives of the start (any of its parts by flat_of_before) -/
def lw_At (p : Program) (s : State) (m : MethodId) (meth : Method) (c : Code) (b L : Nat) (xs : Nat → Int32) : Prop :=
  p.tables.exec = Jvm.exec ∧ c.code = code ∧ meth.sig.returnType = ret ∧ c.maxLocals = 7 ∧ s.vm.findClass R_law = some m.cls ∧ (∀ w ∈ lw_tbl, w.before #[Value.ref b] s = true) ∧ va_X b L xs s s.heap ∧ b < s.heap.size ∧ meth.locks = false ∧ (Jvm.Cond.and given_1 narrow_1).before #[Value.ref b] s = true
set_option maxHeartbeats 4000000 in
set_option maxRecDepth 100000 in
/-- THE LAW'S LOOP: at its head, behind n calls -/
theorem law_loop {p : Program} {l : Launch} {e : Env} {s : State} {m : MethodId} {below : List Frame} {meth : Method} {c : Code} {b Lx : Nat} {xs : Nat → Int32} {g : gE} {A : Nat → Prop} (hfl : l.stackTraces = false) (hx : p.tables.exec = Jvm.exec) (hb : c.code = code) (hr : meth.sig.returnType = ret) (hlocks : meth.locks = false) (hml : c.maxLocals = 7) (hown : s.vm.findClass RL = some m.cls) (htl : ∀ w ∈ lw_tbl, w.before #[Value.ref b] s = true) (hXs : va_X b Lx xs s s.heap) (hbl : b < s.heap.size) (hbA : ¬ A b) (hA : ∀ q, s.heap.size ≤ q → A q) (hAi : ∀ q, A q → s.heap.size ≤ q) (hK : gK g s) (hZ : gZ g A s s.heap) (hX : gX s) {s0 ks lt ty lg fa da ch dg wa st m0 qf qu qz qd qx ql qg qb qy qc qe qw qt qr qi ao : Nat} (hLx : Lx ≤ 3072) :
    ∀ (fu n i : Nat), 513 ≤ n + fu → n ≤ 512 → i = 6 * n → ∀ (H : Heap) (locs : List Loc), LI g s0 ks lt ty lg fa da ch dg wa st m0 qf qu qz qd qx ql qg qb qy qc qe qw qt qr qi ao A n H → va_S A s.heap H locs → ∀ ls : Array Slot, lv_has ls 7 [(0, .ref b), (1, .ref s0), (2, .ref m0), (3, .ref ao), (4, .int (nI i))] → W p l e room_1 s m #[Value.ref b] below meth c H locs (28 + 2 * n) (99259 + 40 * n) (lw_Z below #[Value.ref b] s) (F0 m 23 ls []) := by
  intro fu
  induction fu with
  | zero => intro n i h1 h2; omega
  | succ fu ih =>
    intro n i hfu hn0 hin H locs hLI hS ls hl
    have tl6 : (nI 6).toInt = 6 := by decide
    refine lv_iload hx hb dL_law_23 (lv_at hl 4 rfl) ?_
    refine lv_aload_n hx hb dL_law_25 rfl (lv_at hl 0 rfl) ?_
    refine va_slen hx hb hXs hbl hbA hS dL_law_26 ?_
    refine lv_rei (x' := nI Lx) rfl ?_
    refine lv_bipush (v := (nI 6)) hx hb dL_law_27 (by decide) ?_
    refine lv_isub hx hb dL_law_29 ?_
    have hsub : (nI Lx - nI 6).toInt = (Lx : Int) - 6 := pk_sub_toInt (by omega) (by decide)
    have hti : i ≤ Lx + 6 → (nI i).toInt = (i : Int) := fun _ => ti_n (by omega)
    refine lv_icmp_gt (tgt := 651) hx hb dL_law_30 (by decide) (fun c1 => ?_) (fun c1 => ?_)
    · refine lv_iconst (v := 1) hx hb dL_law_651 (by decide) ?_
      refine va_forget (fun q hq => hAi _ (hS.2.2 q hq)) ?_
      refine W.widen (k := 603072) (n := 7219306) (by omega) (by omega) ?_
      exact lw_ret hx hb hr hlocks dL_law_652
    · have hi : i + 6 ≤ Lx := by
        rw [ti_lt, hsub, ti_n (by omega)] at c1
        omega
      have hn : n < 512 := by omega
      have next : ∀ (H : Heap) (locs : List Loc), LI g s0 ks lt ty lg fa da ch dg wa st m0 qf qu qz qd qx ql qg qb qy qc qe qw qt qr qi ao A (n + 1) H → va_S A s.heap H locs → ∀ ls : Array Slot, lv_has ls 7 [(0, .ref b), (1, .ref s0), (2, .ref m0), (3, .ref ao), (4, .int (nI i))] → W p l e room_1 s m #[Value.ref b] below meth c H locs (28 + 2 * n + 2) (99259 + 40 * n + 40) (lw_Z below #[Value.ref b] s) (F0 m 645 ls []) := by
        intro H locs hLI hS ls hl
        refine lv_iinc (v := nI (i + 6)) (lv' := [(4, .int (nI (i + 6))), (0, .ref b), (1, .ref s0), (2, .ref m0), (3, .ref ao)]) hx hb dL_law_645 hl (k := 4) rfl (nI_add i 6) (by decide) rfl (fun ls hl => ?_)
        refine lv_goto (tgt := 23) hx hb dL_law_648 (by decide) ?_
        refine W.widen (k := 28 + 2 * (n + 1)) (n := 99259 + 40 * (n + 1)) (by omega) (by omega) ?_
        exact ih (n + 1) (i + 6) (by omega) (by omega) (by omega) H locs hLI hS ls (lv_sub hl [1, 2, 3, 4, 0] rfl)
      refine lv_aload_n hx hb dL_law_33 rfl (lv_at hl 0 rfl) ?_
      refine lv_iload hx hb dL_law_34 (lv_at hl 4 rfl) ?_
      refine va_sld hx hb hXs hbl hbA hS (vp_in_nI (by omega) (by omega)) dL_law_36 ?_
      refine lv_bipush (v := (nI 15)) hx hb dL_law_37 (by decide) ?_
      refine lv_iand hx hb dL_law_39 ?_
      obtain ⟨v, ev⟩ : ∃ z, z = (xs (nI i).toNatClampNeg).toBitVec.toNat % 16 := ⟨_, rfl⟩
      have hv : v < 16 := by rw [ev]; exact Nat.mod_lt _ (by decide)
      refine lv_rei (x' := nI v) (by rw [ev]; exact pk_and _ 4 (by decide)) ?_
      clear ev
      rcases (show v = 0 ∨ v = 1 ∨ v = 2 ∨ v = 3 ∨ v = 4 ∨ v = 5 ∨ v = 6 ∨ v = 7 ∨ v = 8 ∨ v = 9 ∨ v = 10 ∨ 11 ≤ v by omega) with rfl | rfl | rfl | rfl | rfl | rfl | rfl | rfl | rfl | rfl | rfl | hv11
      · refine lv_tableIn (off := 60) (tgt := 100) hx hb dL_law_40 (by decide) (by decide) (by decide) (by decide) ?_
        exact law_c0 hfl hx hb hml hown htl hXs hbl hbA hA hK hZ hX hi hLx hn (by omega) (by omega) hLI hS hl next
      · refine lv_tableIn (off := 161) (tgt := 201) hx hb dL_law_40 (by decide) (by decide) (by decide) (by decide) ?_
        exact law_c1 hfl hx hb hml hown htl hXs hbl hbA hA hK hZ hX hi hLx hn (by omega) (by omega) hLI hS hl next
      · refine lv_tableIn (off := 198) (tgt := 238) hx hb dL_law_40 (by decide) (by decide) (by decide) (by decide) ?_
        exact law_c2 hfl hx hb hml hown htl hXs hbl hbA hA hK hZ hX hi hLx hn (by omega) (by omega) hLI hS hl next
      · refine lv_tableIn (off := 291) (tgt := 331) hx hb dL_law_40 (by decide) (by decide) (by decide) (by decide) ?_
        exact law_c3 hfl hx hb hml hown htl hXs hbl hbA hA hK hZ hX hi hLx hn (by omega) (by omega) hLI hS hl next
      · refine lv_tableIn (off := 316) (tgt := 356) hx hb dL_law_40 (by decide) (by decide) (by decide) (by decide) ?_
        exact law_c4 hfl hx hb hml hown htl hXs hbl hbA hA hK hZ hX hi hLx hn (by omega) (by omega) hLI hS hl next
      · refine lv_tableIn (off := 339) (tgt := 379) hx hb dL_law_40 (by decide) (by decide) (by decide) (by decide) ?_
        exact law_c5 hfl hx hb hml hown htl hXs hbl hbA hA hK hZ hX hi hLx hn (by omega) (by omega) hLI hS hl next
      · refine lv_tableIn (off := 396) (tgt := 436) hx hb dL_law_40 (by decide) (by decide) (by decide) (by decide) ?_
        exact law_c6 hfl hx hb hml hown htl hXs hbl hbA hA hK hZ hX hi hLx hn (by omega) (by omega) hLI hS hl next
      · refine lv_tableIn (off := 421) (tgt := 461) hx hb dL_law_40 (by decide) (by decide) (by decide) (by decide) ?_
        exact law_c7 hfl hx hb hml hown htl hXs hbl hbA hA hK hZ hX hi hLx hn (by omega) (by omega) hLI hS hl next
      · refine lv_tableIn (off := 478) (tgt := 518) hx hb dL_law_40 (by decide) (by decide) (by decide) (by decide) ?_
        exact law_c8 hfl hx hb hml hown htl hXs hbl hbA hA hK hZ hX hi hLx hn (by omega) (by omega) hLI hS hl next
      · refine lv_tableIn (off := 534) (tgt := 574) hx hb dL_law_40 (by decide) (by decide) (by decide) (by decide) ?_
        exact law_c9 hfl hx hb hml hown htl hXs hbl hbA hA hK hZ hX hi hLx hn (by omega) (by omega) hLI hS hl next
      · refine lv_tableIn (off := 591) (tgt := 631) hx hb dL_law_40 (by decide) (by decide) (by decide) (by decide) ?_
        exact law_c10 hfl hx hb hml hown htl hXs hbl hbA hA hK hZ hX hi hLx hn (by omega) (by omega) hLI hS hl next
      · refine lv_tableOut (tgt := 645) hx hb dL_law_40 (Or.inr (by rw [ti_n (by omega)]; omega)) (by decide) ?_
        refine W.widen (k := 28 + 2 * n + 2) (n := 99259 + 40 * n + 40) (by omega) (by omega) ?_
        exact next H locs hLI.mono hS ls hl
