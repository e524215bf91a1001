/-! my kit: the environment of this claim (classes, statics), what a reading and a writing contract start from, one law for a cut-out world put back in place, one row a call -/
def rsT : String := "0123456789ABCDEFGHJKLMNPQRSTUVWX"
def aBL : List Int32 := [48, 49, 50, 51, 52, 53, 54, 55, 56, 57, 65, 66, 67, 68, 69, 70, 71, 72, 74, 75, 76, 77, 78, 80, 81, 82, 83, 84, 85, 86, 87, 88]
def sBegL : List Int32 := [1779033703, (-1150833019), 1013904242, (-1521486534), 1359893119, (-1694144372), 528734635, 1541459225]
def sKL : List Int32 := [1116352408, 1899447441, (-1245643825), (-373957723), 961987163, 1508970993, (-1841331548), (-1424204075), (-670586216), 310598401, 607225278, 1426881987, 1925078388, (-2132889090), (-1680079193), (-1046744716), (-459576895), (-272742522), 264347078, 604807628, 770255983, 1249150122, 1555081692, 1996064986, (-1740746414), (-1473132947), (-1341970488), (-1084653625), (-958395405), (-710438585), 113926993, 338241895, 666307205, 773529912, 1294757372, 1396182291, 1695183700, 1986661051, (-2117940946), (-1838011259), (-1564481375), (-1474664885), (-1035236496), (-949202525), (-778901479), (-694614492), (-200395387), 275423344, 430227734, 506948616, 659060556, 883997877, 958139571, 1322822218, 1537002063, 1747873779, 1955562222, 2024104815, (-2067236844), (-1933114872), (-1866530822), (-1538233109), (-1090935817), (-965641998)]
def sBeg (j : Nat) : Int32 := sBegL.getD j 0
def sK (j : Nat) : Int32 := sKL.getD j 0
/-- letter v of the alphabet -/
def aL (v : Nat) : Int32 := aBL.getD v 0
abbrev gE : Type := va_G × ((Nat → ClassId) × (Nat → Nat))
abbrev gT (g : gE) : List (ClassId × FieldType) := [(g.2.1 0, .int), (g.2.1 1, .byte), (g.2.1 2, .boolean), (g.2.1 3, .long), (g.2.1 4, .object "StampMaker$Key")]
def gK (g : gE) (U : State) : Prop := va_K g.1 vwCl (gT g) U ∧ va_AO "StampMaker$Key" U ∧ va_Nw (.methodLinkNest RX4 28 yX3_init RX4) U ∧ va_Nw (.methodLinkNest RX4 35 yX0_init RX4) U ∧ vk_R RX4 148 rsT (g.2.2 2) U ∧ vk_R RX5 161 rsT (g.2.2 2) U
def gZ (g : gE) (A : Nat → Prop) (U : State) (H : Heap) : Prop :=
  va_Z "StampMaker$Digest" "START" "[I" (.ref (g.2.2 0)) A U H ∧ va_T .int (g.2.2 0) 8 (fun j => .int (sBeg j)) A U H ∧
  va_Z "StampMaker$Digest" "ROUND_NUMBERS" "[I" (.ref (g.2.2 1)) A U H ∧ va_T .int (g.2.2 1) 64 (fun j => .int (sK j)) A U H ∧
  va_Z "java/lang/String" "COMPACT_STRINGS" "Z" (.int 1) A U H ∧ va_Zq "jdk/internal/util/Preconditions" "SIOOBE_FORMATTER" "Ljava/util/function/BiFunction;" A U H ∧
  vk_S 1 [32] [aBL] (fun _ => g.2.2 2) (fun _ => g.2.2 3) A U H ∧
  vx_Zq Bundle.tN "UNASSIGNED_STACK" Bundle.steD A U H ∧ vx_Zq Bundle.tN "SUPPRESSED_SENTINEL" Bundle.listD A U H
theorem gK.warm {g : gE} {s U : State} (hW : s.WarmedH U.vm) (h : gK g s) : gK g U :=
  ⟨va_K.moved hW.alike h.1, va_AO.moved hW.alike h.2.1, va_Nw.warmM hW h.2.2.1, va_Nw.warmM hW h.2.2.2.1, vk_R.warm hW h.2.2.2.2.1, vk_R.warm hW h.2.2.2.2.2⟩
theorem gK.same {g : gE} {u U : State} (hv : U.vm = u.vm) (h : gK g u) : gK g U := by
  have ha : u.vm.Alike U.vm := by rw [hv]; exact Vm.Alike.refl _
  exact ⟨va_K.moved ha h.1, va_AO.moved ha h.2.1, va_tabs rfl hv.symm h.2.2.1, va_tabs rfl hv.symm h.2.2.2.1, vk_R.same hv h.2.2.2.2.1, vk_R.same hv h.2.2.2.2.2⟩
theorem gZ.moved {g : gE} {A : Nat → Prop} {u U : State} {H : Heap} (hvm : u.vm.Alike U.vm) (h : gZ g A u H) : gZ g A U H :=
  ⟨va_Z.moved hvm h.1, va_T.moved hvm h.2.1, va_Z.moved hvm h.2.2.1, va_T.moved hvm h.2.2.2.1, va_Z.moved hvm h.2.2.2.2.1, va_Zq.moved hvm h.2.2.2.2.2.1, vk_S.moved hvm h.2.2.2.2.2.2.1, vx_Zq.moved hvm h.2.2.2.2.2.2.2.1, vx_Zq.moved hvm h.2.2.2.2.2.2.2.2⟩
theorem gZ.kept {g : gE} {A : Nat → Prop} {U : State} {H H1 : Heap} (h : gZ g A U H) (hq : ∀ a : Nat, a < H.size → ¬ A a → H1[a]? = H[a]?) : gZ g A U H1 :=
  ⟨va_Z.kept h.1 hq, va_T.kept h.2.1 hq, va_Z.kept h.2.2.1 hq, va_T.kept h.2.2.2.1 hq, va_Z.kept h.2.2.2.2.1 hq, va_Zq.kept h.2.2.2.2.2.1 hq, vk_S.kept h.2.2.2.2.2.2.1 hq, vx_Zq.kept h.2.2.2.2.2.2.2.1 hq, vx_Zq.kept h.2.2.2.2.2.2.2.2 hq⟩
theorem gZ.narrow {g : gE} {A B : Nat → Prop} {U : State} {H : Heap} (h : gZ g A U H) (hAB : ∀ q, B q → A q) : gZ g B U H :=
  ⟨va_Z.narrow h.1 hAB, va_T.narrow h.2.1 hAB, va_Z.narrow h.2.2.1 hAB, va_T.narrow h.2.2.2.1 hAB, va_Z.narrow h.2.2.2.2.1 hAB, va_Zq.narrow h.2.2.2.2.2.1 hAB, vk_S.narrow h.2.2.2.2.2.2.1 hAB, vx_Zq.narrow h.2.2.2.2.2.2.2.1 hAB, vx_Zq.narrow h.2.2.2.2.2.2.2.2 hAB⟩
abbrev nA : Nat → Prop := fun _ => False
/-- what a contract that only reads starts from -/
def ro (g : gE) (ws : va_W) (U : State) : Prop := va_P g.1 vwCl ws U.heap ∧ gK g U ∧ gZ g nA U U.heap
/-- what a contract that writes starts from -/
def wr (g : gE) (ws : va_W) (sz : Nat) (U : State) : Prop := U.heap.size = sz ∧ va_P g.1 vwCl ws U.heap ∧ gK g U ∧ va_D (fun _ => True) ws ∧ gZ g (va_A ws sz) U U.heap
theorem ro_blind {g : gE} {ws : va_W} (av : List Value) : FrameBlind (va_Pc av (ro g ws)) := fun a U f mk q => by
  obtain ⟨q0, qP, qK, qZ⟩ := q
  exact ⟨q0, qP, gK.same (u := U) (U := U.calling f mk a) rfl qK, gZ.moved (u := U) (U := U.calling f mk a) (Vm.Alike.refl U.vm) qZ⟩
theorem wr_blind {g : gE} {ws : va_W} {sz : Nat} (av : List Value) : FrameBlind (va_Pc av (wr g ws sz)) := fun a U f mk q => by
  obtain ⟨q0, q1, qP, qK, qD, qZ⟩ := q
  exact ⟨q0, q1, qP, gK.same (u := U) (U := U.calling f mk a) rfl qK, qD, gZ.moved (u := U) (U := U.calling f mk a) (Vm.Alike.refl U.vm) qZ⟩
theorem mk_ro {g : gE} {s : State} {A : Nat → Prop} {H : Heap} {locs : List Loc} {wc : va_W} (hK : gK g s) (hZ : gZ g A s s.heap) (hS : va_S A s.heap H locs) (hPc : va_P g.1 vwCl wc H) (U : State) (hU : U.heap = H) (hW : s.WarmedH U.vm) : ro g wc U := by
  subst hU
  exact ⟨hPc, hK.warm hW, ((hZ.kept hS.2.1).narrow (fun _ h => h.elim)).moved hW.alike⟩
theorem mk_wr {g : gE} {s : State} {A : Nat → Prop} {H : Heap} {locs : List Loc} {wc : va_W} (hK : gK g s) (hZ : gZ g A s s.heap) (hS : va_S A s.heap H locs) (hPc : va_P g.1 vwCl wc H) (hDc : va_D A wc) (hF : ∀ q, va_A wc H.size q → A q) (U : State) (hU : U.heap = H) (hW : s.WarmedH U.vm) : wr g wc H.size U := by
  subst hU
  exact ⟨rfl, hPc, hK.warm hW, hDc.weaken (fun _ _ _ _ => trivial), ((hZ.kept hS.2.1).narrow hF).moved hW.alike⟩
/-- the cells at the places 'is' put anew, what is over comes behind -/
def setL (ws : va_W) : List Nat → va_W → va_W
  | i :: is, x :: w => setL (ws.set i x) is w
  | [], x :: w => setL (ws ++ [x]) [] w
  | _, [] => ws
theorem setL_len : ∀ (w : va_W) (is : List Nat) (ws : va_W), is.length ≤ w.length → (setL ws is w).length = ws.length + (w.length - is.length)
  | [], [], ws, _ => by simp [setL]
  | [], _ :: _, ws, h => by simp at h
  | x :: w, [], ws, _ => by
    rw [setL, setL_len w [] (ws ++ [x]) (by simp)]
    simp only [List.length_append, List.length_cons, List.length_nil]
    omega
  | x :: w, i :: is, ws, h => by
    rw [setL, setL_len w is (ws.set i x) (by simpa using h), List.length_set]
    simp only [List.length_cons]
    omega
/-- a place of setL: one of the new cells, or an old one whose place is none of them -/
theorem setL_at : ∀ (w : va_W) (is : List Nat) (ws : va_W), is.length ≤ w.length → ∀ (k : Nat) (q : Nat × va_E), (setL ws is w)[k]? = some q → (∃ j, w[j]? = some q ∧ (is[j]? = some k ∨ (is.length ≤ j ∧ k = ws.length + (j - is.length)))) ∨ (ws[k]? = some q ∧ k ∉ is)
  | [], [], ws, _, k, q, h => by
    rw [setL] at h
    exact Or.inr ⟨h, by simp⟩
  | [], _ :: _, ws, h, _, _, _ => by simp at h
  | x :: w, [], ws, _, k, q, h => by
    rw [setL] at h
    rcases setL_at w [] (ws ++ [x]) (by simp) k q h with ⟨j, h1, h2⟩ | ⟨h1, -⟩
    · refine Or.inl ⟨j + 1, by simpa using h1, Or.inr ⟨Nat.zero_le _, ?_⟩⟩
      rcases h2 with h2 | ⟨-, h2⟩
      · simp at h2
      · simp only [List.length_append, List.length_cons, List.length_nil] at h2 ⊢
        omega
    · by_cases hk : k < ws.length
      · rw [List.getElem?_append_left hk] at h1
        exact Or.inr ⟨h1, by simp⟩
      · rw [List.getElem?_append_right (by omega)] at h1
        have hz : k - ws.length < 1 := (List.getElem?_eq_some_iff.mp h1).1
        rw [show k - ws.length = 0 by omega] at h1
        refine Or.inl ⟨0, by simpa using h1, Or.inr ⟨Nat.zero_le _, ?_⟩⟩
        simp only [List.length_nil]
        omega
  | x :: w, i :: is, ws, hl, k, q, h => by
    rw [setL] at h
    have hl' : is.length ≤ w.length := by simpa using hl
    rcases setL_at w is (ws.set i x) hl' k q h with ⟨j, h1, h2⟩ | ⟨h1, h2⟩
    · refine Or.inl ⟨j + 1, by simpa using h1, ?_⟩
      rcases h2 with h2 | ⟨h2, h3⟩
      · exact Or.inl (by simpa using h2)
      · refine Or.inr ⟨by simp only [List.length_cons]; omega, ?_⟩
        rw [List.length_set] at h3
        simp only [List.length_cons]
        omega
    · by_cases hk : k = i
      · subst hk
        have hlt : k < ws.length := by
          have := (List.getElem?_eq_some_iff.mp h1).1
          rwa [List.length_set] at this
        rw [List.getElem?_set_self hlt] at h1
        exact Or.inl ⟨0, by simpa using h1, Or.inl (by simp)⟩
      · rw [List.getElem?_set_ne (Ne.symm hk)] at h1
        exact Or.inr ⟨h1, by simp [hk, h2]⟩
/-- the frame rule, in place: a world cut out at the places 'is' comes back with new contents (and new cells behind it); all else is as it was -/
theorem joinL {A : Nat → Prop} {D : va_G} {cl : List vw_C} {ws wc w1 : va_W} {H H1 : Heap} (hP : va_P D cl ws H) (hD : va_D A ws) (is : List Nat) (hC : is.map (fun i => ws[i]?) = wc.map some) (hl : is.length ≤ w1.length) (ha : (w1.take is.length).map (·.1) = wc.map (·.1))
    (hk : ∀ q : Nat, q < H.size → ¬ va_A wc H.size q → H1[q]? = H[q]?) (hF : ∀ q, va_A wc H.size q → A q) (hP1 : va_P D cl w1 H1) (hD1 : va_D (va_A wc H.size) w1) : va_P D cl (setL ws is w1) H1 ∧ va_D A (setL ws is w1) := by
  have hwl : wc.length = is.length := by
    have := congrArg List.length hC
    simpa using this.symm
  have old : ∀ (k : Nat) (q : Nat × va_E), ws[k]? = some q → k ∉ is → q.1 < H.size ∧ ¬ va_A wc H.size q.1 := by
    intro k q hq hn
    have h1 := (hP k q hq).lt
    refine ⟨h1, fun h => ?_⟩
    rcases h with ⟨j, e, h⟩ | h
    · have h2 : (is.map (fun i => ws[i]?))[j]? = some (some (q.1, e)) := by rw [hC, List.getElem?_map, h]; rfl
      rw [List.getElem?_map] at h2
      cases hi : is[j]? with
      | none => rw [hi] at h2; cases h2
      | some i =>
        rw [hi] at h2
        have h3 : ws[i]? = some (q.1, e) := Option.some.inj h2
        have h4 := hD.1 _ _ q (q.1, e) hq h3 rfl
        subst h4
        exact hn (List.mem_of_getElem? hi)
    · omega
  have adr : ∀ (j k : Nat) (q : Nat × va_E), w1[j]? = some q → is[j]? = some k → ∃ e, ws[k]? = some (q.1, e) := by
    intro j k q hq hi
    have hj : j < is.length := (List.getElem?_eq_some_iff.mp hi).1
    have h1 : ((w1.take is.length).map (·.1))[j]? = some q.1 := by rw [List.getElem?_map, List.getElem?_take_of_lt hj, hq]; rfl
    rw [ha, List.getElem?_map] at h1
    cases hw : wc[j]? with
    | none => rw [hw] at h1; cases h1
    | some x =>
      rw [hw] at h1
      have h2 : (is.map (fun i => ws[i]?))[j]? = some (some x) := by rw [hC, List.getElem?_map, hw]; rfl
      rw [List.getElem?_map, hi] at h2
      have h3 : ws[k]? = some x := Option.some.inj h2
      have h4 : x.1 = q.1 := Option.some.inj h1
      exact ⟨x.2, by rw [h3, ← h4]⟩
  refine ⟨fun k q hq => ?_, fun i j x y hx hy hxy => ?_, fun k q hq => ?_⟩
  · rcases setL_at w1 is ws hl k q hq with ⟨j, h1, -⟩ | ⟨h1, h2⟩
    · exact hP1 j q h1
    · have h3 := old k q h1 h2
      exact (hP k q h1).kept (hk q.1 h3.1 h3.2)
  · rcases setL_at w1 is ws hl i x hx with ⟨a, h1, h2⟩ | ⟨h1, h2⟩
    · rcases setL_at w1 is ws hl j y hy with ⟨b, h3, h4⟩ | ⟨h3, h4⟩
      · have hab := hD1.1 a b x y h1 h3 hxy
        subst hab
        rcases h2 with h2 | h2
        · rcases h4 with h4 | h4
          · rw [h2] at h4; exact Option.some.inj h4
          · have := (List.getElem?_eq_some_iff.mp h2).1; omega
        · rcases h4 with h4 | h4
          · have := (List.getElem?_eq_some_iff.mp h4).1; omega
          · omega
      · have h5 := old j y h3 h4
        exact absurd (hxy ▸ hD1.2 a x h1) h5.2
    · rcases setL_at w1 is ws hl j y hy with ⟨b, h3, h4⟩ | ⟨h3, h4⟩
      · have h5 := old i x h1 h2
        exact absurd (hxy ▸ hD1.2 b y h3) h5.2
      · exact hD.1 i j x y h1 h3 hxy
  · rcases setL_at w1 is ws hl k q hq with ⟨j, h1, -⟩ | ⟨h1, h2⟩
    · exact hF _ (hD1.2 j q h1)
    · exact hD.2 k q h1
theorem freeL {A0 : Nat → Prop} {ws wc : va_W} {H0 H : Heap} {locs : List Loc} (hD : va_D A0 ws) (hS : va_S A0 H0 H locs) (hA : ∀ q, H0.size ≤ q → A0 q) (is : List Nat) (hC : is.map (fun i => ws[i]?) = wc.map some) : ∀ q, va_A wc H.size q → A0 q := va_free hD hS hA is hC
theorem subP {D : va_G} {cl : List vw_C} {ws wc : va_W} {H : Heap} (hP : va_P D cl ws H) (is : List Nat) (hC : is.map (fun i => ws[i]?) = wc.map some) : va_P D cl wc H := by
  intro k q hq
  have h1 : (is.map (fun i => ws[i]?))[k]? = some (some q) := by rw [hC, List.getElem?_map, hq]; rfl
  rw [List.getElem?_map] at h1
  cases hi : is[k]? with
  | none => rw [hi] at h1; cases h1
  | some i => rw [hi] at h1; exact hP i q (Option.some.inj h1)
/-- a writer's end: the answers as va_Qi .. have them, over the new world -/
abbrev wB {S : Type} (g : gE) (A : Nat → Prop) (w1 : S → va_W) : S → State → Prop := fun u t => va_P g.1 vwCl (w1 u) t.heap ∧ va_D A (w1 u)
theorem subD {A : Nat → Prop} {ws wc : va_W} (hD : va_D A ws) (is : List Nat) (hn : is.Nodup) (hC : is.map (fun i => ws[i]?) = wc.map some) : va_D A wc := by
  have at' : ∀ (k : Nat) (q : Nat × va_E), wc[k]? = some q → ∃ i, is[k]? = some i ∧ ws[i]? = some q := by
    intro k q hq
    have h1 : (is.map (fun i => ws[i]?))[k]? = some (some q) := by rw [hC, List.getElem?_map, hq]; rfl
    rw [List.getElem?_map] at h1
    cases hi : is[k]? with
    | none => rw [hi] at h1; cases h1
    | some i => rw [hi] at h1; exact ⟨i, rfl, Option.some.inj h1⟩
  refine ⟨fun i j x y hx hy hxy => ?_, fun k q hq => ?_⟩
  · obtain ⟨a, h1, h2⟩ := at' i x hx
    obtain ⟨b, h3, h4⟩ := at' j y hy
    have h5 := hD.1 a b x y h2 h4 hxy
    subst h5
    exact (List.getElem?_inj (List.getElem?_eq_some_iff.mp h1).1 hn).mp (h1.trans h3.symm)
  · obtain ⟨a, -, h2⟩ := at' k q hq
    exact hD.2 a q h2
section RCALL
variable {p : Program} {l : Launch} {e : Env} {R : Room} {s : State} {m : MethodId} {args : Array Value} {below : List Frame} {meth : Method} {c : Code} {H : Heap} {locs : List Loc} {cells slots : Nat} {Q : State → Prop}
variable {y : MethodName} {bytes cc : ByteArray} {maxL nL n index mc ms : Nat} {ret : Option FieldType} {ws : List Cond} {rm : Room} {Ts : List Cond} {own C host : String} {b : Addr} {rest st0 : List Value} {pc : Nat} {ls : Array Slot} {g : gE} {A : Nat → Prop} {wc wl : va_W}
/-- a reading call: virtual, answer an int -/
theorem cVi {post : Int32 → Prop} (S : CallFix p m c cc nL s args Ts own) (As : List Value) (hM : Met l y ws rm (va_Pc (.ref b :: As) (ro g wc)) (vp_Si post) 0 0 nA) (cw : CallW R s args own C index y bytes maxL ret ws rm 0 0 n) (hK : gK g s) (hZ : gZ g A s s.heap) (hS : va_S A s.heap H locs) (hPc : va_P g.1 vwCl wc H) (hr : ∃ cell : Cell, H[b]? = some cell ∧ cell.vm.isStatics = false ∧ s.vm.findClass C = some cell.cls) (hn : As.length = n) (hsize : ls.size = nL) (hst : st0 = As.reverse ++ .ref b :: rest) (hW : (rest.map fun v => v.category).sum ≤ 8) (hdg : decode cc pc = .ok (.invokevirtual index, 3)) (hf : cells ≤ R.cells ∧ slots ≤ R.slots)
    (kk : ∀ r : Int32, post r → W p l e R s m args below meth c H locs cells slots Q (F0 m (pc + 3) ls (.int r :: rest))) : W p l e R s m args below meth c H locs cells slots Q (F0 m pc ls st0) := by
  subst hst
  exact vp_callSi (va_runV (g := F0 m pc ls _) S hM cw ⟨ro_blind _, hr, fun U hU hW1 => ⟨rfl, mk_ro hK hZ hS hPc U hU hW1⟩⟩ rfl hn hsize rfl (lv_room hW) hdg hf).run kk
theorem cVl {post : Int64 → Prop} (S : CallFix p m c cc nL s args Ts own) (As : List Value) (hM : Met l y ws rm (va_Pc (.ref b :: As) (ro g wc)) (vp_Sl post) 0 0 nA) (cw : CallW R s args own C index y bytes maxL ret ws rm 0 0 n) (hK : gK g s) (hZ : gZ g A s s.heap) (hS : va_S A s.heap H locs) (hPc : va_P g.1 vwCl wc H) (hr : ∃ cell : Cell, H[b]? = some cell ∧ cell.vm.isStatics = false ∧ s.vm.findClass C = some cell.cls) (hn : As.length = n) (hsize : ls.size = nL) (hst : st0 = As.reverse ++ .ref b :: rest) (hW : (rest.map fun v => v.category).sum ≤ 8) (hdg : decode cc pc = .ok (.invokevirtual index, 3)) (hf : cells ≤ R.cells ∧ slots ≤ R.slots)
    (kk : ∀ r : Int64, post r → W p l e R s m args below meth c H locs cells slots Q (F0 m (pc + 3) ls (.long r :: rest))) : W p l e R s m args below meth c H locs cells slots Q (F0 m pc ls st0) := by
  subst hst
  exact vp_callSl (va_runV (g := F0 m pc ls _) S hM cw ⟨ro_blind _, hr, fun U hU hW1 => ⟨rfl, mk_ro hK hZ hS hPc U hU hW1⟩⟩ rfl hn hsize rfl (lv_room hW) hdg hf).run kk
theorem cVq {post : Option Nat → Prop} (S : CallFix p m c cc nL s args Ts own) (As : List Value) (hM : Met l y ws rm (va_Pc (.ref b :: As) (ro g wc)) (va_Sq post) 0 0 nA) (cw : CallW R s args own C index y bytes maxL ret ws rm 0 0 n) (hK : gK g s) (hZ : gZ g A s s.heap) (hS : va_S A s.heap H locs) (hPc : va_P g.1 vwCl wc H) (hr : ∃ cell : Cell, H[b]? = some cell ∧ cell.vm.isStatics = false ∧ s.vm.findClass C = some cell.cls) (hn : As.length = n) (hsize : ls.size = nL) (hst : st0 = As.reverse ++ .ref b :: rest) (hW : (rest.map fun v => v.category).sum ≤ 8) (hdg : decode cc pc = .ok (.invokevirtual index, 3)) (hf : cells ≤ R.cells ∧ slots ≤ R.slots)
    (kk : ∀ r : Option Nat, post r → W p l e R s m args below meth c H locs cells slots Q (F0 m (pc + 3) ls (va_rf r :: rest))) : W p l e R s m args below meth c H locs cells slots Q (F0 m pc ls st0) := by
  subst hst
  exact va_csq (va_runV (g := F0 m pc ls _) S hM cw ⟨ro_blind _, hr, fun U hU hW1 => ⟨rfl, mk_ro hK hZ hS hPc U hU hW1⟩⟩ rfl hn hsize rfl (lv_room hW) hdg hf).run kk
theorem cVv {post : Unit → Prop} (S : CallFix p m c cc nL s args Ts own) (As : List Value) (hM : Met l y ws rm (va_Pc (.ref b :: As) (ro g wc)) (va_Sv post) 0 0 nA) (cw : CallW R s args own C index y bytes maxL ret ws rm 0 0 n) (hK : gK g s) (hZ : gZ g A s s.heap) (hS : va_S A s.heap H locs) (hPc : va_P g.1 vwCl wc H) (hr : ∃ cell : Cell, H[b]? = some cell ∧ cell.vm.isStatics = false ∧ s.vm.findClass C = some cell.cls) (hn : As.length = n) (hsize : ls.size = nL) (hst : st0 = As.reverse ++ .ref b :: rest) (hW : (rest.map fun v => v.category).sum ≤ 8) (hdg : decode cc pc = .ok (.invokevirtual index, 3)) (hf : cells ≤ R.cells ∧ slots ≤ R.slots)
    (kk : post () → W p l e R s m args below meth c H locs cells slots Q (F0 m (pc + 3) ls rest)) : W p l e R s m args below meth c H locs cells slots Q (F0 m pc ls st0) := by
  subst hst
  exact va_csv (va_runV (g := F0 m pc ls _) S hM cw ⟨ro_blind _, hr, fun U hU hW1 => ⟨rfl, mk_ro hK hZ hS hPc U hU hW1⟩⟩ rfl hn hsize rfl (lv_room hW) hdg hf).run kk
/-- a reading call: static -/
theorem cSi {post : Int32 → Prop} (S : CallFix p m c cc nL s args Ts own) (As : List Value) (hM : Met l y ws rm (va_Pc As (ro g wc)) (vp_Si post) 0 0 nA) (cw : CallB R s args own index y bytes maxL ret ws rm 0 0 n ∧ (Cond.static y).before args s = true) (hK : gK g s) (hZ : gZ g A s s.heap) (hS : va_S A s.heap H locs) (hPc : va_P g.1 vwCl wc H) (hn : As.length = n) (hsize : ls.size = nL) (hst : st0 = As.reverse ++ rest) (hW : (rest.map fun v => v.category).sum ≤ 8) (hdg : decode cc pc = .ok (.invokestatic index, 3)) (hf : cells ≤ R.cells ∧ slots ≤ R.slots)
    (kk : ∀ r : Int32, post r → W p l e R s m args below meth c H locs cells slots Q (F0 m (pc + 3) ls (.int r :: rest))) : W p l e R s m args below meth c H locs cells slots Q (F0 m pc ls st0) := by
  subst hst
  exact vp_callSi (va_runS (g := F0 m pc ls _) S hM cw ⟨ro_blind _, fun U hU hW1 => ⟨rfl, mk_ro hK hZ hS hPc U hU hW1⟩⟩ rfl hn hsize rfl (lv_room hW) hdg hf).run kk
theorem cSl {post : Int64 → Prop} (S : CallFix p m c cc nL s args Ts own) (As : List Value) (hM : Met l y ws rm (va_Pc As (ro g wc)) (vp_Sl post) 0 0 nA) (cw : CallB R s args own index y bytes maxL ret ws rm 0 0 n ∧ (Cond.static y).before args s = true) (hK : gK g s) (hZ : gZ g A s s.heap) (hS : va_S A s.heap H locs) (hPc : va_P g.1 vwCl wc H) (hn : As.length = n) (hsize : ls.size = nL) (hst : st0 = As.reverse ++ rest) (hW : (rest.map fun v => v.category).sum ≤ 8) (hdg : decode cc pc = .ok (.invokestatic index, 3)) (hf : cells ≤ R.cells ∧ slots ≤ R.slots)
    (kk : ∀ r : Int64, post r → W p l e R s m args below meth c H locs cells slots Q (F0 m (pc + 3) ls (.long r :: rest))) : W p l e R s m args below meth c H locs cells slots Q (F0 m pc ls st0) := by
  subst hst
  exact vp_callSl (va_runS (g := F0 m pc ls _) S hM cw ⟨ro_blind _, fun U hU hW1 => ⟨rfl, mk_ro hK hZ hS hPc U hU hW1⟩⟩ rfl hn hsize rfl (lv_room hW) hdg hf).run kk
theorem cSv {post : Unit → Prop} (S : CallFix p m c cc nL s args Ts own) (As : List Value) (hM : Met l y ws rm (va_Pc As (ro g wc)) (va_Sv post) 0 0 nA) (cw : CallB R s args own index y bytes maxL ret ws rm 0 0 n ∧ (Cond.static y).before args s = true) (hK : gK g s) (hZ : gZ g A s s.heap) (hS : va_S A s.heap H locs) (hPc : va_P g.1 vwCl wc H) (hn : As.length = n) (hsize : ls.size = nL) (hst : st0 = As.reverse ++ rest) (hW : (rest.map fun v => v.category).sum ≤ 8) (hdg : decode cc pc = .ok (.invokestatic index, 3)) (hf : cells ≤ R.cells ∧ slots ≤ R.slots)
    (kk : post () → W p l e R s m args below meth c H locs cells slots Q (F0 m (pc + 3) ls rest)) : W p l e R s m args below meth c H locs cells slots Q (F0 m pc ls st0) := by
  subst hst
  exact va_csv (va_runS (g := F0 m pc ls _) S hM cw ⟨ro_blind _, fun U hU hW1 => ⟨rfl, mk_ro hK hZ hS hPc U hU hW1⟩⟩ rfl hn hsize rfl (lv_room hW) hdg hf).run kk
/-- a writing call: virtual, answer an int -/
theorem wVi {T : Type} {post : Int32 → T → Prop} {w1 : T → va_W} (S : CallFix p m c cc nL s args Ts own) (As : List Value) (is : List Nat) (hM : Met l y ws rm (va_Pc (.ref b :: As) (wr g wc H.size)) (va_Qi post (wB g (va_A wc H.size) w1) (va_A wc H.size)) mc ms (va_A wc H.size)) (cw : CallW R s args own C index y bytes maxL ret ws rm mc ms n) (hK : gK g s) (hZ : gZ g A s s.heap) (hS : va_S A s.heap H locs) (hP : va_P g.1 vwCl wl H) (hD : va_D A wl) (hA : ∀ q, s.heap.size ≤ q → A q) (hC : is.map (fun i => wl[i]?) = wc.map some) (hnd : is.Nodup) (hl : ∀ u, is.length ≤ (w1 u).length) (ha : ∀ u, ((w1 u).take is.length).map (·.1) = wc.map (·.1)) (hr : ∃ cell : Cell, H[b]? = some cell ∧ cell.vm.isStatics = false ∧ s.vm.findClass C = some cell.cls) (hn : As.length = n) (hsize : ls.size = nL) (hst : st0 = As.reverse ++ .ref b :: rest) (hW : (rest.map fun v => v.category).sum ≤ 8) (hdg : decode cc pc = .ok (.invokevirtual index, 3)) (hf : cells + mc ≤ R.cells ∧ slots + ms ≤ R.slots)
    (kk : ∀ (r : Int32) (u : T) (H1 : Heap) (locs1 : List Loc), post r u → va_P g.1 vwCl (setL wl is (w1 u)) H1 → va_D A (setL wl is (w1 u)) → va_S A s.heap H1 locs1 → W p l e R s m args below meth c H1 locs1 (cells + mc) (slots + ms) Q (F0 m (pc + 3) ls (.int r :: rest))) : W p l e R s m args below meth c H locs cells slots Q (F0 m pc ls st0) := by
  subst hst
  have hF := freeL hD hS hA is hC
  have hPc := subP hP is hC
  have hDc := subD hD is hnd hC
  refine va_calli (va_runV (g := F0 m pc ls _) S hM cw ⟨wr_blind _, hr, fun U hU hW1 => ⟨rfl, mk_wr hK hZ hS hPc hDc hF U hU hW1⟩⟩ rfl hn hsize rfl (lv_room hW) hdg hf) hS (fun q _ h => hF q h) hF (fun r u t H1 locs1 ht hvm hw hB hz hk hS1 => ?_)
  obtain ⟨hP1, hD1⟩ := hB
  rw [ht] at hP1
  obtain ⟨hP2, hD2⟩ := joinL hP hD is hC (hl u) (ha u) hk hF hP1 hD1
  exact kk r u H1 locs1 hw hP2 hD2 hS1
theorem wVv {T : Type} {post : T → Prop} {w1 : T → va_W} (S : CallFix p m c cc nL s args Ts own) (As : List Value) (is : List Nat) (hM : Met l y ws rm (va_Pc (.ref b :: As) (wr g wc H.size)) (va_Qv post (wB g (va_A wc H.size) w1) (va_A wc H.size)) mc ms (va_A wc H.size)) (cw : CallW R s args own C index y bytes maxL ret ws rm mc ms n) (hK : gK g s) (hZ : gZ g A s s.heap) (hS : va_S A s.heap H locs) (hP : va_P g.1 vwCl wl H) (hD : va_D A wl) (hA : ∀ q, s.heap.size ≤ q → A q) (hC : is.map (fun i => wl[i]?) = wc.map some) (hnd : is.Nodup) (hl : ∀ u, is.length ≤ (w1 u).length) (ha : ∀ u, ((w1 u).take is.length).map (·.1) = wc.map (·.1)) (hr : ∃ cell : Cell, H[b]? = some cell ∧ cell.vm.isStatics = false ∧ s.vm.findClass C = some cell.cls) (hn : As.length = n) (hsize : ls.size = nL) (hst : st0 = As.reverse ++ .ref b :: rest) (hW : (rest.map fun v => v.category).sum ≤ 8) (hdg : decode cc pc = .ok (.invokevirtual index, 3)) (hf : cells + mc ≤ R.cells ∧ slots + ms ≤ R.slots)
    (kk : ∀ (u : T) (H1 : Heap) (locs1 : List Loc), post u → va_P g.1 vwCl (setL wl is (w1 u)) H1 → va_D A (setL wl is (w1 u)) → va_S A s.heap H1 locs1 → W p l e R s m args below meth c H1 locs1 (cells + mc) (slots + ms) Q (F0 m (pc + 3) ls rest)) : W p l e R s m args below meth c H locs cells slots Q (F0 m pc ls st0) := by
  subst hst
  have hF := freeL hD hS hA is hC
  have hPc := subP hP is hC
  have hDc := subD hD is hnd hC
  refine va_callv (va_runV (g := F0 m pc ls _) S hM cw ⟨wr_blind _, hr, fun U hU hW1 => ⟨rfl, mk_wr hK hZ hS hPc hDc hF U hU hW1⟩⟩ rfl hn hsize rfl (lv_room hW) hdg hf) hS (fun q _ h => hF q h) hF (fun u t H1 locs1 ht hvm hw hB hz hk hS1 => ?_)
  obtain ⟨hP1, hD1⟩ := hB
  rw [ht] at hP1
  obtain ⟨hP2, hD2⟩ := joinL hP hD is hC (hl u) (ha u) hk hF hP1 hD1
  exact kk u H1 locs1 hw hP2 hD2 hS1
theorem wVl {T : Type} {post : Int64 → T → Prop} {w1 : T → va_W} (S : CallFix p m c cc nL s args Ts own) (As : List Value) (is : List Nat) (hM : Met l y ws rm (va_Pc (.ref b :: As) (wr g wc H.size)) (va_Ql post (wB g (va_A wc H.size) w1) (va_A wc H.size)) mc ms (va_A wc H.size)) (cw : CallW R s args own C index y bytes maxL ret ws rm mc ms n) (hK : gK g s) (hZ : gZ g A s s.heap) (hS : va_S A s.heap H locs) (hP : va_P g.1 vwCl wl H) (hD : va_D A wl) (hA : ∀ q, s.heap.size ≤ q → A q) (hC : is.map (fun i => wl[i]?) = wc.map some) (hnd : is.Nodup) (hl : ∀ u, is.length ≤ (w1 u).length) (ha : ∀ u, ((w1 u).take is.length).map (·.1) = wc.map (·.1)) (hr : ∃ cell : Cell, H[b]? = some cell ∧ cell.vm.isStatics = false ∧ s.vm.findClass C = some cell.cls) (hn : As.length = n) (hsize : ls.size = nL) (hst : st0 = As.reverse ++ .ref b :: rest) (hW : (rest.map fun v => v.category).sum ≤ 8) (hdg : decode cc pc = .ok (.invokevirtual index, 3)) (hf : cells + mc ≤ R.cells ∧ slots + ms ≤ R.slots)
    (kk : ∀ (r : Int64) (u : T) (H1 : Heap) (locs1 : List Loc), post r u → va_P g.1 vwCl (setL wl is (w1 u)) H1 → va_D A (setL wl is (w1 u)) → va_S A s.heap H1 locs1 → W p l e R s m args below meth c H1 locs1 (cells + mc) (slots + ms) Q (F0 m (pc + 3) ls (.long r :: rest))) : W p l e R s m args below meth c H locs cells slots Q (F0 m pc ls st0) := by
  subst hst
  have hF := freeL hD hS hA is hC
  have hPc := subP hP is hC
  have hDc := subD hD is hnd hC
  refine va_calll (va_runV (g := F0 m pc ls _) S hM cw ⟨wr_blind _, hr, fun U hU hW1 => ⟨rfl, mk_wr hK hZ hS hPc hDc hF U hU hW1⟩⟩ rfl hn hsize rfl (lv_room hW) hdg hf) hS (fun q _ h => hF q h) hF (fun r u t H1 locs1 ht hvm hw hB hz hk hS1 => ?_)
  obtain ⟨hP1, hD1⟩ := hB
  rw [ht] at hP1
  obtain ⟨hP2, hD2⟩ := joinL hP hD is hC (hl u) (ha u) hk hF hP1 hD1
  exact kk r u H1 locs1 hw hP2 hD2 hS1
/-- a constructor -/
theorem wIv {T : Type} {post : T → Prop} {w1 : T → va_W} (S : CallFix p m c cc nL s args Ts own) (As : List Value) (is : List Nat) (hM : Met l y ws rm (va_Pc (.ref b :: As) (wr g wc H.size)) (va_Qv post (wB g (va_A wc H.size) w1) (va_A wc H.size)) mc ms (va_A wc H.size)) (cw : CallB R s args own index y bytes maxL none ws rm mc ms n ∧ y.name = "<init>" ∧ (Cond.instanceMethod y).before args s = true) (hK : gK g s) (hZ : gZ g A s s.heap) (hS : va_S A s.heap H locs) (hP : va_P g.1 vwCl wl H) (hD : va_D A wl) (hA : ∀ q, s.heap.size ≤ q → A q) (hC : is.map (fun i => wl[i]?) = wc.map some) (hnd : is.Nodup) (hl : ∀ u, is.length ≤ (w1 u).length) (ha : ∀ u, ((w1 u).take is.length).map (·.1) = wc.map (·.1)) (hn : As.length = n) (hsize : ls.size = nL) (hst : st0 = As.reverse ++ .ref b :: rest) (hW : (rest.map fun v => v.category).sum ≤ 8) (hdg : decode cc pc = .ok (.invokespecial index, 3)) (hf : cells + mc ≤ R.cells ∧ slots + ms ≤ R.slots)
    (kk : ∀ (u : T) (H1 : Heap) (locs1 : List Loc), post u → va_P g.1 vwCl (setL wl is (w1 u)) H1 → va_D A (setL wl is (w1 u)) → va_S A s.heap H1 locs1 → W p l e R s m args below meth c H1 locs1 (cells + mc) (slots + ms) Q (F0 m (pc + 3) ls rest)) : W p l e R s m args below meth c H locs cells slots Q (F0 m pc ls st0) := by
  subst hst
  have hF := freeL hD hS hA is hC
  have hPc := subP hP is hC
  have hDc := subD hD is hnd hC
  refine va_callv (va_runI (g := F0 m pc ls _) S hM cw ⟨wr_blind _, fun U hU hW1 => ⟨rfl, mk_wr hK hZ hS hPc hDc hF U hU hW1⟩⟩ rfl hn hsize rfl (lv_room hW) hdg hf) hS (fun q _ h => hF q h) hF (fun u t H1 locs1 ht hvm hw hB hz hk hS1 => ?_)
  obtain ⟨hP1, hD1⟩ := hB
  rw [ht] at hP1
  obtain ⟨hP2, hD2⟩ := joinL hP hD is hC (hl u) (ha u) hk hF hP1 hD1
  exact kk u H1 locs1 hw hP2 hD2 hS1
theorem wINv {T : Type} {post : T → Prop} {w1 : T → va_W} (S : CallFix p m c cc nL s args Ts own) (As : List Value) (is : List Nat) (hM : Met l y ws rm (va_Pc (.ref b :: As) (wr g wc H.size)) (va_Qv post (wB g (va_A wc H.size) w1) (va_A wc H.size)) mc ms (va_A wc H.size)) (cw : va_CN R s args own index y host bytes maxL none ws rm mc ms n ∧ y.name = "<init>" ∧ (Cond.instanceMethod y).before args s = true) (hK : gK g s) (hZ : gZ g A s s.heap) (hS : va_S A s.heap H locs) (hP : va_P g.1 vwCl wl H) (hD : va_D A wl) (hA : ∀ q, s.heap.size ≤ q → A q) (hC : is.map (fun i => wl[i]?) = wc.map some) (hnd : is.Nodup) (hl : ∀ u, is.length ≤ (w1 u).length) (ha : ∀ u, ((w1 u).take is.length).map (·.1) = wc.map (·.1)) (hn : As.length = n) (hsize : ls.size = nL) (hst : st0 = As.reverse ++ .ref b :: rest) (hW : (rest.map fun v => v.category).sum ≤ 8) (hdg : decode cc pc = .ok (.invokespecial index, 3)) (hf : cells + mc ≤ R.cells ∧ slots + ms ≤ R.slots)
    (kk : ∀ (u : T) (H1 : Heap) (locs1 : List Loc), post u → va_P g.1 vwCl (setL wl is (w1 u)) H1 → va_D A (setL wl is (w1 u)) → va_S A s.heap H1 locs1 → W p l e R s m args below meth c H1 locs1 (cells + mc) (slots + ms) Q (F0 m (pc + 3) ls rest)) : W p l e R s m args below meth c H locs cells slots Q (F0 m pc ls st0) := by
  subst hst
  have hF := freeL hD hS hA is hC
  have hPc := subP hP is hC
  have hDc := subD hD is hnd hC
  refine va_callv (va_runIN (g := F0 m pc ls _) S hM cw ⟨wr_blind _, fun U hU hW1 => ⟨rfl, mk_wr hK hZ hS hPc hDc hF U hU hW1⟩⟩ rfl hn hsize rfl (lv_room hW) hdg hf) hS (fun q _ h => hF q h) hF (fun u t H1 locs1 ht hvm hw hB hz hk hS1 => ?_)
  obtain ⟨hP1, hD1⟩ := hB
  rw [ht] at hP1
  obtain ⟨hP2, hD2⟩ := joinL hP hD is hC (hl u) (ha u) hk hF hP1 hD1
  exact kk u H1 locs1 hw hP2 hD2 hS1
end RCALL
section RENDS
variable {p : Program} {l : Launch} {e : Env} {R : Room} {s : State} {m : MethodId} {args : Array Value} {below : List Frame} {meth : Method} {c : Code} {H : Heap} {locs : List Loc} {cells slots : Nat} {Q : State → Prop} {cc : ByteArray} {pc : Nat} {ls : Array Slot} {g : gE} {A : Nat → Prop}
theorem endRi {post : Int32 → Prop} {v : Int32} (hx : p.tables.exec = Jvm.exec) (hb : c.code = cc) (hr : meth.sig.returnType = some .int) (hlocks : meth.locks = false) (hdg : decode cc pc = .ok (.ireturn, 1)) (hp : post v) : W p l e R s m args below meth c s.heap [] cells slots (MQ below (vp_Si post) args s cells slots nA) (F0 m pc ls [.int v]) :=
  W.iret hx hb hr (fun t ht _ => ⟨v, rfl, hp, ht⟩) (fun _ h => by cases h) hdg hlocks
theorem endRz {post : Int32 → Prop} {v : Int32} {ty : FieldType} (hx : p.tables.exec = Jvm.exec) (hb : c.code = cc) (hr : meth.sig.returnType = some ty) (hlocks : meth.locks = false) (hdg : decode cc pc = .ok (.ireturn, 1)) (hn : narrow ty (.int v) = .int v) (hp : post v) : W p l e R s m args below meth c s.heap [] cells slots (MQ below (vp_Si post) args s cells slots nA) (F0 m pc ls [.int v]) :=
  W.zret hx hb hr hn (fun t ht _ => ⟨v, rfl, hp, ht⟩) (fun _ h => by cases h) hdg hlocks
theorem endRl {post : Int64 → Prop} {v : Int64} (hx : p.tables.exec = Jvm.exec) (hb : c.code = cc) (hr : meth.sig.returnType = some .long) (hlocks : meth.locks = false) (hdg : decode cc pc = .ok (.lreturn, 1)) (hp : post v) : W p l e R s m args below meth c s.heap [] cells slots (MQ below (vp_Sl post) args s cells slots nA) (F0 m pc ls [.long v]) :=
  W.lret hx hb hr (fun t ht _ => ⟨v, rfl, hp, ht⟩) (fun _ h => by cases h) hdg hlocks
theorem endRv {post : Unit → Prop} (hx : p.tables.exec = Jvm.exec) (hb : c.code = cc) (hr : meth.sig.returnType = none) (hlocks : meth.locks = false) (hdg : decode cc pc = .ok (.return_, 1)) (hp : post ()) : W p l e R s m args below meth c s.heap [] cells slots (MQ below (va_Sv post) args s cells slots nA) (F0 m pc ls []) :=
  W.vret hx hb hr (fun t ht _ => ⟨rfl, hp, ht⟩) (fun _ h => by cases h) hdg hlocks
theorem endRq {post : Option Nat → Prop} {v : Option Nat} {C : String} (hx : p.tables.exec = Jvm.exec) (hb : c.code = cc) (hr : meth.sig.returnType = some (.object C)) (hlocks : meth.locks = false) (hdg : decode cc pc = .ok (.areturn, 1)) (hp : post v) : W p l e R s m args below meth c s.heap [] cells slots (MQ below (va_Sq post) args s cells slots nA) (F0 m pc ls [va_rf v]) :=
  W.aret hx hb hr (Or.inl ⟨C, rfl⟩) (va_rf_or v) (fun t ht _ => ⟨v, rfl, hp, ht⟩) (fun _ h => by cases h) hdg hlocks
theorem endWi {T : Type} {post : Int32 → T → Prop} {w1 : T → va_W} {v : Int32} (u : T) (hx : p.tables.exec = Jvm.exec) (hb : c.code = cc) (hr : meth.sig.returnType = some .int) (hlocks : meth.locks = false) (hS : va_S A s.heap H locs) (hdg : decode cc pc = .ok (.ireturn, 1)) (hP : va_P g.1 vwCl (w1 u) H) (hD : va_D A (w1 u)) (hp : post v u) : W p l e R s m args below meth c H locs cells slots (MQ below (va_Qi post (wB g A w1) A) args s cells slots A) (F0 m pc ls [.int v]) :=
  W.iret hx hb hr (fun t ht _ => ⟨⟨v, u, rfl, hp, by rw [ht]; exact hP, hD⟩, hS.F ht⟩) hS.2.2 hdg hlocks
theorem endWz {T : Type} {post : Int32 → T → Prop} {w1 : T → va_W} {v : Int32} {ty : FieldType} (u : T) (hx : p.tables.exec = Jvm.exec) (hb : c.code = cc) (hr : meth.sig.returnType = some ty) (hlocks : meth.locks = false) (hS : va_S A s.heap H locs) (hdg : decode cc pc = .ok (.ireturn, 1)) (hn : narrow ty (.int v) = .int v) (hP : va_P g.1 vwCl (w1 u) H) (hD : va_D A (w1 u)) (hp : post v u) : W p l e R s m args below meth c H locs cells slots (MQ below (va_Qi post (wB g A w1) A) args s cells slots A) (F0 m pc ls [.int v]) :=
  W.zret hx hb hr hn (fun t ht _ => ⟨⟨v, u, rfl, hp, by rw [ht]; exact hP, hD⟩, hS.F ht⟩) hS.2.2 hdg hlocks
theorem endWl {T : Type} {post : Int64 → T → Prop} {w1 : T → va_W} {v : Int64} (u : T) (hx : p.tables.exec = Jvm.exec) (hb : c.code = cc) (hr : meth.sig.returnType = some .long) (hlocks : meth.locks = false) (hS : va_S A s.heap H locs) (hdg : decode cc pc = .ok (.lreturn, 1)) (hP : va_P g.1 vwCl (w1 u) H) (hD : va_D A (w1 u)) (hp : post v u) : W p l e R s m args below meth c H locs cells slots (MQ below (va_Ql post (wB g A w1) A) args s cells slots A) (F0 m pc ls [.long v]) :=
  W.lret hx hb hr (fun t ht _ => ⟨⟨v, u, rfl, hp, by rw [ht]; exact hP, hD⟩, hS.F ht⟩) hS.2.2 hdg hlocks
theorem endWv {T : Type} {post : T → Prop} {w1 : T → va_W} (u : T) (hx : p.tables.exec = Jvm.exec) (hb : c.code = cc) (hr : meth.sig.returnType = none) (hlocks : meth.locks = false) (hS : va_S A s.heap H locs) (hdg : decode cc pc = .ok (.return_, 1)) (hP : va_P g.1 vwCl (w1 u) H) (hD : va_D A (w1 u)) (hp : post u) : W p l e R s m args below meth c H locs cells slots (MQ below (va_Qv post (wB g A w1) A) args s cells slots A) (F0 m pc ls []) :=
  W.vret hx hb hr (fun t ht _ => ⟨⟨u, rfl, hp, by rw [ht]; exact hP, hD⟩, hS.F ht⟩) hS.2.2 hdg hlocks
end RENDS
section RBEG
variable {l : Launch} {y : MethodName} {ws ws' : List Cond} {rm : Room} {cc : ByteArray} {maxL mc ms sz : Nat} {ret : Option FieldType} {g : gE} {av : List Value} {wc : va_W} {Qc : Array Value → State → Outcome → State → Prop} {free : Nat → Prop}
/-- a reading contract's beginning -/
theorem ofRo (hy : plainName y.cls = true) (hw : ws = Cond.code y cc maxL ret :: ws') (hn : (lg_sl av).length ≤ maxL)
    (body : ∀ (p : Program) (e : Env) (s : State) (m : MethodId) (below : List Frame) (meth : Method) (c : Code), p.tables.exec = Jvm.exec → c.code = cc → meth.sig.returnType = ret → c.maxLocals = maxL → (∀ w ∈ ws, w.before av.toArray s = true) → s.vm.findClass y.cls = some m.cls → meth.locks = false → meth.name = y.name → va_P g.1 vwCl wc s.heap → gK g s → gZ g nA s s.heap → va_S nA s.heap s.heap [] → ∀ ls : Array Slot, lv_has ls maxL (lv_args 0 av) →
      W p l e (headSpec ws rm).room s m av.toArray below meth c s.heap [] 0 0 (MQ below Qc av.toArray s mc ms free) (F0 m 0 ls [])) : Met l y ws rm (va_Pc av (ro g wc)) Qc mc ms free := by
  refine Met.ofW (cc := cc) (maxL := maxL) (ret := ret) hy hw ?_
  intro p e s m args below meth c s₁ B hml hv
  obtain ⟨rfl, hP, hK, hZ⟩ := hv
  rw [lg_entry_eq]
  exact body p e s m below meth c B.exec B.bytes B.returns hml (atoms_spec (ws := ws) B.pre) (findClass_of_methodNamed B.named) B.notSynchronized (name_of_methodNamed B.named B.method).1 hP hK hZ va_S.rf _ (lv_entry av hn)
/-- a writing contract's beginning, by its answer -/
theorem ofWi {T : Type} {post : Int32 → T → Prop} {w1 : T → va_W} (hy : plainName y.cls = true) (hw : ws = Cond.code y cc maxL ret :: ws') (hn : (lg_sl av).length ≤ maxL)
    (body : ∀ (p : Program) (e : Env) (s : State) (m : MethodId) (below : List Frame) (meth : Method) (c : Code), p.tables.exec = Jvm.exec → c.code = cc → meth.sig.returnType = ret → c.maxLocals = maxL → (∀ w ∈ ws, w.before av.toArray s = true) → s.vm.findClass y.cls = some m.cls → meth.locks = false → meth.name = y.name → ∀ (A : Nat → Prop) (H : Heap), H = s.heap → (∀ q, s.heap.size ≤ q → A q) → va_P g.1 vwCl wc H → va_D A wc → gK g s → gZ g A s s.heap → va_S A s.heap H [] → ∀ ls : Array Slot, lv_has ls maxL (lv_args 0 av) →
      W p l e (headSpec ws rm).room s m av.toArray below meth c H [] 0 0 (MQ below (va_Qi post (wB g A w1) A) av.toArray s mc ms A) (F0 m 0 ls [])) : Met l y ws rm (va_Pc av (wr g wc sz)) (va_Qi post (wB g (va_A wc sz) w1) (va_A wc sz)) mc ms (va_A wc sz) := by
  refine Met.ofW (cc := cc) (maxL := maxL) (ret := ret) hy hw ?_
  intro p e s m args below meth c s₁ B hml hv
  obtain ⟨rfl, rfl, hP, hK, hD, hZ⟩ := hv
  rw [lg_entry_eq]
  exact body p e s m below meth c B.exec B.bytes B.returns hml (atoms_spec (ws := ws) B.pre) (findClass_of_methodNamed B.named) B.notSynchronized (name_of_methodNamed B.named B.method).1 (va_A wc s.heap.size) s.heap rfl (fun _ h => Or.inr h) hP (hD.self) hK hZ va_S.rf _ (lv_entry av hn)
theorem ofWl {T : Type} {post : Int64 → T → Prop} {w1 : T → va_W} (hy : plainName y.cls = true) (hw : ws = Cond.code y cc maxL ret :: ws') (hn : (lg_sl av).length ≤ maxL)
    (body : ∀ (p : Program) (e : Env) (s : State) (m : MethodId) (below : List Frame) (meth : Method) (c : Code), p.tables.exec = Jvm.exec → c.code = cc → meth.sig.returnType = ret → c.maxLocals = maxL → (∀ w ∈ ws, w.before av.toArray s = true) → s.vm.findClass y.cls = some m.cls → meth.locks = false → meth.name = y.name → ∀ (A : Nat → Prop) (H : Heap), H = s.heap → (∀ q, s.heap.size ≤ q → A q) → va_P g.1 vwCl wc H → va_D A wc → gK g s → gZ g A s s.heap → va_S A s.heap H [] → ∀ ls : Array Slot, lv_has ls maxL (lv_args 0 av) →
      W p l e (headSpec ws rm).room s m av.toArray below meth c H [] 0 0 (MQ below (va_Ql post (wB g A w1) A) av.toArray s mc ms A) (F0 m 0 ls [])) : Met l y ws rm (va_Pc av (wr g wc sz)) (va_Ql post (wB g (va_A wc sz) w1) (va_A wc sz)) mc ms (va_A wc sz) := by
  refine Met.ofW (cc := cc) (maxL := maxL) (ret := ret) hy hw ?_
  intro p e s m args below meth c s₁ B hml hv
  obtain ⟨rfl, rfl, hP, hK, hD, hZ⟩ := hv
  rw [lg_entry_eq]
  exact body p e s m below meth c B.exec B.bytes B.returns hml (atoms_spec (ws := ws) B.pre) (findClass_of_methodNamed B.named) B.notSynchronized (name_of_methodNamed B.named B.method).1 (va_A wc s.heap.size) s.heap rfl (fun _ h => Or.inr h) hP (hD.self) hK hZ va_S.rf _ (lv_entry av hn)
theorem ofWv {T : Type} {post : T → Prop} {w1 : T → va_W} (hy : plainName y.cls = true) (hw : ws = Cond.code y cc maxL ret :: ws') (hn : (lg_sl av).length ≤ maxL)
    (body : ∀ (p : Program) (e : Env) (s : State) (m : MethodId) (below : List Frame) (meth : Method) (c : Code), p.tables.exec = Jvm.exec → c.code = cc → meth.sig.returnType = ret → c.maxLocals = maxL → (∀ w ∈ ws, w.before av.toArray s = true) → s.vm.findClass y.cls = some m.cls → meth.locks = false → meth.name = y.name → ∀ (A : Nat → Prop) (H : Heap), H = s.heap → (∀ q, s.heap.size ≤ q → A q) → va_P g.1 vwCl wc H → va_D A wc → gK g s → gZ g A s s.heap → va_S A s.heap H [] → ∀ ls : Array Slot, lv_has ls maxL (lv_args 0 av) →
      W p l e (headSpec ws rm).room s m av.toArray below meth c H [] 0 0 (MQ below (va_Qv post (wB g A w1) A) av.toArray s mc ms A) (F0 m 0 ls [])) : Met l y ws rm (va_Pc av (wr g wc sz)) (va_Qv post (wB g (va_A wc sz) w1) (va_A wc sz)) mc ms (va_A wc sz) := by
  refine Met.ofW (cc := cc) (maxL := maxL) (ret := ret) hy hw ?_
  intro p e s m args below meth c s₁ B hml hv
  obtain ⟨rfl, rfl, hP, hK, hD, hZ⟩ := hv
  rw [lg_entry_eq]
  exact body p e s m below meth c B.exec B.bytes B.returns hml (atoms_spec (ws := ws) B.pre) (findClass_of_methodNamed B.named) B.notSynchronized (name_of_methodNamed B.named B.method).1 (va_A wc s.heap.size) s.heap rfl (fun _ h => Or.inr h) hP (hD.self) hK hZ va_S.rf _ (lv_entry av hn)
end RBEG
section RRE
variable {p : Program} {l : Launch} {e : Env} {R : Room} {s : State} {m : MethodId} {args : Array Value} {below : List Frame} {meth : Method} {c : Code} {H : Heap} {locs : List Loc} {cells slots : Nat} {Q : State → Prop} {pc : Nat} {ls : Array Slot} {rest : List Value}
theorem lv_rei {x x' : Int32} (h : x = x') (k : W p l e R s m args below meth c H locs cells slots Q (F0 m pc ls (.int x' :: rest))) : W p l e R s m args below meth c H locs cells slots Q (F0 m pc ls (.int x :: rest)) := by rw [h]; exact k
theorem lv_rel {x x' : Int64} (h : x = x') (k : W p l e R s m args below meth c H locs cells slots Q (F0 m pc ls (.long x' :: rest))) : W p l e R s m args below meth c H locs cells slots Q (F0 m pc ls (.long x :: rest)) := by rw [h]; exact k
theorem lv_req {r r' : Option Nat} (h : r = r') (k : W p l e R s m args below meth c H locs cells slots Q (F0 m pc ls (va_rf r' :: rest))) : W p l e R s m args below meth c H locs cells slots Q (F0 m pc ls (va_rf r :: rest)) := by rw [h]; exact k
theorem lv_reR {r : Option Nat} {a : Nat} (h : r = some a) (k : W p l e R s m args below meth c H locs cells slots Q (F0 m pc ls (.ref a :: rest))) : W p l e R s m args below meth c H locs cells slots Q (F0 m pc ls (va_rf r :: rest)) := by rw [h]; exact k
theorem lv_reN {r : Option Nat} (h : r = none) (k : W p l e R s m args below meth c H locs cells slots Q (F0 m pc ls (.null :: rest))) : W p l e R s m args below meth c H locs cells slots Q (F0 m pc ls (va_rf r :: rest)) := by rw [h]; exact k
end RRE
theorem nle0 {x : Int32} (h : x < 0) : ¬ 0 ≤ x := Int32.not_le.mpr h
/-- 1 where a number lies between two, else 0 -/
def inI (z lo hi : Int) : Int32 := if lo ≤ z ∧ z ≤ hi then 1 else 0
theorem inI_1 {z lo hi : Int} (h : lo ≤ z) (h2 : z ≤ hi) : inI z lo hi = 1 := if_pos ⟨h, h2⟩
theorem inI_0 {z lo hi : Int} (h : ¬ (lo ≤ z ∧ z ≤ hi)) : inI z lo hi = 0 := if_neg h
theorem inI_eq0 {z lo hi : Int} : inI z lo hi = 0 ↔ ¬ (lo ≤ z ∧ z ≤ hi) := by
  unfold inI
  split
  · rename_i h; exact ⟨fun q => absurd q (by decide), fun q => absurd h q⟩
  · rename_i h; exact ⟨fun _ => h, fun _ => rfl⟩
theorem lc_lt {x y : Int64} : lg_cmp x y < 0 ↔ x.toInt < y.toInt := by
  unfold lg_cmp
  rw [← Int64.lt_iff_toInt_lt]
  by_cases h1 : x > y
  · rw [if_pos h1]
    exact ⟨fun q => absurd q (by decide), fun q => absurd (Int64.lt_trans q h1) (Int64.lt_irrefl)⟩
  · rw [if_neg h1]
    by_cases h2 : x = y
    · rw [if_pos h2, h2]
      exact ⟨fun q => absurd q (by decide), fun q => absurd q (Int64.lt_irrefl)⟩
    · rw [if_neg h2]
      refine ⟨fun _ => ?_, fun _ => by decide⟩
      rw [Int64.lt_iff_toInt_lt]
      have h3 : ¬ y.toInt < x.toInt := fun q => h1 (Int64.lt_iff_toInt_lt.mpr q)
      have h4 : x.toInt ≠ y.toInt := fun q => h2 (Int64.toInt_inj.mp q)
      omega
theorem lc_val (x y : Int64) : (lg_cmp x y = 1 ∧ y.toInt < x.toInt) ∨ (lg_cmp x y = 0 ∧ x.toInt = y.toInt) ∨ (lg_cmp x y = -1 ∧ x.toInt < y.toInt) := by
  unfold lg_cmp
  by_cases h1 : x > y
  · rw [if_pos h1]
    exact Or.inl ⟨rfl, Int64.lt_iff_toInt_lt.mp h1⟩
  · rw [if_neg h1]
    by_cases h2 : x = y
    · rw [if_pos h2, h2]
      exact Or.inr (Or.inl ⟨rfl, rfl⟩)
    · rw [if_neg h2]
      have h3 : ¬ y.toInt < x.toInt := fun q => h1 (Int64.lt_iff_toInt_lt.mpr q)
      have h4 : x.toInt ≠ y.toInt := fun q => h2 (Int64.toInt_inj.mp q)
      exact Or.inr (Or.inr ⟨rfl, by omega⟩)
theorem lc_ge {x y : Int64} : 0 ≤ lg_cmp x y ↔ y.toInt ≤ x.toInt := by
  rcases lc_val x y with ⟨h, h2⟩ | ⟨h, h2⟩ | ⟨h, h2⟩ <;> rw [h]
  · exact ⟨fun _ => by omega, fun _ => by decide⟩
  · exact ⟨fun _ => by omega, fun _ => by decide⟩
  · exact ⟨fun q => absurd q (by decide), fun q => absurd h2 (by omega)⟩
theorem lc_gt {x y : Int64} : 0 < lg_cmp x y ↔ y.toInt < x.toInt := by
  rcases lc_val x y with ⟨h, h2⟩ | ⟨h, h2⟩ | ⟨h, h2⟩ <;> rw [h]
  · exact ⟨fun _ => by omega, fun _ => by decide⟩
  · exact ⟨fun q => absurd q (by decide), fun q => absurd h2 (by omega)⟩
  · exact ⟨fun q => absurd q (by decide), fun q => absurd h2 (by omega)⟩
theorem lc_le {x y : Int64} : lg_cmp x y ≤ 0 ↔ x.toInt ≤ y.toInt := by
  rcases lc_val x y with ⟨h, h2⟩ | ⟨h, h2⟩ | ⟨h, h2⟩ <;> rw [h]
  · exact ⟨fun q => absurd q (by decide), fun q => absurd h2 (by omega)⟩
  · exact ⟨fun _ => by omega, fun _ => by decide⟩
  · exact ⟨fun _ => by omega, fun _ => by decide⟩
theorem lc_eq {x y : Int64} : lg_cmp x y = 0 ↔ x.toInt = y.toInt := by
  rcases lc_val x y with ⟨h, h2⟩ | ⟨h, h2⟩ | ⟨h, h2⟩ <;> rw [h]
  · exact ⟨fun q => absurd q (by decide), fun q => absurd h2 (by omega)⟩
  · exact ⟨fun _ => h2, fun _ => rfl⟩
  · exact ⟨fun q => absurd q (by decide), fun q => absurd h2 (by omega)⟩
/-- ints as whole numbers -/
theorem ti_lt {x y : Int32} : x < y ↔ x.toInt < y.toInt := Int32.lt_iff_toInt_lt
theorem ti_le {x y : Int32} : x ≤ y ↔ x.toInt ≤ y.toInt := Int32.le_iff_toInt_le
theorem ti_eq {x y : Int32} : x = y ↔ x.toInt = y.toInt := Int32.toInt_inj.symm
theorem ti_n {n : Nat} (h : n < 2147483648) : (nI n).toInt = (n : Int) := nI_toInt (by omega)
theorem ti_0 : (0 : Int32).toInt = 0 := by decide
theorem tl_n {n : Nat} (h : n < 9223372036854775808) : (lN n).toInt = (n : Int) := pk_lT (by omega)
