/-! the law's state: the class's cells and the reference's side by side, and what binds them -/
abbrev KT : Type := Nat × Nat × Int32 × Int32 × Nat × Int32 × (Nat → Int32)
/-- the keys' cells, two a key -/
def kyW (g : gE) : List KT → va_W
  | [] => []
  | q :: r => (q.1, .inr (3, [.int q.2.2.1, .int q.2.2.2.1, .ref q.2.1, .int (nI q.2.2.2.2.1), .int q.2.2.2.2.2.1])) :: (q.2.1, .inl (g.2.1 1, 32, .inl q.2.2.2.2.2.2)) :: kyW g r
theorem kyW_0 {g : gE} : ∀ {KL : List KT} {i k kb nz : Nat} {fr un cl : Int32} {f : Nat → Int32}, KL[i]? = some (k, kb, fr, un, nz, cl, f) → (kyW g KL)[2 * i]? = some (k, .inr (3, [.int fr, .int un, .ref kb, .int (nI nz), .int cl]))
  | [], _, _, _, _, _, _, _, _, h => by simp at h
  | q :: r, 0, _, _, _, _, _, _, _, h => by
    cases h
    rfl
  | q :: r, i + 1, _, _, _, _, _, _, _, h => by
    rw [show 2 * (i + 1) = 2 * i + 1 + 1 by omega]
    exact kyW_0 (KL := r) (by simpa using h)
theorem kyW_1 {g : gE} : ∀ {KL : List KT} {i k kb nz : Nat} {fr un cl : Int32} {f : Nat → Int32}, KL[i]? = some (k, kb, fr, un, nz, cl, f) → (kyW g KL)[2 * i + 1]? = some (kb, .inl (g.2.1 1, 32, .inl f))
  | [], _, _, _, _, _, _, _, _, h => by simp at h
  | q :: r, 0, _, _, _, _, _, _, _, h => by
    cases h
    rfl
  | q :: r, i + 1, _, _, _, _, _, _, _, h => by
    rw [show 2 * (i + 1) + 1 = 2 * i + 1 + 1 + 1 by omega]
    exact kyW_1 (KL := r) (by simpa using h)
theorem kyW_s {g : gE} : ∀ (KL : List KT) (i k kb nz : Nat) (fr un cl : Int32) (f : Nat → Int32), i < KL.length → ((kyW g KL).set (2 * i) (k, .inr (3, [.int fr, .int un, .ref kb, .int (nI nz), .int cl]))).set (2 * i + 1) (kb, .inl (g.2.1 1, 32, .inl f)) = kyW g (KL.set i (k, kb, fr, un, nz, cl, f))
  | [], _, _, _, _, _, _, _, _, h => by simp at h
  | q :: r, 0, _, _, _, _, _, _, _, h => rfl
  | q :: r, i + 1, k, kb, nz, fr, un, cl, f, h => by
    have e := kyW_s (g := g) r i k kb nz fr un cl f (by simpa using h)
    rw [show 2 * (i + 1) = 2 * i + 1 + 1 by omega]
    show _ :: _ :: ((kyW g r).set (2 * i) _).set (2 * i + 1) _ = _
    rw [e]
    rfl
theorem kyW_p {g : gE} : ∀ (KL : List KT) (k kb nz : Nat) (fr un cl : Int32) (f : Nat → Int32), (kyW g KL ++ [(k, .inr (3, [.int fr, .int un, .ref kb, .int (nI nz), .int cl]))]) ++ [(kb, .inl (g.2.1 1, 32, .inl f))] = kyW g (KL ++ [(k, kb, fr, un, nz, cl, f)])
  | [], _, _, _, _, _, _, _ => rfl
  | q :: r, k, kb, nz, fr, un, cl, f => by
    show _ :: _ :: ((kyW g r ++ _) ++ _) = _
    rw [kyW_p r k kb nz fr un cl f]
    rfl
/-- the keys: what the reference has of each -/
def PKs (kn : Nat) (KL : List KT) (fk : Nat → Option Nat) (kf ku fz fus fx : Nat → Int32) : Prop := ∀ j, j < kn → ∃ (k kb nz : Nat) (f : Nat → Int32), KL[j]? = some (k, kb, kf j, ku j, nz, fus j, f) ∧ fk j = some k ∧ fz j = nI nz ∧ nz ≤ 32 ∧ ∀ e, e < nz → f e = fx (32 * j + e)
theorem PKs.push {kn : Nat} {KL : List KT} {fk : Nat → Option Nat} {kf ku fz fus fx : Nat → Int32} (h : PKs kn KL fk kf ku fz fus fx) (hlen : KL.length = kn) (h0 : fz kn = nI 0) (h1 : fus kn = 0) (q qb : Nat) (x y : Int32) : PKs (kn + 1) (KL ++ [(q, qb, x, y, 0, 0, fun _ => 0)]) (va_up fk kn (some q)) (upd kf kn x) (upd ku kn y) fz fus fx := by
  intro j hj
  by_cases e : j = kn
  · subst e
    refine ⟨q, qb, 0, fun _ => 0, ?_, va_up_self _ _ _, h0, by omega, fun e h => absurd h (Nat.not_lt_zero e)⟩
    rw [List.getElem?_append_right (by omega), hlen, Nat.sub_self, pk_us, pk_us, h1]
    rfl
  · obtain ⟨k, kb, nz, f, a1, a2, a3, a4, a5⟩ := h j (by omega)
    refine ⟨k, kb, nz, f, ?_, by rw [va_up_ne _ _ e]; exact a2, a3, a4, a5⟩
    rw [List.getElem?_append_left (by omega), pk_un e, pk_un e]
    exact a1
theorem PKs.byte {kn : Nat} {KL : List KT} {fk : Nat → Option Nat} {kf ku fz fus fx : Nat → Int32} (h : PKs kn KL fk kf ku fz fus fx) (hlen : KL.length = kn) {j k kb nz : Nat} {f : Nat → Int32} (hj : j < kn) (hk : fk j = some k) (hz : nz < 32) (hf : ∀ e, e < nz → f e = fx (32 * j + e)) (hu : fus j = 0) (v : Int32) : PKs kn (KL.set j (k, kb, kf j, ku j, nz + 1, 0, upd f nz v)) fk kf ku (upd fz j (nI (nz + 1))) fus (upd fx (32 * j + nz) v) := by
  intro i hi
  by_cases e : i = j
  · subst e
    refine ⟨k, kb, nz + 1, upd f nz v, ?_, hk, pk_us, by omega, fun a ha => ?_⟩
    · rw [List.getElem?_set_self (by omega), hu]
    · by_cases q : a = nz
      · subst q
        rw [pk_us, pk_us]
      · rw [pk_un q, pk_un (by omega)]
        exact hf a (by omega)
  · obtain ⟨k2, kb2, nz2, f2, a1, a2, a3, a4, a5⟩ := h i hi
    refine ⟨k2, kb2, nz2, f2, ?_, a2, by rw [pk_un e]; exact a3, a4, fun a ha => ?_⟩
    · rw [List.getElem?_set_ne (Ne.symm e)]
      exact a1
    · rw [pk_un (by omega)]
      exact a5 a ha
theorem PKs.close {kn : Nat} {KL : List KT} {fk : Nat → Option Nat} {kf ku fz fus fx : Nat → Int32} (h : PKs kn KL fk kf ku fz fus fx) (hlen : KL.length = kn) {j k kb nz : Nat} {f : Nat → Int32} (hj : j < kn) (hk : fk j = some k) (hfz : fz j = nI nz) (hz : nz ≤ 32) (hf : ∀ e, e < nz → f e = fx (32 * j + e)) : PKs kn (KL.set j (k, kb, kf j, ku j, nz, nI 1, f)) fk kf ku fz (upd fus j (nI 1)) fx := by
  intro i hi
  by_cases e : i = j
  · subst e
    refine ⟨k, kb, nz, f, ?_, hk, hfz, hz, hf⟩
    rw [List.getElem?_set_self (by omega), pk_us]
  · obtain ⟨k2, kb2, nz2, f2, a1, a2, a3, a4, a5⟩ := h i hi
    refine ⟨k2, kb2, nz2, f2, ?_, a2, a3, a4, a5⟩
    rw [List.getElem?_set_ne (Ne.symm e), pk_un e]
    exact a1
theorem PKs.same {kn : Nat} {KL : List KT} {fk : Nat → Option Nat} {kf ku fz fus fx : Nat → Int32} (h : PKs kn KL fk kf ku fz fus fx) {j k kb nz : Nat} {f : Nat → Int32} (h1 : KL[j]? = some (k, kb, kf j, ku j, nz, fus j, f)) : KL.set j (k, kb, kf j, ku j, nz, fus j, f) = KL := by
  apply List.ext_getElem?
  intro i
  by_cases e : i = j
  · subst e
    rw [List.getElem?_set_self (List.getElem?_eq_some_iff.mp h1).1, h1]
  · rw [List.getElem?_set_ne (Ne.symm e)]
/-- what binds the class's numbers and the reference's, behind n calls -/
def PI (n kn mn tn : Nat) (sp rk has : Int32) (fk : Nat → Option Nat) (fl ff fs kf ku fz fus fx fl2 fe fr9 fb9 : Nat → Int32) (KL : List KT) : Prop :=
  kn ≤ 15 ∧ KL.length = kn ∧ PKs kn KL fk kf ku fz fus fx ∧ (∀ j, kn ≤ j → j < 15 → fz j = nI 0 ∧ fus j = 0) ∧ mn ≤ n ∧ tn ≤ 40 ∧ (sp = -1 ∨ ∃ j, j < 16384 ∧ sp = nI j) ∧ (∀ j, ff j = nI 0 ∨ ff j = nI 1 ∨ ff j = nI 2) ∧
  ((has = 0 ∧ ∀ j, j < 16 → fl j = nI 0) ∨ (has = nI 1 ∧ ∀ j, j < 16 → fl j = fl2 j)) ∧ (rk = 0 ∨ (rk = 1 ∧ ∀ j, j < 32 → fe j = oB (fs (j / 4)) (24 - 8 * (j % 4)))) ∧ (∀ j, j < 64 → fr9 j = sK j) ∧ ∀ j, j < 8 → fb9 j = sBeg j
/-- the law's state behind n calls -/
def LI (g : gE) (s0 ks lt ty lg fa da ch dg wa st m0 qf qu qz qd qx ql qg qb qy qc qe qw qt qr qi ao : Nat) (A : Nat → Prop) (n : Nat) (H : Heap) : Prop :=
  ∃ (kn mn tn : Nat) (cc sp rk th has : Int32) (fk : Nat → Option Nat) (fl ft ff fd fc fw fs kf ku fz fus fx fl2 fe fw2 fs2 fr9 fb9 : Nat → Int32) (fo : Nat → Int64) (KL : List KT), va_P g.1 vwCl ((s0, .inr (5, [.ref ks, .int (nI kn), .int (nI mn), .ref lt, .ref ty, .int (nI tn), .int cc, .int sp, .ref lg, .ref dg])) :: (ks, .inl (g.2.1 4, 15, .inr (.inr (.inr (.inr fk))))) :: (lt, .inl (g.2.1 0, 16, .inl fl)) :: (ty, .inl (g.2.1 0, 40, .inl ft)) :: (lg, .inr (4, [.ref fa, .ref da, .ref ch])) :: (fa, .inl (g.2.1 1, 16384, .inl ff)) :: (da, .inl (g.2.1 0, 16384, .inl fd)) :: (ch, .inl (g.2.1 0, 16384, .inl fc)) :: (dg, .inr (2, [.ref wa, .ref st, .int rk])) :: (wa, .inl (g.2.1 0, 64, .inl fw)) :: (st, .inl (g.2.1 0, 8, .inl fs)) :: (m0, .inr (6, [.int th, .int (nI kn), .ref qf, .ref qu, .ref qz, .ref qd, .ref qx, .int (nI mn), .int has, .ref ql, .int (nI tn), .ref qg, .int cc, .ref qb, .ref qy, .ref qc, .int sp, .int rk, .ref qe, .ref qw, .ref qt, .ref qr, .ref qi])) :: (qf, .inl (g.2.1 0, 15, .inl kf)) :: (qu, .inl (g.2.1 0, 15, .inl ku)) :: (qz, .inl (g.2.1 0, 15, .inl fz)) :: (qd, .inl (g.2.1 2, 15, .inl fus)) :: (qx, .inl (g.2.1 1, 480, .inl fx)) :: (ql, .inl (g.2.1 0, 16, .inl fl2)) :: (qg, .inl (g.2.1 0, 40, .inl ft)) :: (qb, .inl (g.2.1 1, 16384, .inl ff)) :: (qy, .inl (g.2.1 0, 16384, .inl fd)) :: (qc, .inl (g.2.1 0, 16384, .inl fc)) :: (qe, .inl (g.2.1 1, 32, .inl fe)) :: (qw, .inl (g.2.1 0, 64, .inl fw2)) :: (qt, .inl (g.2.1 0, 8, .inl fs2)) :: (qr, .inl (g.2.1 0, 64, .inl fr9)) :: (qi, .inl (g.2.1 0, 8, .inl fb9)) :: (ao, .inl (g.2.1 3, 1, .inr (.inl fo))) :: kyW g KL) H ∧ va_D A ((s0, .inr (5, [.ref ks, .int (nI kn), .int (nI mn), .ref lt, .ref ty, .int (nI tn), .int cc, .int sp, .ref lg, .ref dg])) :: (ks, .inl (g.2.1 4, 15, .inr (.inr (.inr (.inr fk))))) :: (lt, .inl (g.2.1 0, 16, .inl fl)) :: (ty, .inl (g.2.1 0, 40, .inl ft)) :: (lg, .inr (4, [.ref fa, .ref da, .ref ch])) :: (fa, .inl (g.2.1 1, 16384, .inl ff)) :: (da, .inl (g.2.1 0, 16384, .inl fd)) :: (ch, .inl (g.2.1 0, 16384, .inl fc)) :: (dg, .inr (2, [.ref wa, .ref st, .int rk])) :: (wa, .inl (g.2.1 0, 64, .inl fw)) :: (st, .inl (g.2.1 0, 8, .inl fs)) :: (m0, .inr (6, [.int th, .int (nI kn), .ref qf, .ref qu, .ref qz, .ref qd, .ref qx, .int (nI mn), .int has, .ref ql, .int (nI tn), .ref qg, .int cc, .ref qb, .ref qy, .ref qc, .int sp, .int rk, .ref qe, .ref qw, .ref qt, .ref qr, .ref qi])) :: (qf, .inl (g.2.1 0, 15, .inl kf)) :: (qu, .inl (g.2.1 0, 15, .inl ku)) :: (qz, .inl (g.2.1 0, 15, .inl fz)) :: (qd, .inl (g.2.1 2, 15, .inl fus)) :: (qx, .inl (g.2.1 1, 480, .inl fx)) :: (ql, .inl (g.2.1 0, 16, .inl fl2)) :: (qg, .inl (g.2.1 0, 40, .inl ft)) :: (qb, .inl (g.2.1 1, 16384, .inl ff)) :: (qy, .inl (g.2.1 0, 16384, .inl fd)) :: (qc, .inl (g.2.1 0, 16384, .inl fc)) :: (qe, .inl (g.2.1 1, 32, .inl fe)) :: (qw, .inl (g.2.1 0, 64, .inl fw2)) :: (qt, .inl (g.2.1 0, 8, .inl fs2)) :: (qr, .inl (g.2.1 0, 64, .inl fr9)) :: (qi, .inl (g.2.1 0, 8, .inl fb9)) :: (ao, .inl (g.2.1 3, 1, .inr (.inl fo))) :: kyW g KL) ∧ PI n kn mn tn sp rk has fk fl ff fs kf ku fz fus fx fl2 fe fr9 fb9 KL
/-- two ints as a long, as the law lays them together -/
def lgE (x y : Int32) : Int64 := (x.toInt64 <<< ((nI 32).toInt64 &&& 63)) ||| (y.toInt64 &&& (lN 4294967295))
theorem i32_of {x : Int32} (h : 0 ≤ x.toInt) : ∃ j : Nat, j < 2147483648 ∧ x = nI j ∧ x.toInt = (j : Int) := by
  obtain ⟨j, h1, h2⟩ := nI_of (x := x) (fun q => by rw [ti_lt, ti_0] at q; omega)
  exact ⟨j, by omega, h2, by rw [h2]; exact ti_n (by omega)⟩
theorem i64_of {x : Int64} (h : 0 ≤ x.toInt) : ∃ j : Nat, j < 9223372036854775808 ∧ x = lN j ∧ x.toInt = (j : Int) := by
  obtain ⟨j, h1, h2⟩ := pk_lOf (x := x) (fun q => by rw [Int64.lt_iff_toInt_lt] at q; have : (0 : Int64).toInt = 0 := by decide
                                                     omega)
  exact ⟨j, by omega, h2, by rw [h2]; exact tl_n (by omega)⟩
/-- the letters told are the same -/
theorem lt_same {has : Int32} {fl fl2 : Nat → Int32} (h : (has = 0 ∧ ∀ j, j < 16 → fl j = nI 0) ∨ (has = nI 1 ∧ ∀ j, j < 16 → fl j = fl2 j)) {j : Nat} (hj : j < 16) : fl j = if has = 0 then nI 0 else fl2 j := by
  rcases h with ⟨h1, h2⟩ | ⟨h1, h2⟩
  · rw [if_pos h1]; exact h2 j hj
  · rw [if_neg (by rw [h1]; decide)]; exact h2 j hj
/-- what became of the numbers: 0, 1 or 2 -/
def FF (ff : Nat → Int32) : Prop := ∀ j, ff j = nI 0 ∨ ff j = nI 1 ∨ ff j = nI 2
theorem FF.put {ff : Nat → Int32} (h : FF ff) (i : Nat) {v : Int32} (hv : v = nI 0 ∨ v = nI 1 ∨ v = nI 2) : FF (upd ff i v) := by
  intro j
  unfold upd
  split
  · exact hv
  · exact h j
theorem FF.gt {ff : Nat → Int32} (h : FF ff) (ra : Int32) (x : Int32) (i : Nat) : FF (gtF ra (acF x ff i (nI 1)) ff) := by
  unfold gtF acF
  split
  · split
    · exact h
    · exact FF.put h i (Or.inr (Or.inl rfl))
  · exact h
theorem sp_gt {sp : Int32} (h : sp = -1 ∨ ∃ j, j < 16384 ∧ sp = nI j) (ra x : Int32) {i : Nat} (hi : i < 16384) : gtS ra (acS x sp i) sp = -1 ∨ ∃ j, j < 16384 ∧ gtS ra (acS x sp i) sp = nI j := by
  unfold gtS acS
  split
  · split
    · exact h
    · exact Or.inr ⟨i, hi, rfl⟩
  · exact h
theorem ff_pos {ff : Nat → Int32} (h : FF ff) {j : Nat} (h0 : ff j ≠ 0) : 0 < ff j := by
  rcases h j with q | q | q
  · exact absurd q h0
  · rw [q]; decide
  · rw [q]; decide
section RSW
variable {p : Program} {l : Launch} {e : Env} {R : Room} {s : State} {m : MethodId} {args : Array Value} {below : List Frame} {meth : Method} {c : Code} {H : Heap} {locs : List Loc} {cells slots : Nat} {Q : State → Prop}
variable {y : MethodName} {bytes cc : ByteArray} {maxL nL n index mc ms : Nat} {ret : Option FieldType} {ws : List Cond} {rm : Room} {Ts : List Cond} {own : String} {rest st0 : List Value} {pc : Nat} {ls : Array Slot} {g : gE} {A : Nat → Prop} {wc wl : va_W} {hh : List (Nat × Nat × Nat × Nat)}
/-- a writing call: static, of a method with handlers, answer an int -/
theorem wSWi {T : Type} {post : Int32 → T → Prop} {w1 : T → va_W} (S : CallFix p m c cc nL s args Ts own) (As : List Value) (is : List Nat) (hM : Met l y ws rm (va_Pc As (fun U => wr g wc H.size U ∧ gX U)) (va_Qi post (wB g (va_A wc H.size) w1) (va_A wc H.size)) mc ms (va_A wc H.size)) (cw : vx_CSW R s args own index y bytes maxL ret hh ws rm mc ms n) (hX : gX s) (hK : gK g s) (hZ : gZ g A s s.heap) (hS : va_S A s.heap H locs) (hP : va_P g.1 vwCl wl H) (hD : va_D A wl) (hA : ∀ q, s.heap.size ≤ q → A q) (hC : is.map (fun i => wl[i]?) = wc.map some) (hnd : is.Nodup) (hl : ∀ u, is.length ≤ (w1 u).length) (ha : ∀ u, ((w1 u).take is.length).map (·.1) = wc.map (·.1)) (hn : As.length = n) (hsize : ls.size = nL) (hst : st0 = As.reverse ++ rest) (hW : (rest.map fun v => v.category).sum ≤ 8) (hdg : decode cc pc = .ok (.invokestatic index, 3)) (hf : cells + mc ≤ R.cells ∧ slots + ms ≤ R.slots)
    (kk : ∀ (r : Int32) (u : T) (H1 : Heap) (locs1 : List Loc), post r u → va_P g.1 vwCl (setL wl is (w1 u)) H1 → va_D A (setL wl is (w1 u)) → va_S A s.heap H1 locs1 → W p l e R s m args below meth c H1 locs1 (cells + mc) (slots + ms) Q (F0 m (pc + 3) ls (.int r :: rest))) : W p l e R s m args below meth c H locs cells slots Q (F0 m pc ls st0) := by
  subst hst
  have hF := freeL hD hS hA is hC
  have hPc := subP hP is hC
  have hDc := subD hD is hnd hC
  refine va_calli (vx_runSW (g := F0 m pc ls _) S hM cw ⟨wx_blind _, fun U hU hW1 => ⟨rfl, mk_wr hK hZ hS hPc hDc hF U hU hW1, hX.moved hW1.alike⟩⟩ rfl hn hsize rfl (lv_room hW) hdg hf) hS (fun q _ h => hF q h) hF (fun r u t H1 locs1 ht hvm hw hB hz hk hS1 => ?_)
  obtain ⟨hP1, hD1⟩ := hB
  rw [ht] at hP1
  obtain ⟨hP2, hD2⟩ := joinL hP hD is hC (hl u) (ha u) hk hF hP1 hD1
  exact kk r u H1 locs1 hw hP2 hD2 hS1
end RSW
