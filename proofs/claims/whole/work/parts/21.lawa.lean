set_option maxHeartbeats 4000000 in
set_option maxRecDepth 100000 in
/-- letter -/
theorem law_c3 {p : Program} {l : Launch} {e : Env} {s : State} {m : MethodId} {below : List Frame} {meth : Method} {c : Code} {b Lx : Nat} {xs : Nat → Int32} {g : gE} {A : Nat → Prop} {Q : State → Prop} (hfl : l.stackTraces = false) (hx : p.tables.exec = Jvm.exec) (hb : c.code = code) (hml : c.maxLocals = 7) (hown : s.vm.findClass RL = some m.cls) (htl : ∀ w ∈ lw_tbl, w.before #[Value.ref b] s = true) (hXs : va_X b Lx xs s s.heap) (hbl : b < s.heap.size) (hbA : ¬ A b) (hA : ∀ q, s.heap.size ≤ q → A q) (hK : gK g s) (hZ : gZ g A s s.heap) (hX : gX s) {s0 ks lt ty lg fa da ch dg wa st m0 qf qu qz qd qx ql qg qb qy qc qe qw qt qr qi ao : Nat} {n i cells slots : Nat} (hi : i + 6 ≤ Lx) (hLx : Lx ≤ 3072) (hn : n < 512) (hce : cells + 2 ≤ 603072) (hsl : slots + 40 ≤ 7219306) {H : Heap} {locs : List Loc} (hLI : LI g s0 ks lt ty lg fa da ch dg wa st m0 qf qu qz qd qx ql qg qb qy qc qe qw qt qr qi ao A n H) (hS : va_S A s.heap H locs) {ls : Array Slot} (hl : lv_has ls 7 [(0, .ref b), (1, .ref s0), (2, .ref m0), (3, .ref ao), (4, .int (nI i))])
    (kk : ∀ (H : Heap) (locs : List Loc), LI g s0 ks lt ty lg fa da ch dg wa st m0 qf qu qz qd qx ql qg qb qy qc qe qw qt qr qi ao A (n + 1) H → va_S A s.heap H locs → ∀ ls : Array Slot, lv_has ls 7 [(0, .ref b), (1, .ref s0), (2, .ref m0), (3, .ref ao), (4, .int (nI i))] → W p l e room_1 s m #[Value.ref b] below meth c H locs (cells + 2) (slots + 40) Q (F0 m 645 ls [])) : W p l e room_1 s m #[Value.ref b] below meth c H locs cells slots Q (F0 m 331 ls []) := by
  have hts : ∀ w ∈ wsL_law, w.before #[Value.ref b] s = true := fun w hw => htl w (wsL_law_in w hw)
  obtain ⟨kn, mn, tn, cc, sp, rk, th, has, fk, fl, ft, ff, fd, fc, fw, fs, kf, ku, fz, fus, fx, fl2, fe, fw2, fs2, fr9, fb9, fo, KL, hP, hD, ⟨hkn, hlen, hKs, hfree, hmn, htn, hsp, hff, hlt, hrk, hr9, hb9⟩⟩ := hLI
  obtain ⟨x1, ex1⟩ : ∃ z, z = xs (i + 1) := ⟨_, rfl⟩
  by_cases h0 : 0 ≤ x1.toInt ∧ x1.toInt < 16
  · obtain ⟨j, hjb, ejn, tjn⟩ := i32_of (x := x1) (by omega)
    subst ejn
    have hj : j < 16 := by omega
    refine lv_aload_n hx hb dL_law_331 rfl (lv_at hl 1 rfl) ?_
    refine lv_aload_n hx hb dL_law_332 rfl (lv_at hl 0 rfl) ?_
    refine lv_iload hx hb dL_law_333 (lv_at hl 4 rfl) ?_
    refine lv_iconst (v := (nI 1)) hx hb dL_law_335 (by decide) ?_
    refine lv_iadd hx hb dL_law_336 ?_
    refine lv_rei (x' := (nI (i + 1))) (nI_add _ _) ?_
    refine va_sld hx hb hXs hbl hbA hS (vp_in_nI (by omega) (by omega)) dL_law_337 ?_
    refine lv_rei (x' := (nI j)) ((congrArg xs (nI_clamp (by omega))).trans ex1.symm) ?_
    refine cVi (rest := []) ⟨hx, hb, hml, hown, hts⟩ [.int (nI j)] (c_X4_letter_in l g (s0 := s0) (ks := ks) (lt := lt) (ty := ty) (lg := lg) (dg := dg) (kn := kn) (mn := mn) (tn := tn) (cc := cc) (sp := sp) (fl := fl) (i := j) hj) (cwV 1 hts gL_law_X4_letter rfl rfl rfl (by decide +kernel) ⟨Nat.le_of_ble_eq_true rfl, Nat.le_of_ble_eq_true rfl⟩) hK hZ hS (subP hP [0, 2] rfl) (va_recv hK.1 hP (ci := 5) (q0 := 0) rfl rfl) rfl hl.1 rfl (Nat.le_of_ble_eq_true rfl) dL_law_338 ⟨show cells ≤ 603072 by omega, show slots ≤ 7219306 by omega⟩ (fun r_260 hr_260 => ?_)
    refine lv_rei (x' := (fl j)) (hr_260) ?_
    refine lv_aload_n hx hb dL_law_341 rfl (lv_at hl 2 rfl) ?_
    refine lv_aload_n hx hb dL_law_342 rfl (lv_at hl 0 rfl) ?_
    refine lv_iload hx hb dL_law_343 (lv_at hl 4 rfl) ?_
    refine lv_iconst (v := (nI 1)) hx hb dL_law_345 (by decide) ?_
    refine lv_iadd hx hb dL_law_346 ?_
    refine lv_rei (x' := (nI (i + 1))) (nI_add _ _) ?_
    refine va_sld hx hb hXs hbl hbA hS (vp_in_nI (by omega) (by omega)) dL_law_347 ?_
    refine lv_rei (x' := (nI j)) ((congrArg xs (nI_clamp (by omega))).trans ex1.symm) ?_
    refine wVi (rest := [.int (fl j)]) ⟨hx, hb, hml, hown, hts⟩ [.int (nI j)] [11, 17] (c_X5_letter_in l g H.size (m0 := m0) (kn := kn) (mn := mn) (tn := tn) (qf := qf) (qu := qu) (qz := qz) (qd := qd) (qx := qx) (ql := ql) (qg := qg) (qb := qb) (qy := qy) (qc := qc) (qe := qe) (qw := qw) (qt := qt) (qr := qr) (qi := qi) (th := th) (has := has) (cc := cc) (sp := sp) (rk := rk) (fl := fl2) (i := j) hj) (cwV 1 hts gL_law_X5_letter rfl rfl rfl (by decide +kernel) ⟨Nat.le_of_ble_eq_true rfl, Nat.le_of_ble_eq_true rfl⟩) hK hZ hS hP hD hA rfl (by decide) (fun _ => Nat.le_of_ble_eq_true rfl) (fun _ => rfl) (va_recv hK.1 hP (ci := 6) (q0 := 11) rfl rfl) rfl hl.1 rfl (Nat.le_of_ble_eq_true rfl) dL_law_348 ⟨show cells + 0 ≤ 603072 by omega, show slots + 0 ≤ 7219306 by omega⟩ (fun r_261 u H locs hr_261 hP hD hS => ?_)
    have hP : va_P g.1 vwCl ((s0, .inr (5, [.ref ks, .int (nI kn), .int (nI mn), .ref lt, .ref ty, .int (nI tn), .int cc, .int sp, .ref lg, .ref dg])) :: (ks, .inl (g.2.1 4, 15, .inr (.inr (.inr (.inr fk))))) :: (lt, .inl (g.2.1 0, 16, .inl fl)) :: (ty, .inl (g.2.1 0, 40, .inl ft)) :: (lg, .inr (4, [.ref fa, .ref da, .ref ch])) :: (fa, .inl (g.2.1 1, 16384, .inl ff)) :: (da, .inl (g.2.1 0, 16384, .inl fd)) :: (ch, .inl (g.2.1 0, 16384, .inl fc)) :: (dg, .inr (2, [.ref wa, .ref st, .int rk])) :: (wa, .inl (g.2.1 0, 64, .inl fw)) :: (st, .inl (g.2.1 0, 8, .inl fs)) :: (m0, .inr (6, [.int (nI 0), .int (nI kn), .ref qf, .ref qu, .ref qz, .ref qd, .ref qx, .int (nI mn), .int has, .ref ql, .int (nI tn), .ref qg, .int cc, .ref qb, .ref qy, .ref qc, .int sp, .int rk, .ref qe, .ref qw, .ref qt, .ref qr, .ref qi])) :: (qf, .inl (g.2.1 0, 15, .inl kf)) :: (qu, .inl (g.2.1 0, 15, .inl ku)) :: (qz, .inl (g.2.1 0, 15, .inl fz)) :: (qd, .inl (g.2.1 2, 15, .inl fus)) :: (qx, .inl (g.2.1 1, 480, .inl fx)) :: (ql, .inl (g.2.1 0, 16, .inl fl2)) :: (qg, .inl (g.2.1 0, 40, .inl ft)) :: (qb, .inl (g.2.1 1, 16384, .inl ff)) :: (qy, .inl (g.2.1 0, 16384, .inl fd)) :: (qc, .inl (g.2.1 0, 16384, .inl fc)) :: (qe, .inl (g.2.1 1, 32, .inl fe)) :: (qw, .inl (g.2.1 0, 64, .inl fw2)) :: (qt, .inl (g.2.1 0, 8, .inl fs2)) :: (qr, .inl (g.2.1 0, 64, .inl fr9)) :: (qi, .inl (g.2.1 0, 8, .inl fb9)) :: (ao, .inl (g.2.1 3, 1, .inr (.inl fo))) :: kyW g KL) H := hP
    have hD : va_D A ((s0, .inr (5, [.ref ks, .int (nI kn), .int (nI mn), .ref lt, .ref ty, .int (nI tn), .int cc, .int sp, .ref lg, .ref dg])) :: (ks, .inl (g.2.1 4, 15, .inr (.inr (.inr (.inr fk))))) :: (lt, .inl (g.2.1 0, 16, .inl fl)) :: (ty, .inl (g.2.1 0, 40, .inl ft)) :: (lg, .inr (4, [.ref fa, .ref da, .ref ch])) :: (fa, .inl (g.2.1 1, 16384, .inl ff)) :: (da, .inl (g.2.1 0, 16384, .inl fd)) :: (ch, .inl (g.2.1 0, 16384, .inl fc)) :: (dg, .inr (2, [.ref wa, .ref st, .int rk])) :: (wa, .inl (g.2.1 0, 64, .inl fw)) :: (st, .inl (g.2.1 0, 8, .inl fs)) :: (m0, .inr (6, [.int (nI 0), .int (nI kn), .ref qf, .ref qu, .ref qz, .ref qd, .ref qx, .int (nI mn), .int has, .ref ql, .int (nI tn), .ref qg, .int cc, .ref qb, .ref qy, .ref qc, .int sp, .int rk, .ref qe, .ref qw, .ref qt, .ref qr, .ref qi])) :: (qf, .inl (g.2.1 0, 15, .inl kf)) :: (qu, .inl (g.2.1 0, 15, .inl ku)) :: (qz, .inl (g.2.1 0, 15, .inl fz)) :: (qd, .inl (g.2.1 2, 15, .inl fus)) :: (qx, .inl (g.2.1 1, 480, .inl fx)) :: (ql, .inl (g.2.1 0, 16, .inl fl2)) :: (qg, .inl (g.2.1 0, 40, .inl ft)) :: (qb, .inl (g.2.1 1, 16384, .inl ff)) :: (qy, .inl (g.2.1 0, 16384, .inl fd)) :: (qc, .inl (g.2.1 0, 16384, .inl fc)) :: (qe, .inl (g.2.1 1, 32, .inl fe)) :: (qw, .inl (g.2.1 0, 64, .inl fw2)) :: (qt, .inl (g.2.1 0, 8, .inl fs2)) :: (qr, .inl (g.2.1 0, 64, .inl fr9)) :: (qi, .inl (g.2.1 0, 8, .inl fb9)) :: (ao, .inl (g.2.1 3, 1, .inr (.inl fo))) :: kyW g KL) := hD
    refine lv_rei (x' := (fl j)) (by rw [hr_261]; exact (lt_same hlt hj).symm) ?_
    refine lv_icmp_eq (tgt := 645) hx hb dL_law_351 (by decide) (fun _ => ?_) (fun c9 => absurd (rfl) c9)
    refine W.widen (k := cells + 2) (n := slots + 40) (by omega) (by omega) ?_
    exact kk _ _ ⟨kn, mn, tn, cc, sp, rk, (nI 0), has, fk, fl, ft, ff, fd, fc, fw, fs, kf, ku, fz, fus, fx, fl2, fe, fw2, fs2, fr9, fb9, fo, KL, hP, hD, ⟨hkn, hlen, hKs, hfree, by omega, htn, hsp, hff, hlt, hrk, hr9, hb9⟩⟩ hS ls (lv_sub hl [0, 1, 2, 3, 4] rfl)
  · refine lv_aload_n hx hb dL_law_331 rfl (lv_at hl 1 rfl) ?_
    refine lv_aload_n hx hb dL_law_332 rfl (lv_at hl 0 rfl) ?_
    refine lv_iload hx hb dL_law_333 (lv_at hl 4 rfl) ?_
    refine lv_iconst (v := (nI 1)) hx hb dL_law_335 (by decide) ?_
    refine lv_iadd hx hb dL_law_336 ?_
    refine lv_rei (x' := (nI (i + 1))) (nI_add _ _) ?_
    refine va_sld hx hb hXs hbl hbA hS (vp_in_nI (by omega) (by omega)) dL_law_337 ?_
    refine lv_rei (x' := x1) ((congrArg xs (nI_clamp (by omega))).trans ex1.symm) ?_
    refine cVi (rest := []) ⟨hx, hb, hml, hown, hts⟩ [.int x1] (c_X4_letter_out l g (s0 := s0) (ks := ks) (lt := lt) (ty := ty) (lg := lg) (dg := dg) (kn := kn) (mn := mn) (tn := tn) (cc := cc) (sp := sp) (x := x1) h0) (cwV 1 hts gL_law_X4_letter rfl rfl rfl (by decide +kernel) ⟨Nat.le_of_ble_eq_true rfl, Nat.le_of_ble_eq_true rfl⟩) hK hZ hS (subP hP [0] rfl) (va_recv hK.1 hP (ci := 5) (q0 := 0) rfl rfl) rfl hl.1 rfl (Nat.le_of_ble_eq_true rfl) dL_law_338 ⟨show cells ≤ 603072 by omega, show slots ≤ 7219306 by omega⟩ (fun r_262 hr_262 => ?_)
    refine lv_rei (x' := (nI 0)) (hr_262) ?_
    refine lv_aload_n hx hb dL_law_341 rfl (lv_at hl 2 rfl) ?_
    refine lv_aload_n hx hb dL_law_342 rfl (lv_at hl 0 rfl) ?_
    refine lv_iload hx hb dL_law_343 (lv_at hl 4 rfl) ?_
    refine lv_iconst (v := (nI 1)) hx hb dL_law_345 (by decide) ?_
    refine lv_iadd hx hb dL_law_346 ?_
    refine lv_rei (x' := (nI (i + 1))) (nI_add _ _) ?_
    refine va_sld hx hb hXs hbl hbA hS (vp_in_nI (by omega) (by omega)) dL_law_347 ?_
    refine lv_rei (x' := x1) ((congrArg xs (nI_clamp (by omega))).trans ex1.symm) ?_
    refine wVi (rest := [.int (nI 0)]) ⟨hx, hb, hml, hown, hts⟩ [.int x1] [11] (c_X5_letter_out l g H.size (m0 := m0) (kn := kn) (mn := mn) (tn := tn) (qf := qf) (qu := qu) (qz := qz) (qd := qd) (qx := qx) (ql := ql) (qg := qg) (qb := qb) (qy := qy) (qc := qc) (qe := qe) (qw := qw) (qt := qt) (qr := qr) (qi := qi) (th := th) (has := has) (cc := cc) (sp := sp) (rk := rk) (x := x1) h0) (cwV 1 hts gL_law_X5_letter rfl rfl rfl (by decide +kernel) ⟨Nat.le_of_ble_eq_true rfl, Nat.le_of_ble_eq_true rfl⟩) hK hZ hS hP hD hA rfl (by decide) (fun _ => Nat.le_of_ble_eq_true rfl) (fun _ => rfl) (va_recv hK.1 hP (ci := 6) (q0 := 11) rfl rfl) rfl hl.1 rfl (Nat.le_of_ble_eq_true rfl) dL_law_348 ⟨show cells + 0 ≤ 603072 by omega, show slots + 0 ≤ 7219306 by omega⟩ (fun r_263 u H locs hr_263 hP hD hS => ?_)
    have hP : va_P g.1 vwCl ((s0, .inr (5, [.ref ks, .int (nI kn), .int (nI mn), .ref lt, .ref ty, .int (nI tn), .int cc, .int sp, .ref lg, .ref dg])) :: (ks, .inl (g.2.1 4, 15, .inr (.inr (.inr (.inr fk))))) :: (lt, .inl (g.2.1 0, 16, .inl fl)) :: (ty, .inl (g.2.1 0, 40, .inl ft)) :: (lg, .inr (4, [.ref fa, .ref da, .ref ch])) :: (fa, .inl (g.2.1 1, 16384, .inl ff)) :: (da, .inl (g.2.1 0, 16384, .inl fd)) :: (ch, .inl (g.2.1 0, 16384, .inl fc)) :: (dg, .inr (2, [.ref wa, .ref st, .int rk])) :: (wa, .inl (g.2.1 0, 64, .inl fw)) :: (st, .inl (g.2.1 0, 8, .inl fs)) :: (m0, .inr (6, [.int (nI 0), .int (nI kn), .ref qf, .ref qu, .ref qz, .ref qd, .ref qx, .int (nI mn), .int has, .ref ql, .int (nI tn), .ref qg, .int cc, .ref qb, .ref qy, .ref qc, .int sp, .int rk, .ref qe, .ref qw, .ref qt, .ref qr, .ref qi])) :: (qf, .inl (g.2.1 0, 15, .inl kf)) :: (qu, .inl (g.2.1 0, 15, .inl ku)) :: (qz, .inl (g.2.1 0, 15, .inl fz)) :: (qd, .inl (g.2.1 2, 15, .inl fus)) :: (qx, .inl (g.2.1 1, 480, .inl fx)) :: (ql, .inl (g.2.1 0, 16, .inl fl2)) :: (qg, .inl (g.2.1 0, 40, .inl ft)) :: (qb, .inl (g.2.1 1, 16384, .inl ff)) :: (qy, .inl (g.2.1 0, 16384, .inl fd)) :: (qc, .inl (g.2.1 0, 16384, .inl fc)) :: (qe, .inl (g.2.1 1, 32, .inl fe)) :: (qw, .inl (g.2.1 0, 64, .inl fw2)) :: (qt, .inl (g.2.1 0, 8, .inl fs2)) :: (qr, .inl (g.2.1 0, 64, .inl fr9)) :: (qi, .inl (g.2.1 0, 8, .inl fb9)) :: (ao, .inl (g.2.1 3, 1, .inr (.inl fo))) :: kyW g KL) H := hP
    have hD : va_D A ((s0, .inr (5, [.ref ks, .int (nI kn), .int (nI mn), .ref lt, .ref ty, .int (nI tn), .int cc, .int sp, .ref lg, .ref dg])) :: (ks, .inl (g.2.1 4, 15, .inr (.inr (.inr (.inr fk))))) :: (lt, .inl (g.2.1 0, 16, .inl fl)) :: (ty, .inl (g.2.1 0, 40, .inl ft)) :: (lg, .inr (4, [.ref fa, .ref da, .ref ch])) :: (fa, .inl (g.2.1 1, 16384, .inl ff)) :: (da, .inl (g.2.1 0, 16384, .inl fd)) :: (ch, .inl (g.2.1 0, 16384, .inl fc)) :: (dg, .inr (2, [.ref wa, .ref st, .int rk])) :: (wa, .inl (g.2.1 0, 64, .inl fw)) :: (st, .inl (g.2.1 0, 8, .inl fs)) :: (m0, .inr (6, [.int (nI 0), .int (nI kn), .ref qf, .ref qu, .ref qz, .ref qd, .ref qx, .int (nI mn), .int has, .ref ql, .int (nI tn), .ref qg, .int cc, .ref qb, .ref qy, .ref qc, .int sp, .int rk, .ref qe, .ref qw, .ref qt, .ref qr, .ref qi])) :: (qf, .inl (g.2.1 0, 15, .inl kf)) :: (qu, .inl (g.2.1 0, 15, .inl ku)) :: (qz, .inl (g.2.1 0, 15, .inl fz)) :: (qd, .inl (g.2.1 2, 15, .inl fus)) :: (qx, .inl (g.2.1 1, 480, .inl fx)) :: (ql, .inl (g.2.1 0, 16, .inl fl2)) :: (qg, .inl (g.2.1 0, 40, .inl ft)) :: (qb, .inl (g.2.1 1, 16384, .inl ff)) :: (qy, .inl (g.2.1 0, 16384, .inl fd)) :: (qc, .inl (g.2.1 0, 16384, .inl fc)) :: (qe, .inl (g.2.1 1, 32, .inl fe)) :: (qw, .inl (g.2.1 0, 64, .inl fw2)) :: (qt, .inl (g.2.1 0, 8, .inl fs2)) :: (qr, .inl (g.2.1 0, 64, .inl fr9)) :: (qi, .inl (g.2.1 0, 8, .inl fb9)) :: (ao, .inl (g.2.1 3, 1, .inr (.inl fo))) :: kyW g KL) := hD
    refine lv_rei (x' := (nI 0)) (hr_263) ?_
    refine lv_icmp_eq (tgt := 645) hx hb dL_law_351 (by decide) (fun _ => ?_) (fun c9 => absurd (rfl) c9)
    refine W.widen (k := cells + 2) (n := slots + 40) (by omega) (by omega) ?_
    exact kk _ _ ⟨kn, mn, tn, cc, sp, rk, (nI 0), has, fk, fl, ft, ff, fd, fc, fw, fs, kf, ku, fz, fus, fx, fl2, fe, fw2, fs2, fr9, fb9, fo, KL, hP, hD, ⟨hkn, hlen, hKs, hfree, by omega, htn, hsp, hff, hlt, hrk, hr9, hb9⟩⟩ hS ls (lv_sub hl [0, 1, 2, 3, 4] rfl)

set_option maxHeartbeats 4000000 in
set_option maxRecDepth 100000 in
/-- type -/
theorem law_c4 {p : Program} {l : Launch} {e : Env} {s : State} {m : MethodId} {below : List Frame} {meth : Method} {c : Code} {b Lx : Nat} {xs : Nat → Int32} {g : gE} {A : Nat → Prop} {Q : State → Prop} (hfl : l.stackTraces = false) (hx : p.tables.exec = Jvm.exec) (hb : c.code = code) (hml : c.maxLocals = 7) (hown : s.vm.findClass RL = some m.cls) (htl : ∀ w ∈ lw_tbl, w.before #[Value.ref b] s = true) (hXs : va_X b Lx xs s s.heap) (hbl : b < s.heap.size) (hbA : ¬ A b) (hA : ∀ q, s.heap.size ≤ q → A q) (hK : gK g s) (hZ : gZ g A s s.heap) (hX : gX s) {s0 ks lt ty lg fa da ch dg wa st m0 qf qu qz qd qx ql qg qb qy qc qe qw qt qr qi ao : Nat} {n i cells slots : Nat} (hi : i + 6 ≤ Lx) (hLx : Lx ≤ 3072) (hn : n < 512) (hce : cells + 2 ≤ 603072) (hsl : slots + 40 ≤ 7219306) {H : Heap} {locs : List Loc} (hLI : LI g s0 ks lt ty lg fa da ch dg wa st m0 qf qu qz qd qx ql qg qb qy qc qe qw qt qr qi ao A n H) (hS : va_S A s.heap H locs) {ls : Array Slot} (hl : lv_has ls 7 [(0, .ref b), (1, .ref s0), (2, .ref m0), (3, .ref ao), (4, .int (nI i))])
    (kk : ∀ (H : Heap) (locs : List Loc), LI g s0 ks lt ty lg fa da ch dg wa st m0 qf qu qz qd qx ql qg qb qy qc qe qw qt qr qi ao A (n + 1) H → va_S A s.heap H locs → ∀ ls : Array Slot, lv_has ls 7 [(0, .ref b), (1, .ref s0), (2, .ref m0), (3, .ref ao), (4, .int (nI i))] → W p l e room_1 s m #[Value.ref b] below meth c H locs (cells + 2) (slots + 40) Q (F0 m 645 ls [])) : W p l e room_1 s m #[Value.ref b] below meth c H locs cells slots Q (F0 m 356 ls []) := by
  have hts : ∀ w ∈ wsL_law, w.before #[Value.ref b] s = true := fun w hw => htl w (wsL_law_in w hw)
  obtain ⟨kn, mn, tn, cc, sp, rk, th, has, fk, fl, ft, ff, fd, fc, fw, fs, kf, ku, fz, fus, fx, fl2, fe, fw2, fs2, fr9, fb9, fo, KL, hP, hD, ⟨hkn, hlen, hKs, hfree, hmn, htn, hsp, hff, hlt, hrk, hr9, hb9⟩⟩ := hLI
  obtain ⟨x1, ex1⟩ : ∃ z, z = xs (i + 1) := ⟨_, rfl⟩
  by_cases h0 : tn < 40
  · refine lv_aload_n hx hb dL_law_356 rfl (lv_at hl 1 rfl) ?_
    refine lv_aload_n hx hb dL_law_357 rfl (lv_at hl 0 rfl) ?_
    refine lv_iload hx hb dL_law_358 (lv_at hl 4 rfl) ?_
    refine lv_iconst (v := (nI 1)) hx hb dL_law_360 (by decide) ?_
    refine lv_iadd hx hb dL_law_361 ?_
    refine lv_rei (x' := (nI (i + 1))) (nI_add _ _) ?_
    refine va_sld hx hb hXs hbl hbA hS (vp_in_nI (by omega) (by omega)) dL_law_362 ?_
    refine lv_rei (x' := x1) ((congrArg xs (nI_clamp (by omega))).trans ex1.symm) ?_
    refine wVv (rest := []) ⟨hx, hb, hml, hown, hts⟩ [.int x1] [0, 3] (c_X4_type_yes l g H.size (s0 := s0) (ks := ks) (lt := lt) (ty := ty) (lg := lg) (dg := dg) (kn := kn) (mn := mn) (tn := tn) (cc := cc) (sp := sp) (ft := ft) (x := x1) h0) (cwV 1 hts gL_law_X4_type rfl rfl rfl (by decide +kernel) ⟨Nat.le_of_ble_eq_true rfl, Nat.le_of_ble_eq_true rfl⟩) hK hZ hS hP hD hA rfl (by decide) (fun _ => Nat.le_of_ble_eq_true rfl) (fun _ => rfl) (va_recv hK.1 hP (ci := 5) (q0 := 0) rfl rfl) rfl hl.1 rfl (Nat.le_of_ble_eq_true rfl) dL_law_363 ⟨show cells + 0 ≤ 603072 by omega, show slots + 0 ≤ 7219306 by omega⟩ (fun u H locs hr_264 hP hD hS => ?_)
    have hP : va_P g.1 vwCl ((s0, .inr (5, [.ref ks, .int (nI kn), .int (nI mn), .ref lt, .ref ty, .int (nI (tn + 1)), .int cc, .int sp, .ref lg, .ref dg])) :: (ks, .inl (g.2.1 4, 15, .inr (.inr (.inr (.inr fk))))) :: (lt, .inl (g.2.1 0, 16, .inl fl)) :: (ty, .inl (g.2.1 0, 40, .inl (upd ft tn x1))) :: (lg, .inr (4, [.ref fa, .ref da, .ref ch])) :: (fa, .inl (g.2.1 1, 16384, .inl ff)) :: (da, .inl (g.2.1 0, 16384, .inl fd)) :: (ch, .inl (g.2.1 0, 16384, .inl fc)) :: (dg, .inr (2, [.ref wa, .ref st, .int rk])) :: (wa, .inl (g.2.1 0, 64, .inl fw)) :: (st, .inl (g.2.1 0, 8, .inl fs)) :: (m0, .inr (6, [.int th, .int (nI kn), .ref qf, .ref qu, .ref qz, .ref qd, .ref qx, .int (nI mn), .int has, .ref ql, .int (nI tn), .ref qg, .int cc, .ref qb, .ref qy, .ref qc, .int sp, .int rk, .ref qe, .ref qw, .ref qt, .ref qr, .ref qi])) :: (qf, .inl (g.2.1 0, 15, .inl kf)) :: (qu, .inl (g.2.1 0, 15, .inl ku)) :: (qz, .inl (g.2.1 0, 15, .inl fz)) :: (qd, .inl (g.2.1 2, 15, .inl fus)) :: (qx, .inl (g.2.1 1, 480, .inl fx)) :: (ql, .inl (g.2.1 0, 16, .inl fl2)) :: (qg, .inl (g.2.1 0, 40, .inl ft)) :: (qb, .inl (g.2.1 1, 16384, .inl ff)) :: (qy, .inl (g.2.1 0, 16384, .inl fd)) :: (qc, .inl (g.2.1 0, 16384, .inl fc)) :: (qe, .inl (g.2.1 1, 32, .inl fe)) :: (qw, .inl (g.2.1 0, 64, .inl fw2)) :: (qt, .inl (g.2.1 0, 8, .inl fs2)) :: (qr, .inl (g.2.1 0, 64, .inl fr9)) :: (qi, .inl (g.2.1 0, 8, .inl fb9)) :: (ao, .inl (g.2.1 3, 1, .inr (.inl fo))) :: kyW g KL) H := hP
    have hD : va_D A ((s0, .inr (5, [.ref ks, .int (nI kn), .int (nI mn), .ref lt, .ref ty, .int (nI (tn + 1)), .int cc, .int sp, .ref lg, .ref dg])) :: (ks, .inl (g.2.1 4, 15, .inr (.inr (.inr (.inr fk))))) :: (lt, .inl (g.2.1 0, 16, .inl fl)) :: (ty, .inl (g.2.1 0, 40, .inl (upd ft tn x1))) :: (lg, .inr (4, [.ref fa, .ref da, .ref ch])) :: (fa, .inl (g.2.1 1, 16384, .inl ff)) :: (da, .inl (g.2.1 0, 16384, .inl fd)) :: (ch, .inl (g.2.1 0, 16384, .inl fc)) :: (dg, .inr (2, [.ref wa, .ref st, .int rk])) :: (wa, .inl (g.2.1 0, 64, .inl fw)) :: (st, .inl (g.2.1 0, 8, .inl fs)) :: (m0, .inr (6, [.int th, .int (nI kn), .ref qf, .ref qu, .ref qz, .ref qd, .ref qx, .int (nI mn), .int has, .ref ql, .int (nI tn), .ref qg, .int cc, .ref qb, .ref qy, .ref qc, .int sp, .int rk, .ref qe, .ref qw, .ref qt, .ref qr, .ref qi])) :: (qf, .inl (g.2.1 0, 15, .inl kf)) :: (qu, .inl (g.2.1 0, 15, .inl ku)) :: (qz, .inl (g.2.1 0, 15, .inl fz)) :: (qd, .inl (g.2.1 2, 15, .inl fus)) :: (qx, .inl (g.2.1 1, 480, .inl fx)) :: (ql, .inl (g.2.1 0, 16, .inl fl2)) :: (qg, .inl (g.2.1 0, 40, .inl ft)) :: (qb, .inl (g.2.1 1, 16384, .inl ff)) :: (qy, .inl (g.2.1 0, 16384, .inl fd)) :: (qc, .inl (g.2.1 0, 16384, .inl fc)) :: (qe, .inl (g.2.1 1, 32, .inl fe)) :: (qw, .inl (g.2.1 0, 64, .inl fw2)) :: (qt, .inl (g.2.1 0, 8, .inl fs2)) :: (qr, .inl (g.2.1 0, 64, .inl fr9)) :: (qi, .inl (g.2.1 0, 8, .inl fb9)) :: (ao, .inl (g.2.1 3, 1, .inr (.inl fo))) :: kyW g KL) := hD
    refine lv_aload_n hx hb dL_law_366 rfl (lv_at hl 2 rfl) ?_
    refine lv_aload_n hx hb dL_law_367 rfl (lv_at hl 0 rfl) ?_
    refine lv_iload hx hb dL_law_368 (lv_at hl 4 rfl) ?_
    refine lv_iconst (v := (nI 1)) hx hb dL_law_370 (by decide) ?_
    refine lv_iadd hx hb dL_law_371 ?_
    refine lv_rei (x' := (nI (i + 1))) (nI_add _ _) ?_
    refine va_sld hx hb hXs hbl hbA hS (vp_in_nI (by omega) (by omega)) dL_law_372 ?_
    refine lv_rei (x' := x1) ((congrArg xs (nI_clamp (by omega))).trans ex1.symm) ?_
    refine wVv (rest := []) ⟨hx, hb, hml, hown, hts⟩ [.int x1] [11, 18] (c_X5_type_yes l g H.size (m0 := m0) (kn := kn) (mn := mn) (tn := tn) (qf := qf) (qu := qu) (qz := qz) (qd := qd) (qx := qx) (ql := ql) (qg := qg) (qb := qb) (qy := qy) (qc := qc) (qe := qe) (qw := qw) (qt := qt) (qr := qr) (qi := qi) (th := th) (has := has) (cc := cc) (sp := sp) (rk := rk) (ft := ft) (x := x1) h0) (cwV 1 hts gL_law_X5_type rfl rfl rfl (by decide +kernel) ⟨Nat.le_of_ble_eq_true rfl, Nat.le_of_ble_eq_true rfl⟩) hK hZ hS hP hD hA rfl (by decide) (fun _ => Nat.le_of_ble_eq_true rfl) (fun _ => rfl) (va_recv hK.1 hP (ci := 6) (q0 := 11) rfl rfl) rfl hl.1 rfl (Nat.le_of_ble_eq_true rfl) dL_law_373 ⟨show cells + 0 + 0 ≤ 603072 by omega, show slots + 0 + 0 ≤ 7219306 by omega⟩ (fun u H locs hr_265 hP hD hS => ?_)
    have hP : va_P g.1 vwCl ((s0, .inr (5, [.ref ks, .int (nI kn), .int (nI mn), .ref lt, .ref ty, .int (nI (tn + 1)), .int cc, .int sp, .ref lg, .ref dg])) :: (ks, .inl (g.2.1 4, 15, .inr (.inr (.inr (.inr fk))))) :: (lt, .inl (g.2.1 0, 16, .inl fl)) :: (ty, .inl (g.2.1 0, 40, .inl (upd ft tn x1))) :: (lg, .inr (4, [.ref fa, .ref da, .ref ch])) :: (fa, .inl (g.2.1 1, 16384, .inl ff)) :: (da, .inl (g.2.1 0, 16384, .inl fd)) :: (ch, .inl (g.2.1 0, 16384, .inl fc)) :: (dg, .inr (2, [.ref wa, .ref st, .int rk])) :: (wa, .inl (g.2.1 0, 64, .inl fw)) :: (st, .inl (g.2.1 0, 8, .inl fs)) :: (m0, .inr (6, [.int (nI 0), .int (nI kn), .ref qf, .ref qu, .ref qz, .ref qd, .ref qx, .int (nI mn), .int has, .ref ql, .int (nI (tn + 1)), .ref qg, .int cc, .ref qb, .ref qy, .ref qc, .int sp, .int rk, .ref qe, .ref qw, .ref qt, .ref qr, .ref qi])) :: (qf, .inl (g.2.1 0, 15, .inl kf)) :: (qu, .inl (g.2.1 0, 15, .inl ku)) :: (qz, .inl (g.2.1 0, 15, .inl fz)) :: (qd, .inl (g.2.1 2, 15, .inl fus)) :: (qx, .inl (g.2.1 1, 480, .inl fx)) :: (ql, .inl (g.2.1 0, 16, .inl fl2)) :: (qg, .inl (g.2.1 0, 40, .inl (upd ft tn x1))) :: (qb, .inl (g.2.1 1, 16384, .inl ff)) :: (qy, .inl (g.2.1 0, 16384, .inl fd)) :: (qc, .inl (g.2.1 0, 16384, .inl fc)) :: (qe, .inl (g.2.1 1, 32, .inl fe)) :: (qw, .inl (g.2.1 0, 64, .inl fw2)) :: (qt, .inl (g.2.1 0, 8, .inl fs2)) :: (qr, .inl (g.2.1 0, 64, .inl fr9)) :: (qi, .inl (g.2.1 0, 8, .inl fb9)) :: (ao, .inl (g.2.1 3, 1, .inr (.inl fo))) :: kyW g KL) H := hP
    have hD : va_D A ((s0, .inr (5, [.ref ks, .int (nI kn), .int (nI mn), .ref lt, .ref ty, .int (nI (tn + 1)), .int cc, .int sp, .ref lg, .ref dg])) :: (ks, .inl (g.2.1 4, 15, .inr (.inr (.inr (.inr fk))))) :: (lt, .inl (g.2.1 0, 16, .inl fl)) :: (ty, .inl (g.2.1 0, 40, .inl (upd ft tn x1))) :: (lg, .inr (4, [.ref fa, .ref da, .ref ch])) :: (fa, .inl (g.2.1 1, 16384, .inl ff)) :: (da, .inl (g.2.1 0, 16384, .inl fd)) :: (ch, .inl (g.2.1 0, 16384, .inl fc)) :: (dg, .inr (2, [.ref wa, .ref st, .int rk])) :: (wa, .inl (g.2.1 0, 64, .inl fw)) :: (st, .inl (g.2.1 0, 8, .inl fs)) :: (m0, .inr (6, [.int (nI 0), .int (nI kn), .ref qf, .ref qu, .ref qz, .ref qd, .ref qx, .int (nI mn), .int has, .ref ql, .int (nI (tn + 1)), .ref qg, .int cc, .ref qb, .ref qy, .ref qc, .int sp, .int rk, .ref qe, .ref qw, .ref qt, .ref qr, .ref qi])) :: (qf, .inl (g.2.1 0, 15, .inl kf)) :: (qu, .inl (g.2.1 0, 15, .inl ku)) :: (qz, .inl (g.2.1 0, 15, .inl fz)) :: (qd, .inl (g.2.1 2, 15, .inl fus)) :: (qx, .inl (g.2.1 1, 480, .inl fx)) :: (ql, .inl (g.2.1 0, 16, .inl fl2)) :: (qg, .inl (g.2.1 0, 40, .inl (upd ft tn x1))) :: (qb, .inl (g.2.1 1, 16384, .inl ff)) :: (qy, .inl (g.2.1 0, 16384, .inl fd)) :: (qc, .inl (g.2.1 0, 16384, .inl fc)) :: (qe, .inl (g.2.1 1, 32, .inl fe)) :: (qw, .inl (g.2.1 0, 64, .inl fw2)) :: (qt, .inl (g.2.1 0, 8, .inl fs2)) :: (qr, .inl (g.2.1 0, 64, .inl fr9)) :: (qi, .inl (g.2.1 0, 8, .inl fb9)) :: (ao, .inl (g.2.1 3, 1, .inr (.inl fo))) :: kyW g KL) := hD
    refine lv_goto (tgt := 645) hx hb dL_law_376 (by decide) ?_
    refine W.widen (k := cells + 2) (n := slots + 40) (by omega) (by omega) ?_
    exact kk _ _ ⟨kn, mn, tn + 1, cc, sp, rk, (nI 0), has, fk, fl, upd ft tn x1, ff, fd, fc, fw, fs, kf, ku, fz, fus, fx, fl2, fe, fw2, fs2, fr9, fb9, fo, KL, hP, hD, ⟨hkn, hlen, hKs, hfree, by omega, by omega, hsp, hff, hlt, hrk, hr9, hb9⟩⟩ hS ls (lv_sub hl [0, 1, 2, 3, 4] rfl)
  · have h40 : tn = 40 := by omega
    refine lv_aload_n hx hb dL_law_356 rfl (lv_at hl 1 rfl) ?_
    refine lv_aload_n hx hb dL_law_357 rfl (lv_at hl 0 rfl) ?_
    refine lv_iload hx hb dL_law_358 (lv_at hl 4 rfl) ?_
    refine lv_iconst (v := (nI 1)) hx hb dL_law_360 (by decide) ?_
    refine lv_iadd hx hb dL_law_361 ?_
    refine lv_rei (x' := (nI (i + 1))) (nI_add _ _) ?_
    refine va_sld hx hb hXs hbl hbA hS (vp_in_nI (by omega) (by omega)) dL_law_362 ?_
    refine lv_rei (x' := x1) ((congrArg xs (nI_clamp (by omega))).trans ex1.symm) ?_
    refine cVv (rest := []) ⟨hx, hb, hml, hown, hts⟩ [.int x1] (c_X4_type_no l g (s0 := s0) (ks := ks) (lt := lt) (ty := ty) (lg := lg) (dg := dg) (kn := kn) (mn := mn) (tn := tn) (cc := cc) (sp := sp) (x := x1) h40) (cwV 1 hts gL_law_X4_type rfl rfl rfl (by decide +kernel) ⟨Nat.le_of_ble_eq_true rfl, Nat.le_of_ble_eq_true rfl⟩) hK hZ hS (subP hP [0] rfl) (va_recv hK.1 hP (ci := 5) (q0 := 0) rfl rfl) rfl hl.1 rfl (Nat.le_of_ble_eq_true rfl) dL_law_363 ⟨show cells ≤ 603072 by omega, show slots ≤ 7219306 by omega⟩ (fun hr_266 => ?_)
    refine lv_aload_n hx hb dL_law_366 rfl (lv_at hl 2 rfl) ?_
    refine lv_aload_n hx hb dL_law_367 rfl (lv_at hl 0 rfl) ?_
    refine lv_iload hx hb dL_law_368 (lv_at hl 4 rfl) ?_
    refine lv_iconst (v := (nI 1)) hx hb dL_law_370 (by decide) ?_
    refine lv_iadd hx hb dL_law_371 ?_
    refine lv_rei (x' := (nI (i + 1))) (nI_add _ _) ?_
    refine va_sld hx hb hXs hbl hbA hS (vp_in_nI (by omega) (by omega)) dL_law_372 ?_
    refine lv_rei (x' := x1) ((congrArg xs (nI_clamp (by omega))).trans ex1.symm) ?_
    refine wVv (rest := []) ⟨hx, hb, hml, hown, hts⟩ [.int x1] [11] (c_X5_type_no l g H.size (m0 := m0) (kn := kn) (mn := mn) (tn := tn) (qf := qf) (qu := qu) (qz := qz) (qd := qd) (qx := qx) (ql := ql) (qg := qg) (qb := qb) (qy := qy) (qc := qc) (qe := qe) (qw := qw) (qt := qt) (qr := qr) (qi := qi) (th := th) (has := has) (cc := cc) (sp := sp) (rk := rk) (x := x1) (by omega) (by omega)) (cwV 1 hts gL_law_X5_type rfl rfl rfl (by decide +kernel) ⟨Nat.le_of_ble_eq_true rfl, Nat.le_of_ble_eq_true rfl⟩) hK hZ hS hP hD hA rfl (by decide) (fun _ => Nat.le_of_ble_eq_true rfl) (fun _ => rfl) (va_recv hK.1 hP (ci := 6) (q0 := 11) rfl rfl) rfl hl.1 rfl (Nat.le_of_ble_eq_true rfl) dL_law_373 ⟨show cells + 0 ≤ 603072 by omega, show slots + 0 ≤ 7219306 by omega⟩ (fun u H locs hr_267 hP hD hS => ?_)
    have hP : va_P g.1 vwCl ((s0, .inr (5, [.ref ks, .int (nI kn), .int (nI mn), .ref lt, .ref ty, .int (nI tn), .int cc, .int sp, .ref lg, .ref dg])) :: (ks, .inl (g.2.1 4, 15, .inr (.inr (.inr (.inr fk))))) :: (lt, .inl (g.2.1 0, 16, .inl fl)) :: (ty, .inl (g.2.1 0, 40, .inl ft)) :: (lg, .inr (4, [.ref fa, .ref da, .ref ch])) :: (fa, .inl (g.2.1 1, 16384, .inl ff)) :: (da, .inl (g.2.1 0, 16384, .inl fd)) :: (ch, .inl (g.2.1 0, 16384, .inl fc)) :: (dg, .inr (2, [.ref wa, .ref st, .int rk])) :: (wa, .inl (g.2.1 0, 64, .inl fw)) :: (st, .inl (g.2.1 0, 8, .inl fs)) :: (m0, .inr (6, [.int (nI 0), .int (nI kn), .ref qf, .ref qu, .ref qz, .ref qd, .ref qx, .int (nI mn), .int has, .ref ql, .int (nI tn), .ref qg, .int cc, .ref qb, .ref qy, .ref qc, .int sp, .int rk, .ref qe, .ref qw, .ref qt, .ref qr, .ref qi])) :: (qf, .inl (g.2.1 0, 15, .inl kf)) :: (qu, .inl (g.2.1 0, 15, .inl ku)) :: (qz, .inl (g.2.1 0, 15, .inl fz)) :: (qd, .inl (g.2.1 2, 15, .inl fus)) :: (qx, .inl (g.2.1 1, 480, .inl fx)) :: (ql, .inl (g.2.1 0, 16, .inl fl2)) :: (qg, .inl (g.2.1 0, 40, .inl ft)) :: (qb, .inl (g.2.1 1, 16384, .inl ff)) :: (qy, .inl (g.2.1 0, 16384, .inl fd)) :: (qc, .inl (g.2.1 0, 16384, .inl fc)) :: (qe, .inl (g.2.1 1, 32, .inl fe)) :: (qw, .inl (g.2.1 0, 64, .inl fw2)) :: (qt, .inl (g.2.1 0, 8, .inl fs2)) :: (qr, .inl (g.2.1 0, 64, .inl fr9)) :: (qi, .inl (g.2.1 0, 8, .inl fb9)) :: (ao, .inl (g.2.1 3, 1, .inr (.inl fo))) :: kyW g KL) H := hP
    have hD : va_D A ((s0, .inr (5, [.ref ks, .int (nI kn), .int (nI mn), .ref lt, .ref ty, .int (nI tn), .int cc, .int sp, .ref lg, .ref dg])) :: (ks, .inl (g.2.1 4, 15, .inr (.inr (.inr (.inr fk))))) :: (lt, .inl (g.2.1 0, 16, .inl fl)) :: (ty, .inl (g.2.1 0, 40, .inl ft)) :: (lg, .inr (4, [.ref fa, .ref da, .ref ch])) :: (fa, .inl (g.2.1 1, 16384, .inl ff)) :: (da, .inl (g.2.1 0, 16384, .inl fd)) :: (ch, .inl (g.2.1 0, 16384, .inl fc)) :: (dg, .inr (2, [.ref wa, .ref st, .int rk])) :: (wa, .inl (g.2.1 0, 64, .inl fw)) :: (st, .inl (g.2.1 0, 8, .inl fs)) :: (m0, .inr (6, [.int (nI 0), .int (nI kn), .ref qf, .ref qu, .ref qz, .ref qd, .ref qx, .int (nI mn), .int has, .ref ql, .int (nI tn), .ref qg, .int cc, .ref qb, .ref qy, .ref qc, .int sp, .int rk, .ref qe, .ref qw, .ref qt, .ref qr, .ref qi])) :: (qf, .inl (g.2.1 0, 15, .inl kf)) :: (qu, .inl (g.2.1 0, 15, .inl ku)) :: (qz, .inl (g.2.1 0, 15, .inl fz)) :: (qd, .inl (g.2.1 2, 15, .inl fus)) :: (qx, .inl (g.2.1 1, 480, .inl fx)) :: (ql, .inl (g.2.1 0, 16, .inl fl2)) :: (qg, .inl (g.2.1 0, 40, .inl ft)) :: (qb, .inl (g.2.1 1, 16384, .inl ff)) :: (qy, .inl (g.2.1 0, 16384, .inl fd)) :: (qc, .inl (g.2.1 0, 16384, .inl fc)) :: (qe, .inl (g.2.1 1, 32, .inl fe)) :: (qw, .inl (g.2.1 0, 64, .inl fw2)) :: (qt, .inl (g.2.1 0, 8, .inl fs2)) :: (qr, .inl (g.2.1 0, 64, .inl fr9)) :: (qi, .inl (g.2.1 0, 8, .inl fb9)) :: (ao, .inl (g.2.1 3, 1, .inr (.inl fo))) :: kyW g KL) := hD
    refine lv_goto (tgt := 645) hx hb dL_law_376 (by decide) ?_
    refine W.widen (k := cells + 2) (n := slots + 40) (by omega) (by omega) ?_
    exact kk _ _ ⟨kn, mn, tn, cc, sp, rk, (nI 0), has, fk, fl, ft, ff, fd, fc, fw, fs, kf, ku, fz, fus, fx, fl2, fe, fw2, fs2, fr9, fb9, fo, KL, hP, hD, ⟨hkn, hlen, hKs, hfree, by omega, htn, hsp, hff, hlt, hrk, hr9, hb9⟩⟩ hS ls (lv_sub hl [0, 1, 2, 3, 4] rfl)

set_option maxHeartbeats 4000000 in
set_option maxRecDepth 100000 in
/-- first -/
theorem law_c6 {p : Program} {l : Launch} {e : Env} {s : State} {m : MethodId} {below : List Frame} {meth : Method} {c : Code} {b Lx : Nat} {xs : Nat → Int32} {g : gE} {A : Nat → Prop} {Q : State → Prop} (hfl : l.stackTraces = false) (hx : p.tables.exec = Jvm.exec) (hb : c.code = code) (hml : c.maxLocals = 7) (hown : s.vm.findClass RL = some m.cls) (htl : ∀ w ∈ lw_tbl, w.before #[Value.ref b] s = true) (hXs : va_X b Lx xs s s.heap) (hbl : b < s.heap.size) (hbA : ¬ A b) (hA : ∀ q, s.heap.size ≤ q → A q) (hK : gK g s) (hZ : gZ g A s s.heap) (hX : gX s) {s0 ks lt ty lg fa da ch dg wa st m0 qf qu qz qd qx ql qg qb qy qc qe qw qt qr qi ao : Nat} {n i cells slots : Nat} (hi : i + 6 ≤ Lx) (hLx : Lx ≤ 3072) (hn : n < 512) (hce : cells + 2 ≤ 603072) (hsl : slots + 40 ≤ 7219306) {H : Heap} {locs : List Loc} (hLI : LI g s0 ks lt ty lg fa da ch dg wa st m0 qf qu qz qd qx ql qg qb qy qc qe qw qt qr qi ao A n H) (hS : va_S A s.heap H locs) {ls : Array Slot} (hl : lv_has ls 7 [(0, .ref b), (1, .ref s0), (2, .ref m0), (3, .ref ao), (4, .int (nI i))])
    (kk : ∀ (H : Heap) (locs : List Loc), LI g s0 ks lt ty lg fa da ch dg wa st m0 qf qu qz qd qx ql qg qb qy qc qe qw qt qr qi ao A (n + 1) H → va_S A s.heap H locs → ∀ ls : Array Slot, lv_has ls 7 [(0, .ref b), (1, .ref s0), (2, .ref m0), (3, .ref ao), (4, .int (nI i))] → W p l e room_1 s m #[Value.ref b] below meth c H locs (cells + 2) (slots + 40) Q (F0 m 645 ls [])) : W p l e room_1 s m #[Value.ref b] below meth c H locs cells slots Q (F0 m 436 ls []) := by
  have hts : ∀ w ∈ wsL_law, w.before #[Value.ref b] s = true := fun w hw => htl w (wsL_law_in w hw)
  obtain ⟨kn, mn, tn, cc, sp, rk, th, has, fk, fl, ft, ff, fd, fc, fw, fs, kf, ku, fz, fus, fx, fl2, fe, fw2, fs2, fr9, fb9, fo, KL, hP, hD, ⟨hkn, hlen, hKs, hfree, hmn, htn, hsp, hff, hlt, hrk, hr9, hb9⟩⟩ := hLI
  obtain ⟨x1, ex1⟩ : ∃ z, z = xs (i + 1) := ⟨_, rfl⟩
  refine lv_aload_n hx hb dL_law_436 rfl (lv_at hl 1 rfl) ?_
  refine lv_aload_n hx hb dL_law_437 rfl (lv_at hl 0 rfl) ?_
  refine lv_iload hx hb dL_law_438 (lv_at hl 4 rfl) ?_
  refine lv_iconst (v := (nI 1)) hx hb dL_law_440 (by decide) ?_
  refine lv_iadd hx hb dL_law_441 ?_
  refine lv_rei (x' := (nI (i + 1))) (nI_add _ _) ?_
  refine va_sld hx hb hXs hbl hbA hS (vp_in_nI (by omega) (by omega)) dL_law_442 ?_
  refine lv_rei (x' := x1) ((congrArg xs (nI_clamp (by omega))).trans ex1.symm) ?_
  refine cVi (rest := []) ⟨hx, hb, hml, hown, hts⟩ [.int x1] (c_X4_first l g (s0 := s0) (ks := ks) (lt := lt) (ty := ty) (lg := lg) (dg := dg) (kn := kn) (mn := mn) (tn := tn) (cc := cc) (sp := sp) (fa := fa) (da := da) (ch := ch) (fd := fd) (fc := fc) (x := x1) hsp) (cwV 1 hts gL_law_X4_first rfl rfl rfl (by decide +kernel) ⟨Nat.le_of_ble_eq_true rfl, Nat.le_of_ble_eq_true rfl⟩) hK hZ hS (subP hP [0, 4, 6, 7] rfl) (va_recv hK.1 hP (ci := 5) (q0 := 0) rfl rfl) rfl hl.1 rfl (Nat.le_of_ble_eq_true rfl) dL_law_443 ⟨show cells ≤ 603072 by omega, show slots ≤ 7219306 by omega⟩ (fun r_268 hr_268 => ?_)
  refine lv_rei (x' := (fi x1 sp fd fc)) (hr_268) ?_
  refine lv_aload_n hx hb dL_law_446 rfl (lv_at hl 2 rfl) ?_
  refine lv_aload_n hx hb dL_law_447 rfl (lv_at hl 0 rfl) ?_
  refine lv_iload hx hb dL_law_448 (lv_at hl 4 rfl) ?_
  refine lv_iconst (v := (nI 1)) hx hb dL_law_450 (by decide) ?_
  refine lv_iadd hx hb dL_law_451 ?_
  refine lv_rei (x' := (nI (i + 1))) (nI_add _ _) ?_
  refine va_sld hx hb hXs hbl hbA hS (vp_in_nI (by omega) (by omega)) dL_law_452 ?_
  refine lv_rei (x' := x1) ((congrArg xs (nI_clamp (by omega))).trans ex1.symm) ?_
  refine wVi (rest := [.int (fi x1 sp fd fc)]) ⟨hx, hb, hml, hown, hts⟩ [.int x1] [11, 20, 21] (c_X5_first l g H.size (m0 := m0) (kn := kn) (mn := mn) (tn := tn) (qf := qf) (qu := qu) (qz := qz) (qd := qd) (qx := qx) (ql := ql) (qg := qg) (qb := qb) (qy := qy) (qc := qc) (qe := qe) (qw := qw) (qt := qt) (qr := qr) (qi := qi) (th := th) (has := has) (cc := cc) (sp := sp) (rk := rk) (fd := fd) (fc := fc) (x := x1) hsp) (cwV 1 hts gL_law_X5_first rfl rfl rfl (by decide +kernel) ⟨Nat.le_of_ble_eq_true rfl, Nat.le_of_ble_eq_true rfl⟩) hK hZ hS hP hD hA rfl (by decide) (fun _ => Nat.le_of_ble_eq_true rfl) (fun _ => rfl) (va_recv hK.1 hP (ci := 6) (q0 := 11) rfl rfl) rfl hl.1 rfl (Nat.le_of_ble_eq_true rfl) dL_law_453 ⟨show cells + 0 ≤ 603072 by omega, show slots + 0 ≤ 7219306 by omega⟩ (fun r_269 u H locs hr_269 hP hD hS => ?_)
  have hP : va_P g.1 vwCl ((s0, .inr (5, [.ref ks, .int (nI kn), .int (nI mn), .ref lt, .ref ty, .int (nI tn), .int cc, .int sp, .ref lg, .ref dg])) :: (ks, .inl (g.2.1 4, 15, .inr (.inr (.inr (.inr fk))))) :: (lt, .inl (g.2.1 0, 16, .inl fl)) :: (ty, .inl (g.2.1 0, 40, .inl ft)) :: (lg, .inr (4, [.ref fa, .ref da, .ref ch])) :: (fa, .inl (g.2.1 1, 16384, .inl ff)) :: (da, .inl (g.2.1 0, 16384, .inl fd)) :: (ch, .inl (g.2.1 0, 16384, .inl fc)) :: (dg, .inr (2, [.ref wa, .ref st, .int rk])) :: (wa, .inl (g.2.1 0, 64, .inl fw)) :: (st, .inl (g.2.1 0, 8, .inl fs)) :: (m0, .inr (6, [.int (nI 0), .int (nI kn), .ref qf, .ref qu, .ref qz, .ref qd, .ref qx, .int (nI mn), .int has, .ref ql, .int (nI tn), .ref qg, .int cc, .ref qb, .ref qy, .ref qc, .int sp, .int rk, .ref qe, .ref qw, .ref qt, .ref qr, .ref qi])) :: (qf, .inl (g.2.1 0, 15, .inl kf)) :: (qu, .inl (g.2.1 0, 15, .inl ku)) :: (qz, .inl (g.2.1 0, 15, .inl fz)) :: (qd, .inl (g.2.1 2, 15, .inl fus)) :: (qx, .inl (g.2.1 1, 480, .inl fx)) :: (ql, .inl (g.2.1 0, 16, .inl fl2)) :: (qg, .inl (g.2.1 0, 40, .inl ft)) :: (qb, .inl (g.2.1 1, 16384, .inl ff)) :: (qy, .inl (g.2.1 0, 16384, .inl fd)) :: (qc, .inl (g.2.1 0, 16384, .inl fc)) :: (qe, .inl (g.2.1 1, 32, .inl fe)) :: (qw, .inl (g.2.1 0, 64, .inl fw2)) :: (qt, .inl (g.2.1 0, 8, .inl fs2)) :: (qr, .inl (g.2.1 0, 64, .inl fr9)) :: (qi, .inl (g.2.1 0, 8, .inl fb9)) :: (ao, .inl (g.2.1 3, 1, .inr (.inl fo))) :: kyW g KL) H := hP
  have hD : va_D A ((s0, .inr (5, [.ref ks, .int (nI kn), .int (nI mn), .ref lt, .ref ty, .int (nI tn), .int cc, .int sp, .ref lg, .ref dg])) :: (ks, .inl (g.2.1 4, 15, .inr (.inr (.inr (.inr fk))))) :: (lt, .inl (g.2.1 0, 16, .inl fl)) :: (ty, .inl (g.2.1 0, 40, .inl ft)) :: (lg, .inr (4, [.ref fa, .ref da, .ref ch])) :: (fa, .inl (g.2.1 1, 16384, .inl ff)) :: (da, .inl (g.2.1 0, 16384, .inl fd)) :: (ch, .inl (g.2.1 0, 16384, .inl fc)) :: (dg, .inr (2, [.ref wa, .ref st, .int rk])) :: (wa, .inl (g.2.1 0, 64, .inl fw)) :: (st, .inl (g.2.1 0, 8, .inl fs)) :: (m0, .inr (6, [.int (nI 0), .int (nI kn), .ref qf, .ref qu, .ref qz, .ref qd, .ref qx, .int (nI mn), .int has, .ref ql, .int (nI tn), .ref qg, .int cc, .ref qb, .ref qy, .ref qc, .int sp, .int rk, .ref qe, .ref qw, .ref qt, .ref qr, .ref qi])) :: (qf, .inl (g.2.1 0, 15, .inl kf)) :: (qu, .inl (g.2.1 0, 15, .inl ku)) :: (qz, .inl (g.2.1 0, 15, .inl fz)) :: (qd, .inl (g.2.1 2, 15, .inl fus)) :: (qx, .inl (g.2.1 1, 480, .inl fx)) :: (ql, .inl (g.2.1 0, 16, .inl fl2)) :: (qg, .inl (g.2.1 0, 40, .inl ft)) :: (qb, .inl (g.2.1 1, 16384, .inl ff)) :: (qy, .inl (g.2.1 0, 16384, .inl fd)) :: (qc, .inl (g.2.1 0, 16384, .inl fc)) :: (qe, .inl (g.2.1 1, 32, .inl fe)) :: (qw, .inl (g.2.1 0, 64, .inl fw2)) :: (qt, .inl (g.2.1 0, 8, .inl fs2)) :: (qr, .inl (g.2.1 0, 64, .inl fr9)) :: (qi, .inl (g.2.1 0, 8, .inl fb9)) :: (ao, .inl (g.2.1 3, 1, .inr (.inl fo))) :: kyW g KL) := hD
  refine lv_rei (x' := (fi x1 sp fd fc)) (hr_269) ?_
  refine lv_icmp_eq (tgt := 645) hx hb dL_law_456 (by decide) (fun _ => ?_) (fun c9 => absurd (rfl) c9)
  refine W.widen (k := cells + 2) (n := slots + 40) (by omega) (by omega) ?_
  exact kk _ _ ⟨kn, mn, tn, cc, sp, rk, (nI 0), has, fk, fl, ft, ff, fd, fc, fw, fs, kf, ku, fz, fus, fx, fl2, fe, fw2, fs2, fr9, fb9, fo, KL, hP, hD, ⟨hkn, hlen, hKs, hfree, by omega, htn, hsp, hff, hlt, hrk, hr9, hb9⟩⟩ hS ls (lv_sub hl [0, 1, 2, 3, 4] rfl)

set_option maxHeartbeats 4000000 in
set_option maxRecDepth 100000 in
/-- refund -/
theorem law_c7 {p : Program} {l : Launch} {e : Env} {s : State} {m : MethodId} {below : List Frame} {meth : Method} {c : Code} {b Lx : Nat} {xs : Nat → Int32} {g : gE} {A : Nat → Prop} {Q : State → Prop} (hfl : l.stackTraces = false) (hx : p.tables.exec = Jvm.exec) (hb : c.code = code) (hml : c.maxLocals = 7) (hown : s.vm.findClass RL = some m.cls) (htl : ∀ w ∈ lw_tbl, w.before #[Value.ref b] s = true) (hXs : va_X b Lx xs s s.heap) (hbl : b < s.heap.size) (hbA : ¬ A b) (hA : ∀ q, s.heap.size ≤ q → A q) (hK : gK g s) (hZ : gZ g A s s.heap) (hX : gX s) {s0 ks lt ty lg fa da ch dg wa st m0 qf qu qz qd qx ql qg qb qy qc qe qw qt qr qi ao : Nat} {n i cells slots : Nat} (hi : i + 6 ≤ Lx) (hLx : Lx ≤ 3072) (hn : n < 512) (hce : cells + 2 ≤ 603072) (hsl : slots + 40 ≤ 7219306) {H : Heap} {locs : List Loc} (hLI : LI g s0 ks lt ty lg fa da ch dg wa st m0 qf qu qz qd qx ql qg qb qy qc qe qw qt qr qi ao A n H) (hS : va_S A s.heap H locs) {ls : Array Slot} (hl : lv_has ls 7 [(0, .ref b), (1, .ref s0), (2, .ref m0), (3, .ref ao), (4, .int (nI i))])
    (kk : ∀ (H : Heap) (locs : List Loc), LI g s0 ks lt ty lg fa da ch dg wa st m0 qf qu qz qd qx ql qg qb qy qc qe qw qt qr qi ao A (n + 1) H → va_S A s.heap H locs → ∀ ls : Array Slot, lv_has ls 7 [(0, .ref b), (1, .ref s0), (2, .ref m0), (3, .ref ao), (4, .int (nI i))] → W p l e room_1 s m #[Value.ref b] below meth c H locs (cells + 2) (slots + 40) Q (F0 m 645 ls [])) : W p l e room_1 s m #[Value.ref b] below meth c H locs cells slots Q (F0 m 461 ls []) := by
  have hts : ∀ w ∈ wsL_law, w.before #[Value.ref b] s = true := fun w hw => htl w (wsL_law_in w hw)
  obtain ⟨kn, mn, tn, cc, sp, rk, th, has, fk, fl, ft, ff, fd, fc, fw, fs, kf, ku, fz, fus, fx, fl2, fe, fw2, fs2, fr9, fb9, fo, KL, hP, hD, ⟨hkn, hlen, hKs, hfree, hmn, htn, hsp, hff, hlt, hrk, hr9, hb9⟩⟩ := hLI
  obtain ⟨X, eX⟩ : ∃ z, z = lgE (xs (i + 1)) (xs (i + 2)) := ⟨_, rfl⟩
  by_cases h0 : 0 ≤ X.toInt ∧ X.toInt < mn
  · obtain ⟨j, hjb, ejn, tjn⟩ := i64_of (x := X) (by omega)
    subst ejn
    have hj : j < mn := by omega
    by_cases hu : ff j = 0
    · refine lv_aload_n hx hb dL_law_461 rfl (lv_at hl 1 rfl) ?_
      refine lv_aload_n hx hb dL_law_462 rfl (lv_at hl 0 rfl) ?_
      refine lv_iload hx hb dL_law_463 (lv_at hl 4 rfl) ?_
      refine lv_iconst (v := (nI 1)) hx hb dL_law_465 (by decide) ?_
      refine lv_iadd hx hb dL_law_466 ?_
      refine lv_rei (x' := (nI (i + 1))) (nI_add _ _) ?_
      refine va_sld hx hb hXs hbl hbA hS (vp_in_nI (by omega) (by omega)) dL_law_467 ?_
      refine lv_rei (x' := (xs (i + 1))) (congrArg xs (nI_clamp (by omega))) ?_
      refine lv_i2l hx hb dL_law_468 rfl ?_
      refine lv_bipush (v := (nI 32)) hx hb dL_law_469 (by decide) ?_
      refine lv_lshl hx hb dL_law_471 rfl ?_
      refine lv_aload_n hx hb dL_law_472 rfl (lv_at hl 0 rfl) ?_
      refine lv_iload hx hb dL_law_473 (lv_at hl 4 rfl) ?_
      refine lv_iconst (v := (nI 2)) hx hb dL_law_475 (by decide) ?_
      refine lv_iadd hx hb dL_law_476 ?_
      refine lv_rei (x' := (nI (i + 2))) (nI_add _ _) ?_
      refine va_sld hx hb hXs hbl hbA hS (vp_in_nI (by omega) (by omega)) dL_law_477 ?_
      refine lv_rei (x' := (xs (i + 2))) (congrArg xs (nI_clamp (by omega))) ?_
      refine lv_i2l hx hb dL_law_478 rfl ?_
      refine lv_ldc2 (v := (lN 4294967295)) hx hb hown (hts (.constantLong RL 19 (lN 4294967295)) (by decide +kernel)) dL_law_479 ?_
      refine lv_land hx hb dL_law_482 ?_
      refine lv_lor hx hb dL_law_483 ?_
      refine lv_rel (x' := (lN j)) (eX.symm) ?_
      refine wVi (rest := []) ⟨hx, hb, hml, hown, hts⟩ [.long (lN j)] [0, 4, 5] (c_X4_refund_yes l g H.size (s0 := s0) (ks := ks) (lt := lt) (ty := ty) (lg := lg) (dg := dg) (kn := kn) (mn := mn) (tn := tn) (cc := cc) (sp := sp) (fa := fa) (da := da) (ch := ch) (ff := ff) (j := j) hj (by omega) hu) (cwV 1 hts gL_law_X4_refund rfl rfl rfl (by decide +kernel) ⟨Nat.le_of_ble_eq_true rfl, Nat.le_of_ble_eq_true rfl⟩) hK hZ hS hP hD hA rfl (by decide) (fun _ => Nat.le_of_ble_eq_true rfl) (fun _ => rfl) (va_recv hK.1 hP (ci := 5) (q0 := 0) rfl rfl) rfl hl.1 rfl (Nat.le_of_ble_eq_true rfl) dL_law_484 ⟨show cells + 0 ≤ 603072 by omega, show slots + 0 ≤ 7219306 by omega⟩ (fun r_270 u H locs hr_270 hP hD hS => ?_)
      have hP : va_P g.1 vwCl ((s0, .inr (5, [.ref ks, .int (nI kn), .int (nI mn), .ref lt, .ref ty, .int (nI tn), .int cc, .int sp, .ref lg, .ref dg])) :: (ks, .inl (g.2.1 4, 15, .inr (.inr (.inr (.inr fk))))) :: (lt, .inl (g.2.1 0, 16, .inl fl)) :: (ty, .inl (g.2.1 0, 40, .inl ft)) :: (lg, .inr (4, [.ref fa, .ref da, .ref ch])) :: (fa, .inl (g.2.1 1, 16384, .inl (upd ff j (nI 2)))) :: (da, .inl (g.2.1 0, 16384, .inl fd)) :: (ch, .inl (g.2.1 0, 16384, .inl fc)) :: (dg, .inr (2, [.ref wa, .ref st, .int rk])) :: (wa, .inl (g.2.1 0, 64, .inl fw)) :: (st, .inl (g.2.1 0, 8, .inl fs)) :: (m0, .inr (6, [.int th, .int (nI kn), .ref qf, .ref qu, .ref qz, .ref qd, .ref qx, .int (nI mn), .int has, .ref ql, .int (nI tn), .ref qg, .int cc, .ref qb, .ref qy, .ref qc, .int sp, .int rk, .ref qe, .ref qw, .ref qt, .ref qr, .ref qi])) :: (qf, .inl (g.2.1 0, 15, .inl kf)) :: (qu, .inl (g.2.1 0, 15, .inl ku)) :: (qz, .inl (g.2.1 0, 15, .inl fz)) :: (qd, .inl (g.2.1 2, 15, .inl fus)) :: (qx, .inl (g.2.1 1, 480, .inl fx)) :: (ql, .inl (g.2.1 0, 16, .inl fl2)) :: (qg, .inl (g.2.1 0, 40, .inl ft)) :: (qb, .inl (g.2.1 1, 16384, .inl ff)) :: (qy, .inl (g.2.1 0, 16384, .inl fd)) :: (qc, .inl (g.2.1 0, 16384, .inl fc)) :: (qe, .inl (g.2.1 1, 32, .inl fe)) :: (qw, .inl (g.2.1 0, 64, .inl fw2)) :: (qt, .inl (g.2.1 0, 8, .inl fs2)) :: (qr, .inl (g.2.1 0, 64, .inl fr9)) :: (qi, .inl (g.2.1 0, 8, .inl fb9)) :: (ao, .inl (g.2.1 3, 1, .inr (.inl fo))) :: kyW g KL) H := hP
      have hD : va_D A ((s0, .inr (5, [.ref ks, .int (nI kn), .int (nI mn), .ref lt, .ref ty, .int (nI tn), .int cc, .int sp, .ref lg, .ref dg])) :: (ks, .inl (g.2.1 4, 15, .inr (.inr (.inr (.inr fk))))) :: (lt, .inl (g.2.1 0, 16, .inl fl)) :: (ty, .inl (g.2.1 0, 40, .inl ft)) :: (lg, .inr (4, [.ref fa, .ref da, .ref ch])) :: (fa, .inl (g.2.1 1, 16384, .inl (upd ff j (nI 2)))) :: (da, .inl (g.2.1 0, 16384, .inl fd)) :: (ch, .inl (g.2.1 0, 16384, .inl fc)) :: (dg, .inr (2, [.ref wa, .ref st, .int rk])) :: (wa, .inl (g.2.1 0, 64, .inl fw)) :: (st, .inl (g.2.1 0, 8, .inl fs)) :: (m0, .inr (6, [.int th, .int (nI kn), .ref qf, .ref qu, .ref qz, .ref qd, .ref qx, .int (nI mn), .int has, .ref ql, .int (nI tn), .ref qg, .int cc, .ref qb, .ref qy, .ref qc, .int sp, .int rk, .ref qe, .ref qw, .ref qt, .ref qr, .ref qi])) :: (qf, .inl (g.2.1 0, 15, .inl kf)) :: (qu, .inl (g.2.1 0, 15, .inl ku)) :: (qz, .inl (g.2.1 0, 15, .inl fz)) :: (qd, .inl (g.2.1 2, 15, .inl fus)) :: (qx, .inl (g.2.1 1, 480, .inl fx)) :: (ql, .inl (g.2.1 0, 16, .inl fl2)) :: (qg, .inl (g.2.1 0, 40, .inl ft)) :: (qb, .inl (g.2.1 1, 16384, .inl ff)) :: (qy, .inl (g.2.1 0, 16384, .inl fd)) :: (qc, .inl (g.2.1 0, 16384, .inl fc)) :: (qe, .inl (g.2.1 1, 32, .inl fe)) :: (qw, .inl (g.2.1 0, 64, .inl fw2)) :: (qt, .inl (g.2.1 0, 8, .inl fs2)) :: (qr, .inl (g.2.1 0, 64, .inl fr9)) :: (qi, .inl (g.2.1 0, 8, .inl fb9)) :: (ao, .inl (g.2.1 3, 1, .inr (.inl fo))) :: kyW g KL) := hD
      refine lv_rei (x' := (nI 1)) (hr_270) ?_
      refine lv_aload_n hx hb dL_law_487 rfl (lv_at hl 2 rfl) ?_
      refine lv_aload_n hx hb dL_law_488 rfl (lv_at hl 0 rfl) ?_
      refine lv_iload hx hb dL_law_489 (lv_at hl 4 rfl) ?_
      refine lv_iconst (v := (nI 1)) hx hb dL_law_491 (by decide) ?_
      refine lv_iadd hx hb dL_law_492 ?_
      refine lv_rei (x' := (nI (i + 1))) (nI_add _ _) ?_
      refine va_sld hx hb hXs hbl hbA hS (vp_in_nI (by omega) (by omega)) dL_law_493 ?_
      refine lv_rei (x' := (xs (i + 1))) (congrArg xs (nI_clamp (by omega))) ?_
      refine lv_i2l hx hb dL_law_494 rfl ?_
      refine lv_bipush (v := (nI 32)) hx hb dL_law_495 (by decide) ?_
      refine lv_lshl hx hb dL_law_497 rfl ?_
      refine lv_aload_n hx hb dL_law_498 rfl (lv_at hl 0 rfl) ?_
      refine lv_iload hx hb dL_law_499 (lv_at hl 4 rfl) ?_
      refine lv_iconst (v := (nI 2)) hx hb dL_law_501 (by decide) ?_
      refine lv_iadd hx hb dL_law_502 ?_
      refine lv_rei (x' := (nI (i + 2))) (nI_add _ _) ?_
      refine va_sld hx hb hXs hbl hbA hS (vp_in_nI (by omega) (by omega)) dL_law_503 ?_
      refine lv_rei (x' := (xs (i + 2))) (congrArg xs (nI_clamp (by omega))) ?_
      refine lv_i2l hx hb dL_law_504 rfl ?_
      refine lv_ldc2 (v := (lN 4294967295)) hx hb hown (hts (.constantLong RL 19 (lN 4294967295)) (by decide +kernel)) dL_law_505 ?_
      refine lv_land hx hb dL_law_508 ?_
      refine lv_lor hx hb dL_law_509 ?_
      refine lv_rel (x' := (lN j)) (eX.symm) ?_
      refine wVi (rest := [.int (nI 1)]) ⟨hx, hb, hml, hown, hts⟩ [.long (lN j)] [11, 19] (c_X5_refund_yes l g H.size (m0 := m0) (kn := kn) (mn := mn) (tn := tn) (qf := qf) (qu := qu) (qz := qz) (qd := qd) (qx := qx) (ql := ql) (qg := qg) (qb := qb) (qy := qy) (qc := qc) (qe := qe) (qw := qw) (qt := qt) (qr := qr) (qi := qi) (th := th) (has := has) (cc := cc) (sp := sp) (rk := rk) (ff := ff) (j := j) hj (by omega) hu) (cwV 1 hts gL_law_X5_refund rfl rfl rfl (by decide +kernel) ⟨Nat.le_of_ble_eq_true rfl, Nat.le_of_ble_eq_true rfl⟩) hK hZ hS hP hD hA rfl (by decide) (fun _ => Nat.le_of_ble_eq_true rfl) (fun _ => rfl) (va_recv hK.1 hP (ci := 6) (q0 := 11) rfl rfl) rfl hl.1 rfl (Nat.le_of_ble_eq_true rfl) dL_law_510 ⟨show cells + 0 + 0 ≤ 603072 by omega, show slots + 0 + 0 ≤ 7219306 by omega⟩ (fun r_271 u H locs hr_271 hP hD hS => ?_)
      have hP : va_P g.1 vwCl ((s0, .inr (5, [.ref ks, .int (nI kn), .int (nI mn), .ref lt, .ref ty, .int (nI tn), .int cc, .int sp, .ref lg, .ref dg])) :: (ks, .inl (g.2.1 4, 15, .inr (.inr (.inr (.inr fk))))) :: (lt, .inl (g.2.1 0, 16, .inl fl)) :: (ty, .inl (g.2.1 0, 40, .inl ft)) :: (lg, .inr (4, [.ref fa, .ref da, .ref ch])) :: (fa, .inl (g.2.1 1, 16384, .inl (upd ff j (nI 2)))) :: (da, .inl (g.2.1 0, 16384, .inl fd)) :: (ch, .inl (g.2.1 0, 16384, .inl fc)) :: (dg, .inr (2, [.ref wa, .ref st, .int rk])) :: (wa, .inl (g.2.1 0, 64, .inl fw)) :: (st, .inl (g.2.1 0, 8, .inl fs)) :: (m0, .inr (6, [.int (nI 0), .int (nI kn), .ref qf, .ref qu, .ref qz, .ref qd, .ref qx, .int (nI mn), .int has, .ref ql, .int (nI tn), .ref qg, .int cc, .ref qb, .ref qy, .ref qc, .int sp, .int rk, .ref qe, .ref qw, .ref qt, .ref qr, .ref qi])) :: (qf, .inl (g.2.1 0, 15, .inl kf)) :: (qu, .inl (g.2.1 0, 15, .inl ku)) :: (qz, .inl (g.2.1 0, 15, .inl fz)) :: (qd, .inl (g.2.1 2, 15, .inl fus)) :: (qx, .inl (g.2.1 1, 480, .inl fx)) :: (ql, .inl (g.2.1 0, 16, .inl fl2)) :: (qg, .inl (g.2.1 0, 40, .inl ft)) :: (qb, .inl (g.2.1 1, 16384, .inl (upd ff j (nI 2)))) :: (qy, .inl (g.2.1 0, 16384, .inl fd)) :: (qc, .inl (g.2.1 0, 16384, .inl fc)) :: (qe, .inl (g.2.1 1, 32, .inl fe)) :: (qw, .inl (g.2.1 0, 64, .inl fw2)) :: (qt, .inl (g.2.1 0, 8, .inl fs2)) :: (qr, .inl (g.2.1 0, 64, .inl fr9)) :: (qi, .inl (g.2.1 0, 8, .inl fb9)) :: (ao, .inl (g.2.1 3, 1, .inr (.inl fo))) :: kyW g KL) H := hP
      have hD : va_D A ((s0, .inr (5, [.ref ks, .int (nI kn), .int (nI mn), .ref lt, .ref ty, .int (nI tn), .int cc, .int sp, .ref lg, .ref dg])) :: (ks, .inl (g.2.1 4, 15, .inr (.inr (.inr (.inr fk))))) :: (lt, .inl (g.2.1 0, 16, .inl fl)) :: (ty, .inl (g.2.1 0, 40, .inl ft)) :: (lg, .inr (4, [.ref fa, .ref da, .ref ch])) :: (fa, .inl (g.2.1 1, 16384, .inl (upd ff j (nI 2)))) :: (da, .inl (g.2.1 0, 16384, .inl fd)) :: (ch, .inl (g.2.1 0, 16384, .inl fc)) :: (dg, .inr (2, [.ref wa, .ref st, .int rk])) :: (wa, .inl (g.2.1 0, 64, .inl fw)) :: (st, .inl (g.2.1 0, 8, .inl fs)) :: (m0, .inr (6, [.int (nI 0), .int (nI kn), .ref qf, .ref qu, .ref qz, .ref qd, .ref qx, .int (nI mn), .int has, .ref ql, .int (nI tn), .ref qg, .int cc, .ref qb, .ref qy, .ref qc, .int sp, .int rk, .ref qe, .ref qw, .ref qt, .ref qr, .ref qi])) :: (qf, .inl (g.2.1 0, 15, .inl kf)) :: (qu, .inl (g.2.1 0, 15, .inl ku)) :: (qz, .inl (g.2.1 0, 15, .inl fz)) :: (qd, .inl (g.2.1 2, 15, .inl fus)) :: (qx, .inl (g.2.1 1, 480, .inl fx)) :: (ql, .inl (g.2.1 0, 16, .inl fl2)) :: (qg, .inl (g.2.1 0, 40, .inl ft)) :: (qb, .inl (g.2.1 1, 16384, .inl (upd ff j (nI 2)))) :: (qy, .inl (g.2.1 0, 16384, .inl fd)) :: (qc, .inl (g.2.1 0, 16384, .inl fc)) :: (qe, .inl (g.2.1 1, 32, .inl fe)) :: (qw, .inl (g.2.1 0, 64, .inl fw2)) :: (qt, .inl (g.2.1 0, 8, .inl fs2)) :: (qr, .inl (g.2.1 0, 64, .inl fr9)) :: (qi, .inl (g.2.1 0, 8, .inl fb9)) :: (ao, .inl (g.2.1 3, 1, .inr (.inl fo))) :: kyW g KL) := hD
      refine lv_rei (x' := (nI 1)) (hr_271) ?_
      refine lv_icmp_eq (tgt := 645) hx hb dL_law_513 (by decide) (fun _ => ?_) (fun c9 => absurd (rfl) c9)
      refine W.widen (k := cells + 2) (n := slots + 40) (by omega) (by omega) ?_
      exact kk _ _ ⟨kn, mn, tn, cc, sp, rk, (nI 0), has, fk, fl, ft, upd ff j (nI 2), fd, fc, fw, fs, kf, ku, fz, fus, fx, fl2, fe, fw2, fs2, fr9, fb9, fo, KL, hP, hD, ⟨hkn, hlen, hKs, hfree, by omega, htn, hsp, FF.put hff j (Or.inr (Or.inr rfl)), hlt, hrk, hr9, hb9⟩⟩ hS ls (lv_sub hl [0, 1, 2, 3, 4] rfl)
    · refine lv_aload_n hx hb dL_law_461 rfl (lv_at hl 1 rfl) ?_
      refine lv_aload_n hx hb dL_law_462 rfl (lv_at hl 0 rfl) ?_
      refine lv_iload hx hb dL_law_463 (lv_at hl 4 rfl) ?_
      refine lv_iconst (v := (nI 1)) hx hb dL_law_465 (by decide) ?_
      refine lv_iadd hx hb dL_law_466 ?_
      refine lv_rei (x' := (nI (i + 1))) (nI_add _ _) ?_
      refine va_sld hx hb hXs hbl hbA hS (vp_in_nI (by omega) (by omega)) dL_law_467 ?_
      refine lv_rei (x' := (xs (i + 1))) (congrArg xs (nI_clamp (by omega))) ?_
      refine lv_i2l hx hb dL_law_468 rfl ?_
      refine lv_bipush (v := (nI 32)) hx hb dL_law_469 (by decide) ?_
      refine lv_lshl hx hb dL_law_471 rfl ?_
      refine lv_aload_n hx hb dL_law_472 rfl (lv_at hl 0 rfl) ?_
      refine lv_iload hx hb dL_law_473 (lv_at hl 4 rfl) ?_
      refine lv_iconst (v := (nI 2)) hx hb dL_law_475 (by decide) ?_
      refine lv_iadd hx hb dL_law_476 ?_
      refine lv_rei (x' := (nI (i + 2))) (nI_add _ _) ?_
      refine va_sld hx hb hXs hbl hbA hS (vp_in_nI (by omega) (by omega)) dL_law_477 ?_
      refine lv_rei (x' := (xs (i + 2))) (congrArg xs (nI_clamp (by omega))) ?_
      refine lv_i2l hx hb dL_law_478 rfl ?_
      refine lv_ldc2 (v := (lN 4294967295)) hx hb hown (hts (.constantLong RL 19 (lN 4294967295)) (by decide +kernel)) dL_law_479 ?_
      refine lv_land hx hb dL_law_482 ?_
      refine lv_lor hx hb dL_law_483 ?_
      refine lv_rel (x' := (lN j)) (eX.symm) ?_
      refine cVi (rest := []) ⟨hx, hb, hml, hown, hts⟩ [.long (lN j)] (c_X4_refund_used l g (s0 := s0) (ks := ks) (lt := lt) (ty := ty) (lg := lg) (dg := dg) (kn := kn) (mn := mn) (tn := tn) (cc := cc) (sp := sp) (fa := fa) (da := da) (ch := ch) (ff := ff) (j := j) hj (by omega) hu) (cwV 1 hts gL_law_X4_refund rfl rfl rfl (by decide +kernel) ⟨Nat.le_of_ble_eq_true rfl, Nat.le_of_ble_eq_true rfl⟩) hK hZ hS (subP hP [0, 4, 5] rfl) (va_recv hK.1 hP (ci := 5) (q0 := 0) rfl rfl) rfl hl.1 rfl (Nat.le_of_ble_eq_true rfl) dL_law_484 ⟨show cells ≤ 603072 by omega, show slots ≤ 7219306 by omega⟩ (fun r_272 hr_272 => ?_)
      refine lv_rei (x' := (nI 0)) (hr_272) ?_
      refine lv_aload_n hx hb dL_law_487 rfl (lv_at hl 2 rfl) ?_
      refine lv_aload_n hx hb dL_law_488 rfl (lv_at hl 0 rfl) ?_
      refine lv_iload hx hb dL_law_489 (lv_at hl 4 rfl) ?_
      refine lv_iconst (v := (nI 1)) hx hb dL_law_491 (by decide) ?_
      refine lv_iadd hx hb dL_law_492 ?_
      refine lv_rei (x' := (nI (i + 1))) (nI_add _ _) ?_
      refine va_sld hx hb hXs hbl hbA hS (vp_in_nI (by omega) (by omega)) dL_law_493 ?_
      refine lv_rei (x' := (xs (i + 1))) (congrArg xs (nI_clamp (by omega))) ?_
      refine lv_i2l hx hb dL_law_494 rfl ?_
      refine lv_bipush (v := (nI 32)) hx hb dL_law_495 (by decide) ?_
      refine lv_lshl hx hb dL_law_497 rfl ?_
      refine lv_aload_n hx hb dL_law_498 rfl (lv_at hl 0 rfl) ?_
      refine lv_iload hx hb dL_law_499 (lv_at hl 4 rfl) ?_
      refine lv_iconst (v := (nI 2)) hx hb dL_law_501 (by decide) ?_
      refine lv_iadd hx hb dL_law_502 ?_
      refine lv_rei (x' := (nI (i + 2))) (nI_add _ _) ?_
      refine va_sld hx hb hXs hbl hbA hS (vp_in_nI (by omega) (by omega)) dL_law_503 ?_
      refine lv_rei (x' := (xs (i + 2))) (congrArg xs (nI_clamp (by omega))) ?_
      refine lv_i2l hx hb dL_law_504 rfl ?_
      refine lv_ldc2 (v := (lN 4294967295)) hx hb hown (hts (.constantLong RL 19 (lN 4294967295)) (by decide +kernel)) dL_law_505 ?_
      refine lv_land hx hb dL_law_508 ?_
      refine lv_lor hx hb dL_law_509 ?_
      refine lv_rel (x' := (lN j)) (eX.symm) ?_
      refine wVi (rest := [.int (nI 0)]) ⟨hx, hb, hml, hown, hts⟩ [.long (lN j)] [11, 19] (c_X5_refund_used l g H.size (m0 := m0) (kn := kn) (mn := mn) (tn := tn) (qf := qf) (qu := qu) (qz := qz) (qd := qd) (qx := qx) (ql := ql) (qg := qg) (qb := qb) (qy := qy) (qc := qc) (qe := qe) (qw := qw) (qt := qt) (qr := qr) (qi := qi) (th := th) (has := has) (cc := cc) (sp := sp) (rk := rk) (ff := ff) (j := j) hj (by omega) (ff_pos hff hu)) (cwV 1 hts gL_law_X5_refund rfl rfl rfl (by decide +kernel) ⟨Nat.le_of_ble_eq_true rfl, Nat.le_of_ble_eq_true rfl⟩) hK hZ hS hP hD hA rfl (by decide) (fun _ => Nat.le_of_ble_eq_true rfl) (fun _ => rfl) (va_recv hK.1 hP (ci := 6) (q0 := 11) rfl rfl) rfl hl.1 rfl (Nat.le_of_ble_eq_true rfl) dL_law_510 ⟨show cells + 0 ≤ 603072 by omega, show slots + 0 ≤ 7219306 by omega⟩ (fun r_273 u H locs hr_273 hP hD hS => ?_)
      have hP : va_P g.1 vwCl ((s0, .inr (5, [.ref ks, .int (nI kn), .int (nI mn), .ref lt, .ref ty, .int (nI tn), .int cc, .int sp, .ref lg, .ref dg])) :: (ks, .inl (g.2.1 4, 15, .inr (.inr (.inr (.inr fk))))) :: (lt, .inl (g.2.1 0, 16, .inl fl)) :: (ty, .inl (g.2.1 0, 40, .inl ft)) :: (lg, .inr (4, [.ref fa, .ref da, .ref ch])) :: (fa, .inl (g.2.1 1, 16384, .inl ff)) :: (da, .inl (g.2.1 0, 16384, .inl fd)) :: (ch, .inl (g.2.1 0, 16384, .inl fc)) :: (dg, .inr (2, [.ref wa, .ref st, .int rk])) :: (wa, .inl (g.2.1 0, 64, .inl fw)) :: (st, .inl (g.2.1 0, 8, .inl fs)) :: (m0, .inr (6, [.int (nI 0), .int (nI kn), .ref qf, .ref qu, .ref qz, .ref qd, .ref qx, .int (nI mn), .int has, .ref ql, .int (nI tn), .ref qg, .int cc, .ref qb, .ref qy, .ref qc, .int sp, .int rk, .ref qe, .ref qw, .ref qt, .ref qr, .ref qi])) :: (qf, .inl (g.2.1 0, 15, .inl kf)) :: (qu, .inl (g.2.1 0, 15, .inl ku)) :: (qz, .inl (g.2.1 0, 15, .inl fz)) :: (qd, .inl (g.2.1 2, 15, .inl fus)) :: (qx, .inl (g.2.1 1, 480, .inl fx)) :: (ql, .inl (g.2.1 0, 16, .inl fl2)) :: (qg, .inl (g.2.1 0, 40, .inl ft)) :: (qb, .inl (g.2.1 1, 16384, .inl ff)) :: (qy, .inl (g.2.1 0, 16384, .inl fd)) :: (qc, .inl (g.2.1 0, 16384, .inl fc)) :: (qe, .inl (g.2.1 1, 32, .inl fe)) :: (qw, .inl (g.2.1 0, 64, .inl fw2)) :: (qt, .inl (g.2.1 0, 8, .inl fs2)) :: (qr, .inl (g.2.1 0, 64, .inl fr9)) :: (qi, .inl (g.2.1 0, 8, .inl fb9)) :: (ao, .inl (g.2.1 3, 1, .inr (.inl fo))) :: kyW g KL) H := hP
      have hD : va_D A ((s0, .inr (5, [.ref ks, .int (nI kn), .int (nI mn), .ref lt, .ref ty, .int (nI tn), .int cc, .int sp, .ref lg, .ref dg])) :: (ks, .inl (g.2.1 4, 15, .inr (.inr (.inr (.inr fk))))) :: (lt, .inl (g.2.1 0, 16, .inl fl)) :: (ty, .inl (g.2.1 0, 40, .inl ft)) :: (lg, .inr (4, [.ref fa, .ref da, .ref ch])) :: (fa, .inl (g.2.1 1, 16384, .inl ff)) :: (da, .inl (g.2.1 0, 16384, .inl fd)) :: (ch, .inl (g.2.1 0, 16384, .inl fc)) :: (dg, .inr (2, [.ref wa, .ref st, .int rk])) :: (wa, .inl (g.2.1 0, 64, .inl fw)) :: (st, .inl (g.2.1 0, 8, .inl fs)) :: (m0, .inr (6, [.int (nI 0), .int (nI kn), .ref qf, .ref qu, .ref qz, .ref qd, .ref qx, .int (nI mn), .int has, .ref ql, .int (nI tn), .ref qg, .int cc, .ref qb, .ref qy, .ref qc, .int sp, .int rk, .ref qe, .ref qw, .ref qt, .ref qr, .ref qi])) :: (qf, .inl (g.2.1 0, 15, .inl kf)) :: (qu, .inl (g.2.1 0, 15, .inl ku)) :: (qz, .inl (g.2.1 0, 15, .inl fz)) :: (qd, .inl (g.2.1 2, 15, .inl fus)) :: (qx, .inl (g.2.1 1, 480, .inl fx)) :: (ql, .inl (g.2.1 0, 16, .inl fl2)) :: (qg, .inl (g.2.1 0, 40, .inl ft)) :: (qb, .inl (g.2.1 1, 16384, .inl ff)) :: (qy, .inl (g.2.1 0, 16384, .inl fd)) :: (qc, .inl (g.2.1 0, 16384, .inl fc)) :: (qe, .inl (g.2.1 1, 32, .inl fe)) :: (qw, .inl (g.2.1 0, 64, .inl fw2)) :: (qt, .inl (g.2.1 0, 8, .inl fs2)) :: (qr, .inl (g.2.1 0, 64, .inl fr9)) :: (qi, .inl (g.2.1 0, 8, .inl fb9)) :: (ao, .inl (g.2.1 3, 1, .inr (.inl fo))) :: kyW g KL) := hD
      refine lv_rei (x' := (nI 0)) (hr_273) ?_
      refine lv_icmp_eq (tgt := 645) hx hb dL_law_513 (by decide) (fun _ => ?_) (fun c9 => absurd (rfl) c9)
      refine W.widen (k := cells + 2) (n := slots + 40) (by omega) (by omega) ?_
      exact kk _ _ ⟨kn, mn, tn, cc, sp, rk, (nI 0), has, fk, fl, ft, ff, fd, fc, fw, fs, kf, ku, fz, fus, fx, fl2, fe, fw2, fs2, fr9, fb9, fo, KL, hP, hD, ⟨hkn, hlen, hKs, hfree, by omega, htn, hsp, hff, hlt, hrk, hr9, hb9⟩⟩ hS ls (lv_sub hl [0, 1, 2, 3, 4] rfl)
  · refine lv_aload_n hx hb dL_law_461 rfl (lv_at hl 1 rfl) ?_
    refine lv_aload_n hx hb dL_law_462 rfl (lv_at hl 0 rfl) ?_
    refine lv_iload hx hb dL_law_463 (lv_at hl 4 rfl) ?_
    refine lv_iconst (v := (nI 1)) hx hb dL_law_465 (by decide) ?_
    refine lv_iadd hx hb dL_law_466 ?_
    refine lv_rei (x' := (nI (i + 1))) (nI_add _ _) ?_
    refine va_sld hx hb hXs hbl hbA hS (vp_in_nI (by omega) (by omega)) dL_law_467 ?_
    refine lv_rei (x' := (xs (i + 1))) (congrArg xs (nI_clamp (by omega))) ?_
    refine lv_i2l hx hb dL_law_468 rfl ?_
    refine lv_bipush (v := (nI 32)) hx hb dL_law_469 (by decide) ?_
    refine lv_lshl hx hb dL_law_471 rfl ?_
    refine lv_aload_n hx hb dL_law_472 rfl (lv_at hl 0 rfl) ?_
    refine lv_iload hx hb dL_law_473 (lv_at hl 4 rfl) ?_
    refine lv_iconst (v := (nI 2)) hx hb dL_law_475 (by decide) ?_
    refine lv_iadd hx hb dL_law_476 ?_
    refine lv_rei (x' := (nI (i + 2))) (nI_add _ _) ?_
    refine va_sld hx hb hXs hbl hbA hS (vp_in_nI (by omega) (by omega)) dL_law_477 ?_
    refine lv_rei (x' := (xs (i + 2))) (congrArg xs (nI_clamp (by omega))) ?_
    refine lv_i2l hx hb dL_law_478 rfl ?_
    refine lv_ldc2 (v := (lN 4294967295)) hx hb hown (hts (.constantLong RL 19 (lN 4294967295)) (by decide +kernel)) dL_law_479 ?_
    refine lv_land hx hb dL_law_482 ?_
    refine lv_lor hx hb dL_law_483 ?_
    refine lv_rel (x' := X) (eX.symm) ?_
    refine cVi (rest := []) ⟨hx, hb, hml, hown, hts⟩ [.long X] (c_X4_refund_out l g (s0 := s0) (ks := ks) (lt := lt) (ty := ty) (lg := lg) (dg := dg) (kn := kn) (mn := mn) (tn := tn) (cc := cc) (sp := sp) (x := X) h0 (by omega)) (cwV 1 hts gL_law_X4_refund rfl rfl rfl (by decide +kernel) ⟨Nat.le_of_ble_eq_true rfl, Nat.le_of_ble_eq_true rfl⟩) hK hZ hS (subP hP [0] rfl) (va_recv hK.1 hP (ci := 5) (q0 := 0) rfl rfl) rfl hl.1 rfl (Nat.le_of_ble_eq_true rfl) dL_law_484 ⟨show cells ≤ 603072 by omega, show slots ≤ 7219306 by omega⟩ (fun r_274 hr_274 => ?_)
    refine lv_rei (x' := (nI 0)) (hr_274) ?_
    refine lv_aload_n hx hb dL_law_487 rfl (lv_at hl 2 rfl) ?_
    refine lv_aload_n hx hb dL_law_488 rfl (lv_at hl 0 rfl) ?_
    refine lv_iload hx hb dL_law_489 (lv_at hl 4 rfl) ?_
    refine lv_iconst (v := (nI 1)) hx hb dL_law_491 (by decide) ?_
    refine lv_iadd hx hb dL_law_492 ?_
    refine lv_rei (x' := (nI (i + 1))) (nI_add _ _) ?_
    refine va_sld hx hb hXs hbl hbA hS (vp_in_nI (by omega) (by omega)) dL_law_493 ?_
    refine lv_rei (x' := (xs (i + 1))) (congrArg xs (nI_clamp (by omega))) ?_
    refine lv_i2l hx hb dL_law_494 rfl ?_
    refine lv_bipush (v := (nI 32)) hx hb dL_law_495 (by decide) ?_
    refine lv_lshl hx hb dL_law_497 rfl ?_
    refine lv_aload_n hx hb dL_law_498 rfl (lv_at hl 0 rfl) ?_
    refine lv_iload hx hb dL_law_499 (lv_at hl 4 rfl) ?_
    refine lv_iconst (v := (nI 2)) hx hb dL_law_501 (by decide) ?_
    refine lv_iadd hx hb dL_law_502 ?_
    refine lv_rei (x' := (nI (i + 2))) (nI_add _ _) ?_
    refine va_sld hx hb hXs hbl hbA hS (vp_in_nI (by omega) (by omega)) dL_law_503 ?_
    refine lv_rei (x' := (xs (i + 2))) (congrArg xs (nI_clamp (by omega))) ?_
    refine lv_i2l hx hb dL_law_504 rfl ?_
    refine lv_ldc2 (v := (lN 4294967295)) hx hb hown (hts (.constantLong RL 19 (lN 4294967295)) (by decide +kernel)) dL_law_505 ?_
    refine lv_land hx hb dL_law_508 ?_
    refine lv_lor hx hb dL_law_509 ?_
    refine lv_rel (x' := X) (eX.symm) ?_
    refine wVi (rest := [.int (nI 0)]) ⟨hx, hb, hml, hown, hts⟩ [.long X] [11] (c_X5_refund_out l g H.size (m0 := m0) (kn := kn) (mn := mn) (tn := tn) (qf := qf) (qu := qu) (qz := qz) (qd := qd) (qx := qx) (ql := ql) (qg := qg) (qb := qb) (qy := qy) (qc := qc) (qe := qe) (qw := qw) (qt := qt) (qr := qr) (qi := qi) (th := th) (has := has) (cc := cc) (sp := sp) (rk := rk) (x := X) h0 (by omega)) (cwV 1 hts gL_law_X5_refund rfl rfl rfl (by decide +kernel) ⟨Nat.le_of_ble_eq_true rfl, Nat.le_of_ble_eq_true rfl⟩) hK hZ hS hP hD hA rfl (by decide) (fun _ => Nat.le_of_ble_eq_true rfl) (fun _ => rfl) (va_recv hK.1 hP (ci := 6) (q0 := 11) rfl rfl) rfl hl.1 rfl (Nat.le_of_ble_eq_true rfl) dL_law_510 ⟨show cells + 0 ≤ 603072 by omega, show slots + 0 ≤ 7219306 by omega⟩ (fun r_275 u H locs hr_275 hP hD hS => ?_)
    have hP : va_P g.1 vwCl ((s0, .inr (5, [.ref ks, .int (nI kn), .int (nI mn), .ref lt, .ref ty, .int (nI tn), .int cc, .int sp, .ref lg, .ref dg])) :: (ks, .inl (g.2.1 4, 15, .inr (.inr (.inr (.inr fk))))) :: (lt, .inl (g.2.1 0, 16, .inl fl)) :: (ty, .inl (g.2.1 0, 40, .inl ft)) :: (lg, .inr (4, [.ref fa, .ref da, .ref ch])) :: (fa, .inl (g.2.1 1, 16384, .inl ff)) :: (da, .inl (g.2.1 0, 16384, .inl fd)) :: (ch, .inl (g.2.1 0, 16384, .inl fc)) :: (dg, .inr (2, [.ref wa, .ref st, .int rk])) :: (wa, .inl (g.2.1 0, 64, .inl fw)) :: (st, .inl (g.2.1 0, 8, .inl fs)) :: (m0, .inr (6, [.int (nI 0), .int (nI kn), .ref qf, .ref qu, .ref qz, .ref qd, .ref qx, .int (nI mn), .int has, .ref ql, .int (nI tn), .ref qg, .int cc, .ref qb, .ref qy, .ref qc, .int sp, .int rk, .ref qe, .ref qw, .ref qt, .ref qr, .ref qi])) :: (qf, .inl (g.2.1 0, 15, .inl kf)) :: (qu, .inl (g.2.1 0, 15, .inl ku)) :: (qz, .inl (g.2.1 0, 15, .inl fz)) :: (qd, .inl (g.2.1 2, 15, .inl fus)) :: (qx, .inl (g.2.1 1, 480, .inl fx)) :: (ql, .inl (g.2.1 0, 16, .inl fl2)) :: (qg, .inl (g.2.1 0, 40, .inl ft)) :: (qb, .inl (g.2.1 1, 16384, .inl ff)) :: (qy, .inl (g.2.1 0, 16384, .inl fd)) :: (qc, .inl (g.2.1 0, 16384, .inl fc)) :: (qe, .inl (g.2.1 1, 32, .inl fe)) :: (qw, .inl (g.2.1 0, 64, .inl fw2)) :: (qt, .inl (g.2.1 0, 8, .inl fs2)) :: (qr, .inl (g.2.1 0, 64, .inl fr9)) :: (qi, .inl (g.2.1 0, 8, .inl fb9)) :: (ao, .inl (g.2.1 3, 1, .inr (.inl fo))) :: kyW g KL) H := hP
    have hD : va_D A ((s0, .inr (5, [.ref ks, .int (nI kn), .int (nI mn), .ref lt, .ref ty, .int (nI tn), .int cc, .int sp, .ref lg, .ref dg])) :: (ks, .inl (g.2.1 4, 15, .inr (.inr (.inr (.inr fk))))) :: (lt, .inl (g.2.1 0, 16, .inl fl)) :: (ty, .inl (g.2.1 0, 40, .inl ft)) :: (lg, .inr (4, [.ref fa, .ref da, .ref ch])) :: (fa, .inl (g.2.1 1, 16384, .inl ff)) :: (da, .inl (g.2.1 0, 16384, .inl fd)) :: (ch, .inl (g.2.1 0, 16384, .inl fc)) :: (dg, .inr (2, [.ref wa, .ref st, .int rk])) :: (wa, .inl (g.2.1 0, 64, .inl fw)) :: (st, .inl (g.2.1 0, 8, .inl fs)) :: (m0, .inr (6, [.int (nI 0), .int (nI kn), .ref qf, .ref qu, .ref qz, .ref qd, .ref qx, .int (nI mn), .int has, .ref ql, .int (nI tn), .ref qg, .int cc, .ref qb, .ref qy, .ref qc, .int sp, .int rk, .ref qe, .ref qw, .ref qt, .ref qr, .ref qi])) :: (qf, .inl (g.2.1 0, 15, .inl kf)) :: (qu, .inl (g.2.1 0, 15, .inl ku)) :: (qz, .inl (g.2.1 0, 15, .inl fz)) :: (qd, .inl (g.2.1 2, 15, .inl fus)) :: (qx, .inl (g.2.1 1, 480, .inl fx)) :: (ql, .inl (g.2.1 0, 16, .inl fl2)) :: (qg, .inl (g.2.1 0, 40, .inl ft)) :: (qb, .inl (g.2.1 1, 16384, .inl ff)) :: (qy, .inl (g.2.1 0, 16384, .inl fd)) :: (qc, .inl (g.2.1 0, 16384, .inl fc)) :: (qe, .inl (g.2.1 1, 32, .inl fe)) :: (qw, .inl (g.2.1 0, 64, .inl fw2)) :: (qt, .inl (g.2.1 0, 8, .inl fs2)) :: (qr, .inl (g.2.1 0, 64, .inl fr9)) :: (qi, .inl (g.2.1 0, 8, .inl fb9)) :: (ao, .inl (g.2.1 3, 1, .inr (.inl fo))) :: kyW g KL) := hD
    refine lv_rei (x' := (nI 0)) (hr_275) ?_
    refine lv_icmp_eq (tgt := 645) hx hb dL_law_513 (by decide) (fun _ => ?_) (fun c9 => absurd (rfl) c9)
    refine W.widen (k := cells + 2) (n := slots + 40) (by omega) (by omega) ?_
    exact kk _ _ ⟨kn, mn, tn, cc, sp, rk, (nI 0), has, fk, fl, ft, ff, fd, fc, fw, fs, kf, ku, fz, fus, fx, fl2, fe, fw2, fs2, fr9, fb9, fo, KL, hP, hD, ⟨hkn, hlen, hKs, hfree, by omega, htn, hsp, hff, hlt, hrk, hr9, hb9⟩⟩ hS ls (lv_sub hl [0, 1, 2, 3, 4] rfl)

set_option maxHeartbeats 4000000 in
set_option maxRecDepth 100000 in
/-- spent -/
theorem law_c9 {p : Program} {l : Launch} {e : Env} {s : State} {m : MethodId} {below : List Frame} {meth : Method} {c : Code} {b Lx : Nat} {xs : Nat → Int32} {g : gE} {A : Nat → Prop} {Q : State → Prop} (hfl : l.stackTraces = false) (hx : p.tables.exec = Jvm.exec) (hb : c.code = code) (hml : c.maxLocals = 7) (hown : s.vm.findClass RL = some m.cls) (htl : ∀ w ∈ lw_tbl, w.before #[Value.ref b] s = true) (hXs : va_X b Lx xs s s.heap) (hbl : b < s.heap.size) (hbA : ¬ A b) (hA : ∀ q, s.heap.size ≤ q → A q) (hK : gK g s) (hZ : gZ g A s s.heap) (hX : gX s) {s0 ks lt ty lg fa da ch dg wa st m0 qf qu qz qd qx ql qg qb qy qc qe qw qt qr qi ao : Nat} {n i cells slots : Nat} (hi : i + 6 ≤ Lx) (hLx : Lx ≤ 3072) (hn : n < 512) (hce : cells + 2 ≤ 603072) (hsl : slots + 40 ≤ 7219306) {H : Heap} {locs : List Loc} (hLI : LI g s0 ks lt ty lg fa da ch dg wa st m0 qf qu qz qd qx ql qg qb qy qc qe qw qt qr qi ao A n H) (hS : va_S A s.heap H locs) {ls : Array Slot} (hl : lv_has ls 7 [(0, .ref b), (1, .ref s0), (2, .ref m0), (3, .ref ao), (4, .int (nI i))])
    (kk : ∀ (H : Heap) (locs : List Loc), LI g s0 ks lt ty lg fa da ch dg wa st m0 qf qu qz qd qx ql qg qb qy qc qe qw qt qr qi ao A (n + 1) H → va_S A s.heap H locs → ∀ ls : Array Slot, lv_has ls 7 [(0, .ref b), (1, .ref s0), (2, .ref m0), (3, .ref ao), (4, .int (nI i))] → W p l e room_1 s m #[Value.ref b] below meth c H locs (cells + 2) (slots + 40) Q (F0 m 645 ls [])) : W p l e room_1 s m #[Value.ref b] below meth c H locs cells slots Q (F0 m 574 ls []) := by
  have hts : ∀ w ∈ wsL_law, w.before #[Value.ref b] s = true := fun w hw => htl w (wsL_law_in w hw)
  obtain ⟨kn, mn, tn, cc, sp, rk, th, has, fk, fl, ft, ff, fd, fc, fw, fs, kf, ku, fz, fus, fx, fl2, fe, fw2, fs2, fr9, fb9, fo, KL, hP, hD, ⟨hkn, hlen, hKs, hfree, hmn, htn, hsp, hff, hlt, hrk, hr9, hb9⟩⟩ := hLI
  obtain ⟨X, eX⟩ : ∃ z, z = lgE (xs (i + 1)) (xs (i + 2)) := ⟨_, rfl⟩
  by_cases h0 : 0 ≤ X.toInt ∧ X.toInt ≤ 16383
  · obtain ⟨j, hjb, ejn, tjn⟩ := i64_of (x := X) (by omega)
    subst ejn
    have hj : j < 16384 := by omega
    refine lv_aload_n hx hb dL_law_574 rfl (lv_at hl 1 rfl) ?_
    refine lv_aload_n hx hb dL_law_575 rfl (lv_at hl 0 rfl) ?_
    refine lv_iload hx hb dL_law_576 (lv_at hl 4 rfl) ?_
    refine lv_iconst (v := (nI 1)) hx hb dL_law_578 (by decide) ?_
    refine lv_iadd hx hb dL_law_579 ?_
    refine lv_rei (x' := (nI (i + 1))) (nI_add _ _) ?_
    refine va_sld hx hb hXs hbl hbA hS (vp_in_nI (by omega) (by omega)) dL_law_580 ?_
    refine lv_rei (x' := (xs (i + 1))) (congrArg xs (nI_clamp (by omega))) ?_
    refine lv_i2l hx hb dL_law_581 rfl ?_
    refine lv_bipush (v := (nI 32)) hx hb dL_law_582 (by decide) ?_
    refine lv_lshl hx hb dL_law_584 rfl ?_
    refine lv_aload_n hx hb dL_law_585 rfl (lv_at hl 0 rfl) ?_
    refine lv_iload hx hb dL_law_586 (lv_at hl 4 rfl) ?_
    refine lv_iconst (v := (nI 2)) hx hb dL_law_588 (by decide) ?_
    refine lv_iadd hx hb dL_law_589 ?_
    refine lv_rei (x' := (nI (i + 2))) (nI_add _ _) ?_
    refine va_sld hx hb hXs hbl hbA hS (vp_in_nI (by omega) (by omega)) dL_law_590 ?_
    refine lv_rei (x' := (xs (i + 2))) (congrArg xs (nI_clamp (by omega))) ?_
    refine lv_i2l hx hb dL_law_591 rfl ?_
    refine lv_ldc2 (v := (lN 4294967295)) hx hb hown (hts (.constantLong RL 19 (lN 4294967295)) (by decide +kernel)) dL_law_592 ?_
    refine lv_land hx hb dL_law_595 ?_
    refine lv_lor hx hb dL_law_596 ?_
    refine lv_rel (x' := (lN j)) (eX.symm) ?_
    refine cVi (rest := []) ⟨hx, hb, hml, hown, hts⟩ [.long (lN j)] (c_X4_spent_in l g (s0 := s0) (ks := ks) (lt := lt) (ty := ty) (lg := lg) (dg := dg) (kn := kn) (mn := mn) (tn := tn) (cc := cc) (sp := sp) (fa := fa) (da := da) (ch := ch) (ff := ff) (j := j) hj) (cwV 1 hts gL_law_X4_spent rfl rfl rfl (by decide +kernel) ⟨Nat.le_of_ble_eq_true rfl, Nat.le_of_ble_eq_true rfl⟩) hK hZ hS (subP hP [0, 4, 5] rfl) (va_recv hK.1 hP (ci := 5) (q0 := 0) rfl rfl) rfl hl.1 rfl (Nat.le_of_ble_eq_true rfl) dL_law_597 ⟨show cells ≤ 603072 by omega, show slots ≤ 7219306 by omega⟩ (fun r_276 hr_276 => ?_)
    refine lv_rei (x' := (ff j)) (hr_276) ?_
    refine lv_aload_n hx hb dL_law_600 rfl (lv_at hl 2 rfl) ?_
    refine lv_aload_n hx hb dL_law_601 rfl (lv_at hl 0 rfl) ?_
    refine lv_iload hx hb dL_law_602 (lv_at hl 4 rfl) ?_
    refine lv_iconst (v := (nI 1)) hx hb dL_law_604 (by decide) ?_
    refine lv_iadd hx hb dL_law_605 ?_
    refine lv_rei (x' := (nI (i + 1))) (nI_add _ _) ?_
    refine va_sld hx hb hXs hbl hbA hS (vp_in_nI (by omega) (by omega)) dL_law_606 ?_
    refine lv_rei (x' := (xs (i + 1))) (congrArg xs (nI_clamp (by omega))) ?_
    refine lv_i2l hx hb dL_law_607 rfl ?_
    refine lv_bipush (v := (nI 32)) hx hb dL_law_608 (by decide) ?_
    refine lv_lshl hx hb dL_law_610 rfl ?_
    refine lv_aload_n hx hb dL_law_611 rfl (lv_at hl 0 rfl) ?_
    refine lv_iload hx hb dL_law_612 (lv_at hl 4 rfl) ?_
    refine lv_iconst (v := (nI 2)) hx hb dL_law_614 (by decide) ?_
    refine lv_iadd hx hb dL_law_615 ?_
    refine lv_rei (x' := (nI (i + 2))) (nI_add _ _) ?_
    refine va_sld hx hb hXs hbl hbA hS (vp_in_nI (by omega) (by omega)) dL_law_616 ?_
    refine lv_rei (x' := (xs (i + 2))) (congrArg xs (nI_clamp (by omega))) ?_
    refine lv_i2l hx hb dL_law_617 rfl ?_
    refine lv_ldc2 (v := (lN 4294967295)) hx hb hown (hts (.constantLong RL 19 (lN 4294967295)) (by decide +kernel)) dL_law_618 ?_
    refine lv_land hx hb dL_law_621 ?_
    refine lv_lor hx hb dL_law_622 ?_
    refine lv_rel (x' := (lN j)) (eX.symm) ?_
    refine wVi (rest := [.int (ff j)]) ⟨hx, hb, hml, hown, hts⟩ [.long (lN j)] [11, 19] (c_X5_spent_in l g H.size (m0 := m0) (kn := kn) (mn := mn) (tn := tn) (qf := qf) (qu := qu) (qz := qz) (qd := qd) (qx := qx) (ql := ql) (qg := qg) (qb := qb) (qy := qy) (qc := qc) (qe := qe) (qw := qw) (qt := qt) (qr := qr) (qi := qi) (th := th) (has := has) (cc := cc) (sp := sp) (rk := rk) (ff := ff) (j := j) hj) (cwV 1 hts gL_law_X5_spent rfl rfl rfl (by decide +kernel) ⟨Nat.le_of_ble_eq_true rfl, Nat.le_of_ble_eq_true rfl⟩) hK hZ hS hP hD hA rfl (by decide) (fun _ => Nat.le_of_ble_eq_true rfl) (fun _ => rfl) (va_recv hK.1 hP (ci := 6) (q0 := 11) rfl rfl) rfl hl.1 rfl (Nat.le_of_ble_eq_true rfl) dL_law_623 ⟨show cells + 0 ≤ 603072 by omega, show slots + 0 ≤ 7219306 by omega⟩ (fun r_277 u H locs hr_277 hP hD hS => ?_)
    have hP : va_P g.1 vwCl ((s0, .inr (5, [.ref ks, .int (nI kn), .int (nI mn), .ref lt, .ref ty, .int (nI tn), .int cc, .int sp, .ref lg, .ref dg])) :: (ks, .inl (g.2.1 4, 15, .inr (.inr (.inr (.inr fk))))) :: (lt, .inl (g.2.1 0, 16, .inl fl)) :: (ty, .inl (g.2.1 0, 40, .inl ft)) :: (lg, .inr (4, [.ref fa, .ref da, .ref ch])) :: (fa, .inl (g.2.1 1, 16384, .inl ff)) :: (da, .inl (g.2.1 0, 16384, .inl fd)) :: (ch, .inl (g.2.1 0, 16384, .inl fc)) :: (dg, .inr (2, [.ref wa, .ref st, .int rk])) :: (wa, .inl (g.2.1 0, 64, .inl fw)) :: (st, .inl (g.2.1 0, 8, .inl fs)) :: (m0, .inr (6, [.int (nI 0), .int (nI kn), .ref qf, .ref qu, .ref qz, .ref qd, .ref qx, .int (nI mn), .int has, .ref ql, .int (nI tn), .ref qg, .int cc, .ref qb, .ref qy, .ref qc, .int sp, .int rk, .ref qe, .ref qw, .ref qt, .ref qr, .ref qi])) :: (qf, .inl (g.2.1 0, 15, .inl kf)) :: (qu, .inl (g.2.1 0, 15, .inl ku)) :: (qz, .inl (g.2.1 0, 15, .inl fz)) :: (qd, .inl (g.2.1 2, 15, .inl fus)) :: (qx, .inl (g.2.1 1, 480, .inl fx)) :: (ql, .inl (g.2.1 0, 16, .inl fl2)) :: (qg, .inl (g.2.1 0, 40, .inl ft)) :: (qb, .inl (g.2.1 1, 16384, .inl ff)) :: (qy, .inl (g.2.1 0, 16384, .inl fd)) :: (qc, .inl (g.2.1 0, 16384, .inl fc)) :: (qe, .inl (g.2.1 1, 32, .inl fe)) :: (qw, .inl (g.2.1 0, 64, .inl fw2)) :: (qt, .inl (g.2.1 0, 8, .inl fs2)) :: (qr, .inl (g.2.1 0, 64, .inl fr9)) :: (qi, .inl (g.2.1 0, 8, .inl fb9)) :: (ao, .inl (g.2.1 3, 1, .inr (.inl fo))) :: kyW g KL) H := hP
    have hD : va_D A ((s0, .inr (5, [.ref ks, .int (nI kn), .int (nI mn), .ref lt, .ref ty, .int (nI tn), .int cc, .int sp, .ref lg, .ref dg])) :: (ks, .inl (g.2.1 4, 15, .inr (.inr (.inr (.inr fk))))) :: (lt, .inl (g.2.1 0, 16, .inl fl)) :: (ty, .inl (g.2.1 0, 40, .inl ft)) :: (lg, .inr (4, [.ref fa, .ref da, .ref ch])) :: (fa, .inl (g.2.1 1, 16384, .inl ff)) :: (da, .inl (g.2.1 0, 16384, .inl fd)) :: (ch, .inl (g.2.1 0, 16384, .inl fc)) :: (dg, .inr (2, [.ref wa, .ref st, .int rk])) :: (wa, .inl (g.2.1 0, 64, .inl fw)) :: (st, .inl (g.2.1 0, 8, .inl fs)) :: (m0, .inr (6, [.int (nI 0), .int (nI kn), .ref qf, .ref qu, .ref qz, .ref qd, .ref qx, .int (nI mn), .int has, .ref ql, .int (nI tn), .ref qg, .int cc, .ref qb, .ref qy, .ref qc, .int sp, .int rk, .ref qe, .ref qw, .ref qt, .ref qr, .ref qi])) :: (qf, .inl (g.2.1 0, 15, .inl kf)) :: (qu, .inl (g.2.1 0, 15, .inl ku)) :: (qz, .inl (g.2.1 0, 15, .inl fz)) :: (qd, .inl (g.2.1 2, 15, .inl fus)) :: (qx, .inl (g.2.1 1, 480, .inl fx)) :: (ql, .inl (g.2.1 0, 16, .inl fl2)) :: (qg, .inl (g.2.1 0, 40, .inl ft)) :: (qb, .inl (g.2.1 1, 16384, .inl ff)) :: (qy, .inl (g.2.1 0, 16384, .inl fd)) :: (qc, .inl (g.2.1 0, 16384, .inl fc)) :: (qe, .inl (g.2.1 1, 32, .inl fe)) :: (qw, .inl (g.2.1 0, 64, .inl fw2)) :: (qt, .inl (g.2.1 0, 8, .inl fs2)) :: (qr, .inl (g.2.1 0, 64, .inl fr9)) :: (qi, .inl (g.2.1 0, 8, .inl fb9)) :: (ao, .inl (g.2.1 3, 1, .inr (.inl fo))) :: kyW g KL) := hD
    refine lv_rei (x' := (ff j)) (hr_277) ?_
    refine lv_icmp_eq (tgt := 645) hx hb dL_law_626 (by decide) (fun _ => ?_) (fun c9 => absurd (rfl) c9)
    refine W.widen (k := cells + 2) (n := slots + 40) (by omega) (by omega) ?_
    exact kk _ _ ⟨kn, mn, tn, cc, sp, rk, (nI 0), has, fk, fl, ft, ff, fd, fc, fw, fs, kf, ku, fz, fus, fx, fl2, fe, fw2, fs2, fr9, fb9, fo, KL, hP, hD, ⟨hkn, hlen, hKs, hfree, by omega, htn, hsp, hff, hlt, hrk, hr9, hb9⟩⟩ hS ls (lv_sub hl [0, 1, 2, 3, 4] rfl)
  · refine lv_aload_n hx hb dL_law_574 rfl (lv_at hl 1 rfl) ?_
    refine lv_aload_n hx hb dL_law_575 rfl (lv_at hl 0 rfl) ?_
    refine lv_iload hx hb dL_law_576 (lv_at hl 4 rfl) ?_
    refine lv_iconst (v := (nI 1)) hx hb dL_law_578 (by decide) ?_
    refine lv_iadd hx hb dL_law_579 ?_
    refine lv_rei (x' := (nI (i + 1))) (nI_add _ _) ?_
    refine va_sld hx hb hXs hbl hbA hS (vp_in_nI (by omega) (by omega)) dL_law_580 ?_
    refine lv_rei (x' := (xs (i + 1))) (congrArg xs (nI_clamp (by omega))) ?_
    refine lv_i2l hx hb dL_law_581 rfl ?_
    refine lv_bipush (v := (nI 32)) hx hb dL_law_582 (by decide) ?_
    refine lv_lshl hx hb dL_law_584 rfl ?_
    refine lv_aload_n hx hb dL_law_585 rfl (lv_at hl 0 rfl) ?_
    refine lv_iload hx hb dL_law_586 (lv_at hl 4 rfl) ?_
    refine lv_iconst (v := (nI 2)) hx hb dL_law_588 (by decide) ?_
    refine lv_iadd hx hb dL_law_589 ?_
    refine lv_rei (x' := (nI (i + 2))) (nI_add _ _) ?_
    refine va_sld hx hb hXs hbl hbA hS (vp_in_nI (by omega) (by omega)) dL_law_590 ?_
    refine lv_rei (x' := (xs (i + 2))) (congrArg xs (nI_clamp (by omega))) ?_
    refine lv_i2l hx hb dL_law_591 rfl ?_
    refine lv_ldc2 (v := (lN 4294967295)) hx hb hown (hts (.constantLong RL 19 (lN 4294967295)) (by decide +kernel)) dL_law_592 ?_
    refine lv_land hx hb dL_law_595 ?_
    refine lv_lor hx hb dL_law_596 ?_
    refine lv_rel (x' := X) (eX.symm) ?_
    refine cVi (rest := []) ⟨hx, hb, hml, hown, hts⟩ [.long X] (c_X4_spent_out l g (s0 := s0) (ks := ks) (lt := lt) (ty := ty) (lg := lg) (dg := dg) (kn := kn) (mn := mn) (tn := tn) (cc := cc) (sp := sp) (fa := fa) (da := da) (ch := ch) (ff := ff) (x := X) h0) (cwV 1 hts gL_law_X4_spent rfl rfl rfl (by decide +kernel) ⟨Nat.le_of_ble_eq_true rfl, Nat.le_of_ble_eq_true rfl⟩) hK hZ hS (subP hP [0, 4, 5] rfl) (va_recv hK.1 hP (ci := 5) (q0 := 0) rfl rfl) rfl hl.1 rfl (Nat.le_of_ble_eq_true rfl) dL_law_597 ⟨show cells ≤ 603072 by omega, show slots ≤ 7219306 by omega⟩ (fun r_278 hr_278 => ?_)
    refine lv_rei (x' := (nI 0)) (hr_278) ?_
    refine lv_aload_n hx hb dL_law_600 rfl (lv_at hl 2 rfl) ?_
    refine lv_aload_n hx hb dL_law_601 rfl (lv_at hl 0 rfl) ?_
    refine lv_iload hx hb dL_law_602 (lv_at hl 4 rfl) ?_
    refine lv_iconst (v := (nI 1)) hx hb dL_law_604 (by decide) ?_
    refine lv_iadd hx hb dL_law_605 ?_
    refine lv_rei (x' := (nI (i + 1))) (nI_add _ _) ?_
    refine va_sld hx hb hXs hbl hbA hS (vp_in_nI (by omega) (by omega)) dL_law_606 ?_
    refine lv_rei (x' := (xs (i + 1))) (congrArg xs (nI_clamp (by omega))) ?_
    refine lv_i2l hx hb dL_law_607 rfl ?_
    refine lv_bipush (v := (nI 32)) hx hb dL_law_608 (by decide) ?_
    refine lv_lshl hx hb dL_law_610 rfl ?_
    refine lv_aload_n hx hb dL_law_611 rfl (lv_at hl 0 rfl) ?_
    refine lv_iload hx hb dL_law_612 (lv_at hl 4 rfl) ?_
    refine lv_iconst (v := (nI 2)) hx hb dL_law_614 (by decide) ?_
    refine lv_iadd hx hb dL_law_615 ?_
    refine lv_rei (x' := (nI (i + 2))) (nI_add _ _) ?_
    refine va_sld hx hb hXs hbl hbA hS (vp_in_nI (by omega) (by omega)) dL_law_616 ?_
    refine lv_rei (x' := (xs (i + 2))) (congrArg xs (nI_clamp (by omega))) ?_
    refine lv_i2l hx hb dL_law_617 rfl ?_
    refine lv_ldc2 (v := (lN 4294967295)) hx hb hown (hts (.constantLong RL 19 (lN 4294967295)) (by decide +kernel)) dL_law_618 ?_
    refine lv_land hx hb dL_law_621 ?_
    refine lv_lor hx hb dL_law_622 ?_
    refine lv_rel (x' := X) (eX.symm) ?_
    refine wVi (rest := [.int (nI 0)]) ⟨hx, hb, hml, hown, hts⟩ [.long X] [11] (c_X5_spent_out l g H.size (m0 := m0) (kn := kn) (mn := mn) (tn := tn) (qf := qf) (qu := qu) (qz := qz) (qd := qd) (qx := qx) (ql := ql) (qg := qg) (qb := qb) (qy := qy) (qc := qc) (qe := qe) (qw := qw) (qt := qt) (qr := qr) (qi := qi) (th := th) (has := has) (cc := cc) (sp := sp) (rk := rk) (x := X) h0) (cwV 1 hts gL_law_X5_spent rfl rfl rfl (by decide +kernel) ⟨Nat.le_of_ble_eq_true rfl, Nat.le_of_ble_eq_true rfl⟩) hK hZ hS hP hD hA rfl (by decide) (fun _ => Nat.le_of_ble_eq_true rfl) (fun _ => rfl) (va_recv hK.1 hP (ci := 6) (q0 := 11) rfl rfl) rfl hl.1 rfl (Nat.le_of_ble_eq_true rfl) dL_law_623 ⟨show cells + 0 ≤ 603072 by omega, show slots + 0 ≤ 7219306 by omega⟩ (fun r_279 u H locs hr_279 hP hD hS => ?_)
    have hP : va_P g.1 vwCl ((s0, .inr (5, [.ref ks, .int (nI kn), .int (nI mn), .ref lt, .ref ty, .int (nI tn), .int cc, .int sp, .ref lg, .ref dg])) :: (ks, .inl (g.2.1 4, 15, .inr (.inr (.inr (.inr fk))))) :: (lt, .inl (g.2.1 0, 16, .inl fl)) :: (ty, .inl (g.2.1 0, 40, .inl ft)) :: (lg, .inr (4, [.ref fa, .ref da, .ref ch])) :: (fa, .inl (g.2.1 1, 16384, .inl ff)) :: (da, .inl (g.2.1 0, 16384, .inl fd)) :: (ch, .inl (g.2.1 0, 16384, .inl fc)) :: (dg, .inr (2, [.ref wa, .ref st, .int rk])) :: (wa, .inl (g.2.1 0, 64, .inl fw)) :: (st, .inl (g.2.1 0, 8, .inl fs)) :: (m0, .inr (6, [.int (nI 0), .int (nI kn), .ref qf, .ref qu, .ref qz, .ref qd, .ref qx, .int (nI mn), .int has, .ref ql, .int (nI tn), .ref qg, .int cc, .ref qb, .ref qy, .ref qc, .int sp, .int rk, .ref qe, .ref qw, .ref qt, .ref qr, .ref qi])) :: (qf, .inl (g.2.1 0, 15, .inl kf)) :: (qu, .inl (g.2.1 0, 15, .inl ku)) :: (qz, .inl (g.2.1 0, 15, .inl fz)) :: (qd, .inl (g.2.1 2, 15, .inl fus)) :: (qx, .inl (g.2.1 1, 480, .inl fx)) :: (ql, .inl (g.2.1 0, 16, .inl fl2)) :: (qg, .inl (g.2.1 0, 40, .inl ft)) :: (qb, .inl (g.2.1 1, 16384, .inl ff)) :: (qy, .inl (g.2.1 0, 16384, .inl fd)) :: (qc, .inl (g.2.1 0, 16384, .inl fc)) :: (qe, .inl (g.2.1 1, 32, .inl fe)) :: (qw, .inl (g.2.1 0, 64, .inl fw2)) :: (qt, .inl (g.2.1 0, 8, .inl fs2)) :: (qr, .inl (g.2.1 0, 64, .inl fr9)) :: (qi, .inl (g.2.1 0, 8, .inl fb9)) :: (ao, .inl (g.2.1 3, 1, .inr (.inl fo))) :: kyW g KL) H := hP
    have hD : va_D A ((s0, .inr (5, [.ref ks, .int (nI kn), .int (nI mn), .ref lt, .ref ty, .int (nI tn), .int cc, .int sp, .ref lg, .ref dg])) :: (ks, .inl (g.2.1 4, 15, .inr (.inr (.inr (.inr fk))))) :: (lt, .inl (g.2.1 0, 16, .inl fl)) :: (ty, .inl (g.2.1 0, 40, .inl ft)) :: (lg, .inr (4, [.ref fa, .ref da, .ref ch])) :: (fa, .inl (g.2.1 1, 16384, .inl ff)) :: (da, .inl (g.2.1 0, 16384, .inl fd)) :: (ch, .inl (g.2.1 0, 16384, .inl fc)) :: (dg, .inr (2, [.ref wa, .ref st, .int rk])) :: (wa, .inl (g.2.1 0, 64, .inl fw)) :: (st, .inl (g.2.1 0, 8, .inl fs)) :: (m0, .inr (6, [.int (nI 0), .int (nI kn), .ref qf, .ref qu, .ref qz, .ref qd, .ref qx, .int (nI mn), .int has, .ref ql, .int (nI tn), .ref qg, .int cc, .ref qb, .ref qy, .ref qc, .int sp, .int rk, .ref qe, .ref qw, .ref qt, .ref qr, .ref qi])) :: (qf, .inl (g.2.1 0, 15, .inl kf)) :: (qu, .inl (g.2.1 0, 15, .inl ku)) :: (qz, .inl (g.2.1 0, 15, .inl fz)) :: (qd, .inl (g.2.1 2, 15, .inl fus)) :: (qx, .inl (g.2.1 1, 480, .inl fx)) :: (ql, .inl (g.2.1 0, 16, .inl fl2)) :: (qg, .inl (g.2.1 0, 40, .inl ft)) :: (qb, .inl (g.2.1 1, 16384, .inl ff)) :: (qy, .inl (g.2.1 0, 16384, .inl fd)) :: (qc, .inl (g.2.1 0, 16384, .inl fc)) :: (qe, .inl (g.2.1 1, 32, .inl fe)) :: (qw, .inl (g.2.1 0, 64, .inl fw2)) :: (qt, .inl (g.2.1 0, 8, .inl fs2)) :: (qr, .inl (g.2.1 0, 64, .inl fr9)) :: (qi, .inl (g.2.1 0, 8, .inl fb9)) :: (ao, .inl (g.2.1 3, 1, .inr (.inl fo))) :: kyW g KL) := hD
    refine lv_rei (x' := (nI 0)) (hr_279) ?_
    refine lv_icmp_eq (tgt := 645) hx hb dL_law_626 (by decide) (fun _ => ?_) (fun c9 => absurd (rfl) c9)
    refine W.widen (k := cells + 2) (n := slots + 40) (by omega) (by omega) ?_
    exact kk _ _ ⟨kn, mn, tn, cc, sp, rk, (nI 0), has, fk, fl, ft, ff, fd, fc, fw, fs, kf, ku, fz, fus, fx, fl2, fe, fw2, fs2, fr9, fb9, fo, KL, hP, hD, ⟨hkn, hlen, hKs, hfree, by omega, htn, hsp, hff, hlt, hrk, hr9, hb9⟩⟩ hS ls (lv_sub hl [0, 1, 2, 3, 4] rfl)

set_option maxHeartbeats 4000000 in
set_option maxRecDepth 100000 in
/-- serial -/
theorem law_c10 {p : Program} {l : Launch} {e : Env} {s : State} {m : MethodId} {below : List Frame} {meth : Method} {c : Code} {b Lx : Nat} {xs : Nat → Int32} {g : gE} {A : Nat → Prop} {Q : State → Prop} (hfl : l.stackTraces = false) (hx : p.tables.exec = Jvm.exec) (hb : c.code = code) (hml : c.maxLocals = 7) (hown : s.vm.findClass RL = some m.cls) (htl : ∀ w ∈ lw_tbl, w.before #[Value.ref b] s = true) (hXs : va_X b Lx xs s s.heap) (hbl : b < s.heap.size) (hbA : ¬ A b) (hA : ∀ q, s.heap.size ≤ q → A q) (hK : gK g s) (hZ : gZ g A s s.heap) (hX : gX s) {s0 ks lt ty lg fa da ch dg wa st m0 qf qu qz qd qx ql qg qb qy qc qe qw qt qr qi ao : Nat} {n i cells slots : Nat} (hi : i + 6 ≤ Lx) (hLx : Lx ≤ 3072) (hn : n < 512) (hce : cells + 2 ≤ 603072) (hsl : slots + 40 ≤ 7219306) {H : Heap} {locs : List Loc} (hLI : LI g s0 ks lt ty lg fa da ch dg wa st m0 qf qu qz qd qx ql qg qb qy qc qe qw qt qr qi ao A n H) (hS : va_S A s.heap H locs) {ls : Array Slot} (hl : lv_has ls 7 [(0, .ref b), (1, .ref s0), (2, .ref m0), (3, .ref ao), (4, .int (nI i))])
    (kk : ∀ (H : Heap) (locs : List Loc), LI g s0 ks lt ty lg fa da ch dg wa st m0 qf qu qz qd qx ql qg qb qy qc qe qw qt qr qi ao A (n + 1) H → va_S A s.heap H locs → ∀ ls : Array Slot, lv_has ls 7 [(0, .ref b), (1, .ref s0), (2, .ref m0), (3, .ref ao), (4, .int (nI i))] → W p l e room_1 s m #[Value.ref b] below meth c H locs (cells + 2) (slots + 40) Q (F0 m 645 ls [])) : W p l e room_1 s m #[Value.ref b] below meth c H locs cells slots Q (F0 m 631 ls []) := by
  have hts : ∀ w ∈ wsL_law, w.before #[Value.ref b] s = true := fun w hw => htl w (wsL_law_in w hw)
  obtain ⟨kn, mn, tn, cc, sp, rk, th, has, fk, fl, ft, ff, fd, fc, fw, fs, kf, ku, fz, fus, fx, fl2, fe, fw2, fs2, fr9, fb9, fo, KL, hP, hD, ⟨hkn, hlen, hKs, hfree, hmn, htn, hsp, hff, hlt, hrk, hr9, hb9⟩⟩ := hLI
  refine lv_aload_n hx hb dL_law_631 rfl (lv_at hl 1 rfl) ?_
  refine cVl (rest := []) ⟨hx, hb, hml, hown, hts⟩ [] (c_X4_serial l g (s0 := s0) (ks := ks) (lt := lt) (ty := ty) (lg := lg) (dg := dg) (kn := kn) (mn := mn) (tn := tn) (cc := cc) (sp := sp)) (cwV 0 hts gL_law_X4_serial rfl rfl rfl (by decide +kernel) ⟨Nat.le_of_ble_eq_true rfl, Nat.le_of_ble_eq_true rfl⟩) hK hZ hS (subP hP [0] rfl) (va_recv hK.1 hP (ci := 5) (q0 := 0) rfl rfl) rfl hl.1 rfl (Nat.le_of_ble_eq_true rfl) dL_law_632 ⟨show cells ≤ 603072 by omega, show slots ≤ 7219306 by omega⟩ (fun r_280 hr_280 => ?_)
  refine lv_rel (x' := ((nI mn).toInt64)) (hr_280) ?_
  refine lv_aload_n hx hb dL_law_635 rfl (lv_at hl 2 rfl) ?_
  refine wVl (rest := [.long ((nI mn).toInt64)]) ⟨hx, hb, hml, hown, hts⟩ [] [11] (c_X5_serial l g H.size (m0 := m0) (kn := kn) (mn := mn) (tn := tn) (qf := qf) (qu := qu) (qz := qz) (qd := qd) (qx := qx) (ql := ql) (qg := qg) (qb := qb) (qy := qy) (qc := qc) (qe := qe) (qw := qw) (qt := qt) (qr := qr) (qi := qi) (th := th) (has := has) (cc := cc) (sp := sp) (rk := rk)) (cwV 0 hts gL_law_X5_serial rfl rfl rfl (by decide +kernel) ⟨Nat.le_of_ble_eq_true rfl, Nat.le_of_ble_eq_true rfl⟩) hK hZ hS hP hD hA rfl (by decide) (fun _ => Nat.le_of_ble_eq_true rfl) (fun _ => rfl) (va_recv hK.1 hP (ci := 6) (q0 := 11) rfl rfl) rfl hl.1 rfl (Nat.le_of_ble_eq_true rfl) dL_law_636 ⟨show cells + 0 ≤ 603072 by omega, show slots + 0 ≤ 7219306 by omega⟩ (fun r_281 u H locs hr_281 hP hD hS => ?_)
  have hP : va_P g.1 vwCl ((s0, .inr (5, [.ref ks, .int (nI kn), .int (nI mn), .ref lt, .ref ty, .int (nI tn), .int cc, .int sp, .ref lg, .ref dg])) :: (ks, .inl (g.2.1 4, 15, .inr (.inr (.inr (.inr fk))))) :: (lt, .inl (g.2.1 0, 16, .inl fl)) :: (ty, .inl (g.2.1 0, 40, .inl ft)) :: (lg, .inr (4, [.ref fa, .ref da, .ref ch])) :: (fa, .inl (g.2.1 1, 16384, .inl ff)) :: (da, .inl (g.2.1 0, 16384, .inl fd)) :: (ch, .inl (g.2.1 0, 16384, .inl fc)) :: (dg, .inr (2, [.ref wa, .ref st, .int rk])) :: (wa, .inl (g.2.1 0, 64, .inl fw)) :: (st, .inl (g.2.1 0, 8, .inl fs)) :: (m0, .inr (6, [.int (nI 0), .int (nI kn), .ref qf, .ref qu, .ref qz, .ref qd, .ref qx, .int (nI mn), .int has, .ref ql, .int (nI tn), .ref qg, .int cc, .ref qb, .ref qy, .ref qc, .int sp, .int rk, .ref qe, .ref qw, .ref qt, .ref qr, .ref qi])) :: (qf, .inl (g.2.1 0, 15, .inl kf)) :: (qu, .inl (g.2.1 0, 15, .inl ku)) :: (qz, .inl (g.2.1 0, 15, .inl fz)) :: (qd, .inl (g.2.1 2, 15, .inl fus)) :: (qx, .inl (g.2.1 1, 480, .inl fx)) :: (ql, .inl (g.2.1 0, 16, .inl fl2)) :: (qg, .inl (g.2.1 0, 40, .inl ft)) :: (qb, .inl (g.2.1 1, 16384, .inl ff)) :: (qy, .inl (g.2.1 0, 16384, .inl fd)) :: (qc, .inl (g.2.1 0, 16384, .inl fc)) :: (qe, .inl (g.2.1 1, 32, .inl fe)) :: (qw, .inl (g.2.1 0, 64, .inl fw2)) :: (qt, .inl (g.2.1 0, 8, .inl fs2)) :: (qr, .inl (g.2.1 0, 64, .inl fr9)) :: (qi, .inl (g.2.1 0, 8, .inl fb9)) :: (ao, .inl (g.2.1 3, 1, .inr (.inl fo))) :: kyW g KL) H := hP
  have hD : va_D A ((s0, .inr (5, [.ref ks, .int (nI kn), .int (nI mn), .ref lt, .ref ty, .int (nI tn), .int cc, .int sp, .ref lg, .ref dg])) :: (ks, .inl (g.2.1 4, 15, .inr (.inr (.inr (.inr fk))))) :: (lt, .inl (g.2.1 0, 16, .inl fl)) :: (ty, .inl (g.2.1 0, 40, .inl ft)) :: (lg, .inr (4, [.ref fa, .ref da, .ref ch])) :: (fa, .inl (g.2.1 1, 16384, .inl ff)) :: (da, .inl (g.2.1 0, 16384, .inl fd)) :: (ch, .inl (g.2.1 0, 16384, .inl fc)) :: (dg, .inr (2, [.ref wa, .ref st, .int rk])) :: (wa, .inl (g.2.1 0, 64, .inl fw)) :: (st, .inl (g.2.1 0, 8, .inl fs)) :: (m0, .inr (6, [.int (nI 0), .int (nI kn), .ref qf, .ref qu, .ref qz, .ref qd, .ref qx, .int (nI mn), .int has, .ref ql, .int (nI tn), .ref qg, .int cc, .ref qb, .ref qy, .ref qc, .int sp, .int rk, .ref qe, .ref qw, .ref qt, .ref qr, .ref qi])) :: (qf, .inl (g.2.1 0, 15, .inl kf)) :: (qu, .inl (g.2.1 0, 15, .inl ku)) :: (qz, .inl (g.2.1 0, 15, .inl fz)) :: (qd, .inl (g.2.1 2, 15, .inl fus)) :: (qx, .inl (g.2.1 1, 480, .inl fx)) :: (ql, .inl (g.2.1 0, 16, .inl fl2)) :: (qg, .inl (g.2.1 0, 40, .inl ft)) :: (qb, .inl (g.2.1 1, 16384, .inl ff)) :: (qy, .inl (g.2.1 0, 16384, .inl fd)) :: (qc, .inl (g.2.1 0, 16384, .inl fc)) :: (qe, .inl (g.2.1 1, 32, .inl fe)) :: (qw, .inl (g.2.1 0, 64, .inl fw2)) :: (qt, .inl (g.2.1 0, 8, .inl fs2)) :: (qr, .inl (g.2.1 0, 64, .inl fr9)) :: (qi, .inl (g.2.1 0, 8, .inl fb9)) :: (ao, .inl (g.2.1 3, 1, .inr (.inl fo))) :: kyW g KL) := hD
  refine lv_rel (x' := ((nI mn).toInt64)) (hr_281) ?_
  refine W.lcmp hx hb dL_law_639 ?_
  refine lv_if_eq (tgt := 645) hx hb dL_law_640 (by decide) (fun _ => ?_) (fun c9 => absurd (lc_eq.mpr rfl) c9)
  refine W.widen (k := cells + 2) (n := slots + 40) (by omega) (by omega) ?_
  exact kk _ _ ⟨kn, mn, tn, cc, sp, rk, (nI 0), has, fk, fl, ft, ff, fd, fc, fw, fs, kf, ku, fz, fus, fx, fl2, fe, fw2, fs2, fr9, fb9, fo, KL, hP, hD, ⟨hkn, hlen, hKs, hfree, by omega, htn, hsp, hff, hlt, hrk, hr9, hb9⟩⟩ hS ls (lv_sub hl [0, 1, 2, 3, 4] rfl)
