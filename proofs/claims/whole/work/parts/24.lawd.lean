set_option maxHeartbeats 4000000 in
set_option maxRecDepth 100000 in
/-- check -/
theorem law_c5 {p : Program} {l : Launch} {e : Env} {s : State} {m : MethodId} {below : List Frame} {meth : Method} {c : Code} {b Lx : Nat} {xs : Nat → Int32} {g : gE} {A : Nat → Prop} {Q : State → Prop} (hfl : l.stackTraces = false) (hx : p.tables.exec = Jvm.exec) (hb : c.code = code) (hml : c.maxLocals = 7) (hown : s.vm.findClass RL = some m.cls) (htl : ∀ w ∈ lw_tbl, w.before #[Value.ref b] s = true) (hXs : va_X b Lx xs s s.heap) (hbl : b < s.heap.size) (hbA : ¬ A b) (hA : ∀ q, s.heap.size ≤ q → A q) (hK : gK g s) (hZ : gZ g A s s.heap) (hX : gX s) {s0 ks lt ty lg fa da ch dg wa st m0 qf qu qz qd qx ql qg qb qy qc qe qw qt qr qi ao : Nat} {n i cells slots : Nat} (hi : i + 6 ≤ Lx) (hLx : Lx ≤ 3072) (hn : n < 512) (hce : cells + 2 ≤ 603072) (hsl : slots + 40 ≤ 7219306) {H : Heap} {locs : List Loc} (hLI : LI g s0 ks lt ty lg fa da ch dg wa st m0 qf qu qz qd qx ql qg qb qy qc qe qw qt qr qi ao A n H) (hS : va_S A s.heap H locs) {ls : Array Slot} (hl : lv_has ls 7 [(0, .ref b), (1, .ref s0), (2, .ref m0), (3, .ref ao), (4, .int (nI i))])
    (kk : ∀ (H : Heap) (locs : List Loc), LI g s0 ks lt ty lg fa da ch dg wa st m0 qf qu qz qd qx ql qg qb qy qc qe qw qt qr qi ao A (n + 1) H → va_S A s.heap H locs → ∀ ls : Array Slot, lv_has ls 7 [(0, .ref b), (1, .ref s0), (2, .ref m0), (3, .ref ao), (4, .int (nI i))] → W p l e room_1 s m #[Value.ref b] below meth c H locs (cells + 2) (slots + 40) Q (F0 m 645 ls [])) : W p l e room_1 s m #[Value.ref b] below meth c H locs cells slots Q (F0 m 379 ls []) := by
  have hts : ∀ w ∈ wsL_law, w.before #[Value.ref b] s = true := fun w hw => htl w (wsL_law_in w hw)
  obtain ⟨kn, mn, tn, cc, sp, rk, th, has, fk, fl, ft, ff, fd, fc, fw, fs, kf, ku, fz, fus, fx, fl2, fe, fw2, fs2, fr9, fb9, fo, KL, hP, hD, ⟨hkn, hlen, hKs, hfree, hmn, htn, hsp, hff, hlt, hrk, hr9, hb9⟩⟩ := hLI
  obtain ⟨X, eX⟩ : ∃ z, z = lgE (xs (i + 1)) (xs (i + 2)) := ⟨_, rfl⟩
  by_cases h0 : 0 ≤ X.toInt ∧ X.toInt ≤ 65535
  · obtain ⟨d, hdb, edn, tdn⟩ := i64_of (x := X) (by omega)
    subst edn
    have hdd : d ≤ 65535 := by omega
    by_cases ht : tn = 16
    · by_cases hlet : ∀ j, j < 16 → wo (ft j) < 32
      · have hN11 : tbF ft 0 11 / 2 ^ 51 % 16 < 16 := Nat.mod_lt _ (by decide)
        obtain ⟨j, ej⟩ : ∃ z, z = tbF ft 0 11 / 2 ^ 51 % 16 := ⟨_, rfl⟩
        rcases Nat.lt_or_ge j kn with hj | hj
        · obtain ⟨k, kb, nz, f, hKL, hk, hfz, hz, hf⟩ := hKs j hj
          have hj2 : tbF ft 0 11 / 2 ^ 51 % 16 < kn := by rw [← ej]; exact hj
          have hk2 : fk (tbF ft 0 11 / 2 ^ 51 % 16) = some k := by rw [← ej]; exact hk
          by_cases hok : tbF ft 0 11 / 2 ^ 47 % 16 ≤ 9 ∧ 1 ≤ tbF ft 0 11 / 2 ^ 30 % 131072 ∧ tbF ft 0 11 / 2 ^ 30 % 131072 ≤ 99999
          · obtain ⟨ok1, ok2, ok3⟩ := hok
            refine lv_aload_n hx hb dL_law_379 rfl (lv_at hl 1 rfl) ?_
            refine lv_aload_n hx hb dL_law_380 rfl (lv_at hl 0 rfl) ?_
            refine lv_iload hx hb dL_law_381 (lv_at hl 4 rfl) ?_
            refine lv_iconst (v := (nI 1)) hx hb dL_law_383 (by decide) ?_
            refine lv_iadd hx hb dL_law_384 ?_
            refine lv_rei (x' := (nI (i + 1))) (nI_add _ _) ?_
            refine va_sld hx hb hXs hbl hbA hS (vp_in_nI (by omega) (by omega)) dL_law_385 ?_
            refine lv_rei (x' := (xs (i + 1))) (congrArg xs (nI_clamp (by omega))) ?_
            refine lv_i2l hx hb dL_law_386 rfl ?_
            refine lv_bipush (v := (nI 32)) hx hb dL_law_387 (by decide) ?_
            refine lv_lshl hx hb dL_law_389 rfl ?_
            refine lv_aload_n hx hb dL_law_390 rfl (lv_at hl 0 rfl) ?_
            refine lv_iload hx hb dL_law_391 (lv_at hl 4 rfl) ?_
            refine lv_iconst (v := (nI 2)) hx hb dL_law_393 (by decide) ?_
            refine lv_iadd hx hb dL_law_394 ?_
            refine lv_rei (x' := (nI (i + 2))) (nI_add _ _) ?_
            refine va_sld hx hb hXs hbl hbA hS (vp_in_nI (by omega) (by omega)) dL_law_395 ?_
            refine lv_rei (x' := (xs (i + 2))) (congrArg xs (nI_clamp (by omega))) ?_
            refine lv_i2l hx hb dL_law_396 rfl ?_
            refine lv_ldc2 (v := (lN 4294967295)) hx hb hown (hts (.constantLong RL 19 (lN 4294967295)) (by decide +kernel)) dL_law_397 ?_
            refine lv_land hx hb dL_law_400 ?_
            refine lv_lor hx hb dL_law_401 ?_
            refine lv_rel (x' := (lN d)) (eX.symm) ?_
            refine wVi (rest := []) ⟨hx, hb, hml, hown, hts⟩ [.long (lN d)] [0, 1, 8, 9, 10, 2 * j + 28, 2 * j + 29, 3, 4, 5, 6, 7] (c_X4_check_go l g H.size (s0 := s0) (ks := ks) (lt := lt) (ty := ty) (lg := lg) (dg := dg) (kn := kn) (mn := mn) (tn := tn) (cc := cc) (sp := sp) (fk := fk) (ft := ft) (wa := wa) (st := st) (rk := rk) (fw := fw) (fs := fs) (k := k) (kb := kb) (fr := (kf j)) (un := (ku j)) (cl := (fus j)) (f := f) (nz := nz) (d := d) (fa := fa) (da := da) (ch := ch) (ff := ff) (fd := fd) (fc := fc) hdd ht hlet hkn hz hj2 hk2 ok1 ok2 ok3) (cwV 1 hts gL_law_X4_check rfl rfl rfl (by decide +kernel) ⟨Nat.le_of_ble_eq_true rfl, Nat.le_of_ble_eq_true rfl⟩) hK hZ hS hP hD hA (by simp only [List.map_cons, List.map_nil, List.getElem?_cons_succ, List.getElem?_cons_zero, kyW_0 hKL, kyW_1 hKL]) (by simp <;> omega) (fun _ => Nat.le_of_ble_eq_true rfl) (fun _ => rfl) (va_recv hK.1 hP (ci := 5) (q0 := 0) rfl rfl) rfl hl.1 rfl (Nat.le_of_ble_eq_true rfl) dL_law_402 ⟨show cells + 0 ≤ 603072 by omega, show slots + 0 ≤ 7219306 by omega⟩ (fun r_308 u H locs hr_308 hP hD hS => ?_)
            obtain ⟨G, T, sq, F5, F6, F7⟩ := u
            have hP : va_P g.1 vwCl ((s0, .inr (5, [.ref ks, .int (nI kn), .int (nI mn), .ref lt, .ref ty, .int (nI 0), .int (cc + nI 1), .int sq, .ref lg, .ref dg])) :: (ks, .inl (g.2.1 4, 15, .inr (.inr (.inr (.inr fk))))) :: (lt, .inl (g.2.1 0, 16, .inl fl)) :: (ty, .inl (g.2.1 0, 40, .inl ft)) :: (lg, .inr (4, [.ref fa, .ref da, .ref ch])) :: (fa, .inl (g.2.1 1, 16384, .inl F5)) :: (da, .inl (g.2.1 0, 16384, .inl F6)) :: (ch, .inl (g.2.1 0, 16384, .inl F7)) :: (dg, .inr (2, [.ref wa, .ref st, .int (nI 1)])) :: (wa, .inl (g.2.1 0, 64, .inl G)) :: (st, .inl (g.2.1 0, 8, .inl T)) :: (m0, .inr (6, [.int th, .int (nI kn), .ref qf, .ref qu, .ref qz, .ref qd, .ref qx, .int (nI mn), .int has, .ref ql, .int (nI tn), .ref qg, .int cc, .ref qb, .ref qy, .ref qc, .int sp, .int rk, .ref qe, .ref qw, .ref qt, .ref qr, .ref qi])) :: (qf, .inl (g.2.1 0, 15, .inl kf)) :: (qu, .inl (g.2.1 0, 15, .inl ku)) :: (qz, .inl (g.2.1 0, 15, .inl fz)) :: (qd, .inl (g.2.1 2, 15, .inl fus)) :: (qx, .inl (g.2.1 1, 480, .inl fx)) :: (ql, .inl (g.2.1 0, 16, .inl fl2)) :: (qg, .inl (g.2.1 0, 40, .inl ft)) :: (qb, .inl (g.2.1 1, 16384, .inl ff)) :: (qy, .inl (g.2.1 0, 16384, .inl fd)) :: (qc, .inl (g.2.1 0, 16384, .inl fc)) :: (qe, .inl (g.2.1 1, 32, .inl fe)) :: (qw, .inl (g.2.1 0, 64, .inl fw2)) :: (qt, .inl (g.2.1 0, 8, .inl fs2)) :: (qr, .inl (g.2.1 0, 64, .inl fr9)) :: (qi, .inl (g.2.1 0, 8, .inl fb9)) :: (ao, .inl (g.2.1 3, 1, .inr (.inl fo))) :: kyW g (KL.set j (k, kb, kf j, ku j, nz, fus j, f))) H := (by rw [← kyW_s KL j k kb nz (kf j) (ku j) (fus j) f (by omega)]; exact hP)
            have hD : va_D A ((s0, .inr (5, [.ref ks, .int (nI kn), .int (nI mn), .ref lt, .ref ty, .int (nI 0), .int (cc + nI 1), .int sq, .ref lg, .ref dg])) :: (ks, .inl (g.2.1 4, 15, .inr (.inr (.inr (.inr fk))))) :: (lt, .inl (g.2.1 0, 16, .inl fl)) :: (ty, .inl (g.2.1 0, 40, .inl ft)) :: (lg, .inr (4, [.ref fa, .ref da, .ref ch])) :: (fa, .inl (g.2.1 1, 16384, .inl F5)) :: (da, .inl (g.2.1 0, 16384, .inl F6)) :: (ch, .inl (g.2.1 0, 16384, .inl F7)) :: (dg, .inr (2, [.ref wa, .ref st, .int (nI 1)])) :: (wa, .inl (g.2.1 0, 64, .inl G)) :: (st, .inl (g.2.1 0, 8, .inl T)) :: (m0, .inr (6, [.int th, .int (nI kn), .ref qf, .ref qu, .ref qz, .ref qd, .ref qx, .int (nI mn), .int has, .ref ql, .int (nI tn), .ref qg, .int cc, .ref qb, .ref qy, .ref qc, .int sp, .int rk, .ref qe, .ref qw, .ref qt, .ref qr, .ref qi])) :: (qf, .inl (g.2.1 0, 15, .inl kf)) :: (qu, .inl (g.2.1 0, 15, .inl ku)) :: (qz, .inl (g.2.1 0, 15, .inl fz)) :: (qd, .inl (g.2.1 2, 15, .inl fus)) :: (qx, .inl (g.2.1 1, 480, .inl fx)) :: (ql, .inl (g.2.1 0, 16, .inl fl2)) :: (qg, .inl (g.2.1 0, 40, .inl ft)) :: (qb, .inl (g.2.1 1, 16384, .inl ff)) :: (qy, .inl (g.2.1 0, 16384, .inl fd)) :: (qc, .inl (g.2.1 0, 16384, .inl fc)) :: (qe, .inl (g.2.1 1, 32, .inl fe)) :: (qw, .inl (g.2.1 0, 64, .inl fw2)) :: (qt, .inl (g.2.1 0, 8, .inl fs2)) :: (qr, .inl (g.2.1 0, 64, .inl fr9)) :: (qi, .inl (g.2.1 0, 8, .inl fb9)) :: (ao, .inl (g.2.1 3, 1, .inr (.inl fo))) :: kyW g (KL.set j (k, kb, kf j, ku j, nz, fus j, f))) := (by rw [← kyW_s KL j k kb nz (kf j) (ku j) (fus j) f (by omega)]; exact hD)
            rw [hKs.same hKL] at hP hD
            obtain ⟨ea, eT, e2, e3, e4, e5⟩ := hr_308
            refine lv_rei (x' := (ckG (raR f nz (tbF ft 0 11) (tbF ft 11 5) d (kf j) (ku j)) (ff (tbF ft 0 11 % 16384)))) (ea) ?_
            have eT2 : ∀ a, a < 8 → T a = dG f nz (tbF ft 0 11) a := eT
            refine lv_aload_n hx hb dL_law_405 rfl (lv_at hl 2 rfl) ?_
            refine lv_aload_n hx hb dL_law_406 rfl (lv_at hl 0 rfl) ?_
            refine lv_iload hx hb dL_law_407 (lv_at hl 4 rfl) ?_
            refine lv_iconst (v := (nI 1)) hx hb dL_law_409 (by decide) ?_
            refine lv_iadd hx hb dL_law_410 ?_
            refine lv_rei (x' := (nI (i + 1))) (nI_add _ _) ?_
            refine va_sld hx hb hXs hbl hbA hS (vp_in_nI (by omega) (by omega)) dL_law_411 ?_
            refine lv_rei (x' := (xs (i + 1))) (congrArg xs (nI_clamp (by omega))) ?_
            refine lv_i2l hx hb dL_law_412 rfl ?_
            refine lv_bipush (v := (nI 32)) hx hb dL_law_413 (by decide) ?_
            refine lv_lshl hx hb dL_law_415 rfl ?_
            refine lv_aload_n hx hb dL_law_416 rfl (lv_at hl 0 rfl) ?_
            refine lv_iload hx hb dL_law_417 (lv_at hl 4 rfl) ?_
            refine lv_iconst (v := (nI 2)) hx hb dL_law_419 (by decide) ?_
            refine lv_iadd hx hb dL_law_420 ?_
            refine lv_rei (x' := (nI (i + 2))) (nI_add _ _) ?_
            refine va_sld hx hb hXs hbl hbA hS (vp_in_nI (by omega) (by omega)) dL_law_421 ?_
            refine lv_rei (x' := (xs (i + 2))) (congrArg xs (nI_clamp (by omega))) ?_
            refine lv_i2l hx hb dL_law_422 rfl ?_
            refine lv_ldc2 (v := (lN 4294967295)) hx hb hown (hts (.constantLong RL 19 (lN 4294967295)) (by decide +kernel)) dL_law_423 ?_
            refine lv_land hx hb dL_law_426 ?_
            refine lv_lor hx hb dL_law_427 ?_
            refine lv_rel (x' := (lN d)) (eX.symm) ?_
            have hfz2 : fz (tbF ft 0 11 / 2 ^ 51 % 16) = nI nz := by rw [← ej]; exact hfz
            have hf2 : ∀ a, a < nz → f a = fx (32 * (tbF ft 0 11 / 2 ^ 51 % 16) + a) := by rw [← ej]; exact hf
            refine wVi (rest := [.int (ckG (raR f nz (tbF ft 0 11) (tbF ft 11 5) d (kf j) (ku j)) (ff (tbF ft 0 11 % 16384)))]) ⟨hx, hb, hml, hown, hts⟩ [.long (lN d)] [11, 14, 16, 23, 24, 22, 25, 26, 12, 13, 18, 19, 20, 21] (c_X5_check_go l g H.size (m0 := m0) (kn := kn) (mn := mn) (tn := tn) (qf := qf) (qu := qu) (qz := qz) (qd := qd) (qx := qx) (ql := ql) (qg := qg) (qb := qb) (qy := qy) (qc := qc) (qe := qe) (qw := qw) (qt := qt) (qr := qr) (qi := qi) (th := th) (has := has) (cc := cc) (sp := sp) (rk := rk) (kf := kf) (ku := ku) (fz := fz) (fx := fx) (fw := fw2) (fs := fs2) (fe := fe) (fr9 := fr9) (fb9 := fb9) (f := f) (nz := nz) (ft := ft) (ff := ff) (fd := fd) (fc := fc) (d := d) ht hlet hkn hdd hj2 hfz2 hz hf2 hr9 hb9 ok1 ok2 ok3) (cwV 1 hts gL_law_X5_check rfl rfl rfl (by decide +kernel) ⟨Nat.le_of_ble_eq_true rfl, Nat.le_of_ble_eq_true rfl⟩) hK hZ hS hP hD hA rfl (by decide) (fun _ => Nat.le_of_ble_eq_true rfl) (fun _ => rfl) (va_recv hK.1 hP (ci := 6) (q0 := 11) rfl rfl) rfl hl.1 rfl (Nat.le_of_ble_eq_true rfl) dL_law_428 ⟨show cells + 0 + 0 ≤ 603072 by omega, show slots + 0 + 0 ≤ 7219306 by omega⟩ (fun r_309 u H locs hr_309 hP hD hS => ?_)
            obtain ⟨G5, T5, E5, sr, F8, F9, F10⟩ := u
            have hP : va_P g.1 vwCl ((s0, .inr (5, [.ref ks, .int (nI kn), .int (nI mn), .ref lt, .ref ty, .int (nI 0), .int (cc + nI 1), .int sq, .ref lg, .ref dg])) :: (ks, .inl (g.2.1 4, 15, .inr (.inr (.inr (.inr fk))))) :: (lt, .inl (g.2.1 0, 16, .inl fl)) :: (ty, .inl (g.2.1 0, 40, .inl ft)) :: (lg, .inr (4, [.ref fa, .ref da, .ref ch])) :: (fa, .inl (g.2.1 1, 16384, .inl F5)) :: (da, .inl (g.2.1 0, 16384, .inl F6)) :: (ch, .inl (g.2.1 0, 16384, .inl F7)) :: (dg, .inr (2, [.ref wa, .ref st, .int (nI 1)])) :: (wa, .inl (g.2.1 0, 64, .inl G)) :: (st, .inl (g.2.1 0, 8, .inl T)) :: (m0, .inr (6, [.int (nI 0), .int (nI kn), .ref qf, .ref qu, .ref qz, .ref qd, .ref qx, .int (nI mn), .int has, .ref ql, .int (nI 0), .ref qg, .int (cc + nI 1), .ref qb, .ref qy, .ref qc, .int sr, .int (nI 1), .ref qe, .ref qw, .ref qt, .ref qr, .ref qi])) :: (qf, .inl (g.2.1 0, 15, .inl kf)) :: (qu, .inl (g.2.1 0, 15, .inl ku)) :: (qz, .inl (g.2.1 0, 15, .inl fz)) :: (qd, .inl (g.2.1 2, 15, .inl fus)) :: (qx, .inl (g.2.1 1, 480, .inl fx)) :: (ql, .inl (g.2.1 0, 16, .inl fl2)) :: (qg, .inl (g.2.1 0, 40, .inl ft)) :: (qb, .inl (g.2.1 1, 16384, .inl F8)) :: (qy, .inl (g.2.1 0, 16384, .inl F9)) :: (qc, .inl (g.2.1 0, 16384, .inl F10)) :: (qe, .inl (g.2.1 1, 32, .inl E5)) :: (qw, .inl (g.2.1 0, 64, .inl G5)) :: (qt, .inl (g.2.1 0, 8, .inl T5)) :: (qr, .inl (g.2.1 0, 64, .inl fr9)) :: (qi, .inl (g.2.1 0, 8, .inl fb9)) :: (ao, .inl (g.2.1 3, 1, .inr (.inl fo))) :: kyW g KL) H := hP
            have hD : va_D A ((s0, .inr (5, [.ref ks, .int (nI kn), .int (nI mn), .ref lt, .ref ty, .int (nI 0), .int (cc + nI 1), .int sq, .ref lg, .ref dg])) :: (ks, .inl (g.2.1 4, 15, .inr (.inr (.inr (.inr fk))))) :: (lt, .inl (g.2.1 0, 16, .inl fl)) :: (ty, .inl (g.2.1 0, 40, .inl ft)) :: (lg, .inr (4, [.ref fa, .ref da, .ref ch])) :: (fa, .inl (g.2.1 1, 16384, .inl F5)) :: (da, .inl (g.2.1 0, 16384, .inl F6)) :: (ch, .inl (g.2.1 0, 16384, .inl F7)) :: (dg, .inr (2, [.ref wa, .ref st, .int (nI 1)])) :: (wa, .inl (g.2.1 0, 64, .inl G)) :: (st, .inl (g.2.1 0, 8, .inl T)) :: (m0, .inr (6, [.int (nI 0), .int (nI kn), .ref qf, .ref qu, .ref qz, .ref qd, .ref qx, .int (nI mn), .int has, .ref ql, .int (nI 0), .ref qg, .int (cc + nI 1), .ref qb, .ref qy, .ref qc, .int sr, .int (nI 1), .ref qe, .ref qw, .ref qt, .ref qr, .ref qi])) :: (qf, .inl (g.2.1 0, 15, .inl kf)) :: (qu, .inl (g.2.1 0, 15, .inl ku)) :: (qz, .inl (g.2.1 0, 15, .inl fz)) :: (qd, .inl (g.2.1 2, 15, .inl fus)) :: (qx, .inl (g.2.1 1, 480, .inl fx)) :: (ql, .inl (g.2.1 0, 16, .inl fl2)) :: (qg, .inl (g.2.1 0, 40, .inl ft)) :: (qb, .inl (g.2.1 1, 16384, .inl F8)) :: (qy, .inl (g.2.1 0, 16384, .inl F9)) :: (qc, .inl (g.2.1 0, 16384, .inl F10)) :: (qe, .inl (g.2.1 1, 32, .inl E5)) :: (qw, .inl (g.2.1 0, 64, .inl G5)) :: (qt, .inl (g.2.1 0, 8, .inl T5)) :: (qr, .inl (g.2.1 0, 64, .inl fr9)) :: (qi, .inl (g.2.1 0, 8, .inl fb9)) :: (ao, .inl (g.2.1 3, 1, .inr (.inl fo))) :: kyW g KL) := hD
            rw [← ej] at hr_309
            obtain ⟨eb, eE, e6, e7, e8, e9⟩ := hr_309
            refine lv_rei (x' := (ckG (raR f nz (tbF ft 0 11) (tbF ft 11 5) d (kf j) (ku j)) (ff (tbF ft 0 11 % 16384)))) (eb) ?_
            have eE2 : ∀ a, a < 32 → E5 a = oB (dG f nz (tbF ft 0 11) (a / 4)) (24 - 8 * (a % 4)) := eE
            have q1 : sr = sq := e6.trans e2.symm
            have q2 : F8 = F5 := e7.trans e3.symm
            have q3 : F9 = F6 := e8.trans e4.symm
            have q4 : F10 = F7 := e9.trans e5.symm
            subst q1 q2 q3 q4
            refine lv_icmp_eq (tgt := 645) hx hb dL_law_431 (by decide) (fun _ => ?_) (fun c9 => absurd (rfl) c9)
            refine W.widen (k := cells + 2) (n := slots + 40) (by omega) (by omega) ?_
            exact kk _ _ ⟨kn, mn, 0, (cc + nI 1), sr, (nI 1), (nI 0), has, fk, fl, ft, F8, F9, F10, G, T, kf, ku, fz, fus, fx, fl2, E5, G5, T5, fr9, fb9, fo, KL, hP, hD, ⟨hkn, hlen, hKs, hfree, by omega, by omega, by rw [show sr = _ from e2]; exact sp_gt hsp _ _ (Nat.mod_lt _ (by decide)), by rw [show F8 = _ from e3]; exact FF.gt hff _ _ _, hlt, Or.inr ⟨rfl, fun a ha => by rw [eE2 a ha, eT2 (a / 4) (by omega)]⟩, hr9, hb9⟩⟩ hS ls (lv_sub hl [0, 1, 2, 3, 4] rfl)
          · refine lv_aload_n hx hb dL_law_379 rfl (lv_at hl 1 rfl) ?_
            refine lv_aload_n hx hb dL_law_380 rfl (lv_at hl 0 rfl) ?_
            refine lv_iload hx hb dL_law_381 (lv_at hl 4 rfl) ?_
            refine lv_iconst (v := (nI 1)) hx hb dL_law_383 (by decide) ?_
            refine lv_iadd hx hb dL_law_384 ?_
            refine lv_rei (x' := (nI (i + 1))) (nI_add _ _) ?_
            refine va_sld hx hb hXs hbl hbA hS (vp_in_nI (by omega) (by omega)) dL_law_385 ?_
            refine lv_rei (x' := (xs (i + 1))) (congrArg xs (nI_clamp (by omega))) ?_
            refine lv_i2l hx hb dL_law_386 rfl ?_
            refine lv_bipush (v := (nI 32)) hx hb dL_law_387 (by decide) ?_
            refine lv_lshl hx hb dL_law_389 rfl ?_
            refine lv_aload_n hx hb dL_law_390 rfl (lv_at hl 0 rfl) ?_
            refine lv_iload hx hb dL_law_391 (lv_at hl 4 rfl) ?_
            refine lv_iconst (v := (nI 2)) hx hb dL_law_393 (by decide) ?_
            refine lv_iadd hx hb dL_law_394 ?_
            refine lv_rei (x' := (nI (i + 2))) (nI_add _ _) ?_
            refine va_sld hx hb hXs hbl hbA hS (vp_in_nI (by omega) (by omega)) dL_law_395 ?_
            refine lv_rei (x' := (xs (i + 2))) (congrArg xs (nI_clamp (by omega))) ?_
            refine lv_i2l hx hb dL_law_396 rfl ?_
            refine lv_ldc2 (v := (lN 4294967295)) hx hb hown (hts (.constantLong RL 19 (lN 4294967295)) (by decide +kernel)) dL_law_397 ?_
            refine lv_land hx hb dL_law_400 ?_
            refine lv_lor hx hb dL_law_401 ?_
            refine lv_rel (x' := (lN d)) (eX.symm) ?_
            refine wVi (rest := []) ⟨hx, hb, hml, hown, hts⟩ [.long (lN d)] [0, 3, 1] (c_X4_check_bad l g H.size (s0 := s0) (ks := ks) (lt := lt) (ty := ty) (lg := lg) (dg := dg) (kn := kn) (mn := mn) (tn := tn) (cc := cc) (sp := sp) (fk := fk) (ft := ft) (d := d) (k := k) hdd ht hlet hkn hj2 hk2 hok) (cwV 1 hts gL_law_X4_check rfl rfl rfl (by decide +kernel) ⟨Nat.le_of_ble_eq_true rfl, Nat.le_of_ble_eq_true rfl⟩) hK hZ hS hP hD hA rfl (by decide) (fun _ => Nat.le_of_ble_eq_true rfl) (fun _ => rfl) (va_recv hK.1 hP (ci := 5) (q0 := 0) rfl rfl) rfl hl.1 rfl (Nat.le_of_ble_eq_true rfl) dL_law_402 ⟨show cells + 0 ≤ 603072 by omega, show slots + 0 ≤ 7219306 by omega⟩ (fun r_310 u H locs hr_310 hP hD hS => ?_)
            have hP : va_P g.1 vwCl ((s0, .inr (5, [.ref ks, .int (nI kn), .int (nI mn), .ref lt, .ref ty, .int (nI 0), .int (cc + nI 1), .int sp, .ref lg, .ref dg])) :: (ks, .inl (g.2.1 4, 15, .inr (.inr (.inr (.inr fk))))) :: (lt, .inl (g.2.1 0, 16, .inl fl)) :: (ty, .inl (g.2.1 0, 40, .inl ft)) :: (lg, .inr (4, [.ref fa, .ref da, .ref ch])) :: (fa, .inl (g.2.1 1, 16384, .inl ff)) :: (da, .inl (g.2.1 0, 16384, .inl fd)) :: (ch, .inl (g.2.1 0, 16384, .inl fc)) :: (dg, .inr (2, [.ref wa, .ref st, .int rk])) :: (wa, .inl (g.2.1 0, 64, .inl fw)) :: (st, .inl (g.2.1 0, 8, .inl fs)) :: (m0, .inr (6, [.int th, .int (nI kn), .ref qf, .ref qu, .ref qz, .ref qd, .ref qx, .int (nI mn), .int has, .ref ql, .int (nI tn), .ref qg, .int cc, .ref qb, .ref qy, .ref qc, .int sp, .int rk, .ref qe, .ref qw, .ref qt, .ref qr, .ref qi])) :: (qf, .inl (g.2.1 0, 15, .inl kf)) :: (qu, .inl (g.2.1 0, 15, .inl ku)) :: (qz, .inl (g.2.1 0, 15, .inl fz)) :: (qd, .inl (g.2.1 2, 15, .inl fus)) :: (qx, .inl (g.2.1 1, 480, .inl fx)) :: (ql, .inl (g.2.1 0, 16, .inl fl2)) :: (qg, .inl (g.2.1 0, 40, .inl ft)) :: (qb, .inl (g.2.1 1, 16384, .inl ff)) :: (qy, .inl (g.2.1 0, 16384, .inl fd)) :: (qc, .inl (g.2.1 0, 16384, .inl fc)) :: (qe, .inl (g.2.1 1, 32, .inl fe)) :: (qw, .inl (g.2.1 0, 64, .inl fw2)) :: (qt, .inl (g.2.1 0, 8, .inl fs2)) :: (qr, .inl (g.2.1 0, 64, .inl fr9)) :: (qi, .inl (g.2.1 0, 8, .inl fb9)) :: (ao, .inl (g.2.1 3, 1, .inr (.inl fo))) :: kyW g KL) H := hP
            have hD : va_D A ((s0, .inr (5, [.ref ks, .int (nI kn), .int (nI mn), .ref lt, .ref ty, .int (nI 0), .int (cc + nI 1), .int sp, .ref lg, .ref dg])) :: (ks, .inl (g.2.1 4, 15, .inr (.inr (.inr (.inr fk))))) :: (lt, .inl (g.2.1 0, 16, .inl fl)) :: (ty, .inl (g.2.1 0, 40, .inl ft)) :: (lg, .inr (4, [.ref fa, .ref da, .ref ch])) :: (fa, .inl (g.2.1 1, 16384, .inl ff)) :: (da, .inl (g.2.1 0, 16384, .inl fd)) :: (ch, .inl (g.2.1 0, 16384, .inl fc)) :: (dg, .inr (2, [.ref wa, .ref st, .int rk])) :: (wa, .inl (g.2.1 0, 64, .inl fw)) :: (st, .inl (g.2.1 0, 8, .inl fs)) :: (m0, .inr (6, [.int th, .int (nI kn), .ref qf, .ref qu, .ref qz, .ref qd, .ref qx, .int (nI mn), .int has, .ref ql, .int (nI tn), .ref qg, .int cc, .ref qb, .ref qy, .ref qc, .int sp, .int rk, .ref qe, .ref qw, .ref qt, .ref qr, .ref qi])) :: (qf, .inl (g.2.1 0, 15, .inl kf)) :: (qu, .inl (g.2.1 0, 15, .inl ku)) :: (qz, .inl (g.2.1 0, 15, .inl fz)) :: (qd, .inl (g.2.1 2, 15, .inl fus)) :: (qx, .inl (g.2.1 1, 480, .inl fx)) :: (ql, .inl (g.2.1 0, 16, .inl fl2)) :: (qg, .inl (g.2.1 0, 40, .inl ft)) :: (qb, .inl (g.2.1 1, 16384, .inl ff)) :: (qy, .inl (g.2.1 0, 16384, .inl fd)) :: (qc, .inl (g.2.1 0, 16384, .inl fc)) :: (qe, .inl (g.2.1 1, 32, .inl fe)) :: (qw, .inl (g.2.1 0, 64, .inl fw2)) :: (qt, .inl (g.2.1 0, 8, .inl fs2)) :: (qr, .inl (g.2.1 0, 64, .inl fr9)) :: (qi, .inl (g.2.1 0, 8, .inl fb9)) :: (ao, .inl (g.2.1 3, 1, .inr (.inl fo))) :: kyW g KL) := hD
            refine lv_rei (x' := (-4)) (hr_310) ?_
            refine lv_aload_n hx hb dL_law_405 rfl (lv_at hl 2 rfl) ?_
            refine lv_aload_n hx hb dL_law_406 rfl (lv_at hl 0 rfl) ?_
            refine lv_iload hx hb dL_law_407 (lv_at hl 4 rfl) ?_
            refine lv_iconst (v := (nI 1)) hx hb dL_law_409 (by decide) ?_
            refine lv_iadd hx hb dL_law_410 ?_
            refine lv_rei (x' := (nI (i + 1))) (nI_add _ _) ?_
            refine va_sld hx hb hXs hbl hbA hS (vp_in_nI (by omega) (by omega)) dL_law_411 ?_
            refine lv_rei (x' := (xs (i + 1))) (congrArg xs (nI_clamp (by omega))) ?_
            refine lv_i2l hx hb dL_law_412 rfl ?_
            refine lv_bipush (v := (nI 32)) hx hb dL_law_413 (by decide) ?_
            refine lv_lshl hx hb dL_law_415 rfl ?_
            refine lv_aload_n hx hb dL_law_416 rfl (lv_at hl 0 rfl) ?_
            refine lv_iload hx hb dL_law_417 (lv_at hl 4 rfl) ?_
            refine lv_iconst (v := (nI 2)) hx hb dL_law_419 (by decide) ?_
            refine lv_iadd hx hb dL_law_420 ?_
            refine lv_rei (x' := (nI (i + 2))) (nI_add _ _) ?_
            refine va_sld hx hb hXs hbl hbA hS (vp_in_nI (by omega) (by omega)) dL_law_421 ?_
            refine lv_rei (x' := (xs (i + 2))) (congrArg xs (nI_clamp (by omega))) ?_
            refine lv_i2l hx hb dL_law_422 rfl ?_
            refine lv_ldc2 (v := (lN 4294967295)) hx hb hown (hts (.constantLong RL 19 (lN 4294967295)) (by decide +kernel)) dL_law_423 ?_
            refine lv_land hx hb dL_law_426 ?_
            refine lv_lor hx hb dL_law_427 ?_
            refine lv_rel (x' := (lN d)) (eX.symm) ?_
            refine wVi (rest := [.int (-4)]) ⟨hx, hb, hml, hown, hts⟩ [.long (lN d)] [11, 18] (c_X5_check_bad l g H.size (m0 := m0) (kn := kn) (mn := mn) (tn := tn) (qf := qf) (qu := qu) (qz := qz) (qd := qd) (qx := qx) (ql := ql) (qg := qg) (qb := qb) (qy := qy) (qc := qc) (qe := qe) (qw := qw) (qt := qt) (qr := qr) (qi := qi) (th := th) (has := has) (cc := cc) (sp := sp) (rk := rk) (ft := ft) (d := d) hdd ht hlet hkn hj2 hok) (cwV 1 hts gL_law_X5_check rfl rfl rfl (by decide +kernel) ⟨Nat.le_of_ble_eq_true rfl, Nat.le_of_ble_eq_true rfl⟩) hK hZ hS hP hD hA rfl (by decide) (fun _ => Nat.le_of_ble_eq_true rfl) (fun _ => rfl) (va_recv hK.1 hP (ci := 6) (q0 := 11) rfl rfl) rfl hl.1 rfl (Nat.le_of_ble_eq_true rfl) dL_law_428 ⟨show cells + 0 + 0 ≤ 603072 by omega, show slots + 0 + 0 ≤ 7219306 by omega⟩ (fun r_311 u H locs hr_311 hP hD hS => ?_)
            have hP : va_P g.1 vwCl ((s0, .inr (5, [.ref ks, .int (nI kn), .int (nI mn), .ref lt, .ref ty, .int (nI 0), .int (cc + nI 1), .int sp, .ref lg, .ref dg])) :: (ks, .inl (g.2.1 4, 15, .inr (.inr (.inr (.inr fk))))) :: (lt, .inl (g.2.1 0, 16, .inl fl)) :: (ty, .inl (g.2.1 0, 40, .inl ft)) :: (lg, .inr (4, [.ref fa, .ref da, .ref ch])) :: (fa, .inl (g.2.1 1, 16384, .inl ff)) :: (da, .inl (g.2.1 0, 16384, .inl fd)) :: (ch, .inl (g.2.1 0, 16384, .inl fc)) :: (dg, .inr (2, [.ref wa, .ref st, .int rk])) :: (wa, .inl (g.2.1 0, 64, .inl fw)) :: (st, .inl (g.2.1 0, 8, .inl fs)) :: (m0, .inr (6, [.int (nI 0), .int (nI kn), .ref qf, .ref qu, .ref qz, .ref qd, .ref qx, .int (nI mn), .int has, .ref ql, .int (nI 0), .ref qg, .int (cc + nI 1), .ref qb, .ref qy, .ref qc, .int sp, .int rk, .ref qe, .ref qw, .ref qt, .ref qr, .ref qi])) :: (qf, .inl (g.2.1 0, 15, .inl kf)) :: (qu, .inl (g.2.1 0, 15, .inl ku)) :: (qz, .inl (g.2.1 0, 15, .inl fz)) :: (qd, .inl (g.2.1 2, 15, .inl fus)) :: (qx, .inl (g.2.1 1, 480, .inl fx)) :: (ql, .inl (g.2.1 0, 16, .inl fl2)) :: (qg, .inl (g.2.1 0, 40, .inl ft)) :: (qb, .inl (g.2.1 1, 16384, .inl ff)) :: (qy, .inl (g.2.1 0, 16384, .inl fd)) :: (qc, .inl (g.2.1 0, 16384, .inl fc)) :: (qe, .inl (g.2.1 1, 32, .inl fe)) :: (qw, .inl (g.2.1 0, 64, .inl fw2)) :: (qt, .inl (g.2.1 0, 8, .inl fs2)) :: (qr, .inl (g.2.1 0, 64, .inl fr9)) :: (qi, .inl (g.2.1 0, 8, .inl fb9)) :: (ao, .inl (g.2.1 3, 1, .inr (.inl fo))) :: kyW g KL) H := hP
            have hD : va_D A ((s0, .inr (5, [.ref ks, .int (nI kn), .int (nI mn), .ref lt, .ref ty, .int (nI 0), .int (cc + nI 1), .int sp, .ref lg, .ref dg])) :: (ks, .inl (g.2.1 4, 15, .inr (.inr (.inr (.inr fk))))) :: (lt, .inl (g.2.1 0, 16, .inl fl)) :: (ty, .inl (g.2.1 0, 40, .inl ft)) :: (lg, .inr (4, [.ref fa, .ref da, .ref ch])) :: (fa, .inl (g.2.1 1, 16384, .inl ff)) :: (da, .inl (g.2.1 0, 16384, .inl fd)) :: (ch, .inl (g.2.1 0, 16384, .inl fc)) :: (dg, .inr (2, [.ref wa, .ref st, .int rk])) :: (wa, .inl (g.2.1 0, 64, .inl fw)) :: (st, .inl (g.2.1 0, 8, .inl fs)) :: (m0, .inr (6, [.int (nI 0), .int (nI kn), .ref qf, .ref qu, .ref qz, .ref qd, .ref qx, .int (nI mn), .int has, .ref ql, .int (nI 0), .ref qg, .int (cc + nI 1), .ref qb, .ref qy, .ref qc, .int sp, .int rk, .ref qe, .ref qw, .ref qt, .ref qr, .ref qi])) :: (qf, .inl (g.2.1 0, 15, .inl kf)) :: (qu, .inl (g.2.1 0, 15, .inl ku)) :: (qz, .inl (g.2.1 0, 15, .inl fz)) :: (qd, .inl (g.2.1 2, 15, .inl fus)) :: (qx, .inl (g.2.1 1, 480, .inl fx)) :: (ql, .inl (g.2.1 0, 16, .inl fl2)) :: (qg, .inl (g.2.1 0, 40, .inl ft)) :: (qb, .inl (g.2.1 1, 16384, .inl ff)) :: (qy, .inl (g.2.1 0, 16384, .inl fd)) :: (qc, .inl (g.2.1 0, 16384, .inl fc)) :: (qe, .inl (g.2.1 1, 32, .inl fe)) :: (qw, .inl (g.2.1 0, 64, .inl fw2)) :: (qt, .inl (g.2.1 0, 8, .inl fs2)) :: (qr, .inl (g.2.1 0, 64, .inl fr9)) :: (qi, .inl (g.2.1 0, 8, .inl fb9)) :: (ao, .inl (g.2.1 3, 1, .inr (.inl fo))) :: kyW g KL) := hD
            refine lv_rei (x' := (-4)) (hr_311) ?_
            refine lv_icmp_eq (tgt := 645) hx hb dL_law_431 (by decide) (fun _ => ?_) (fun c9 => absurd (rfl) c9)
            refine W.widen (k := cells + 2) (n := slots + 40) (by omega) (by omega) ?_
            exact kk _ _ ⟨kn, mn, 0, (cc + nI 1), sp, rk, (nI 0), has, fk, fl, ft, ff, fd, fc, fw, fs, kf, ku, fz, fus, fx, fl2, fe, fw2, fs2, fr9, fb9, fo, KL, hP, hD, ⟨hkn, hlen, hKs, hfree, by omega, by omega, hsp, hff, hlt, hrk, hr9, hb9⟩⟩ hS ls (lv_sub hl [0, 1, 2, 3, 4] rfl)
        · have hj2 : kn ≤ tbF ft 0 11 / 2 ^ 51 % 16 := by rw [← ej]; exact hj
          refine lv_aload_n hx hb dL_law_379 rfl (lv_at hl 1 rfl) ?_
          refine lv_aload_n hx hb dL_law_380 rfl (lv_at hl 0 rfl) ?_
          refine lv_iload hx hb dL_law_381 (lv_at hl 4 rfl) ?_
          refine lv_iconst (v := (nI 1)) hx hb dL_law_383 (by decide) ?_
          refine lv_iadd hx hb dL_law_384 ?_
          refine lv_rei (x' := (nI (i + 1))) (nI_add _ _) ?_
          refine va_sld hx hb hXs hbl hbA hS (vp_in_nI (by omega) (by omega)) dL_law_385 ?_
          refine lv_rei (x' := (xs (i + 1))) (congrArg xs (nI_clamp (by omega))) ?_
          refine lv_i2l hx hb dL_law_386 rfl ?_
          refine lv_bipush (v := (nI 32)) hx hb dL_law_387 (by decide) ?_
          refine lv_lshl hx hb dL_law_389 rfl ?_
          refine lv_aload_n hx hb dL_law_390 rfl (lv_at hl 0 rfl) ?_
          refine lv_iload hx hb dL_law_391 (lv_at hl 4 rfl) ?_
          refine lv_iconst (v := (nI 2)) hx hb dL_law_393 (by decide) ?_
          refine lv_iadd hx hb dL_law_394 ?_
          refine lv_rei (x' := (nI (i + 2))) (nI_add _ _) ?_
          refine va_sld hx hb hXs hbl hbA hS (vp_in_nI (by omega) (by omega)) dL_law_395 ?_
          refine lv_rei (x' := (xs (i + 2))) (congrArg xs (nI_clamp (by omega))) ?_
          refine lv_i2l hx hb dL_law_396 rfl ?_
          refine lv_ldc2 (v := (lN 4294967295)) hx hb hown (hts (.constantLong RL 19 (lN 4294967295)) (by decide +kernel)) dL_law_397 ?_
          refine lv_land hx hb dL_law_400 ?_
          refine lv_lor hx hb dL_law_401 ?_
          refine lv_rel (x' := (lN d)) (eX.symm) ?_
          refine wVi (rest := []) ⟨hx, hb, hml, hown, hts⟩ [.long (lN d)] [0, 3, 1] (c_X4_check_out l g H.size (s0 := s0) (ks := ks) (lt := lt) (ty := ty) (lg := lg) (dg := dg) (kn := kn) (mn := mn) (tn := tn) (cc := cc) (sp := sp) (fk := fk) (ft := ft) (d := d) hdd ht hlet hkn hj2) (cwV 1 hts gL_law_X4_check rfl rfl rfl (by decide +kernel) ⟨Nat.le_of_ble_eq_true rfl, Nat.le_of_ble_eq_true rfl⟩) hK hZ hS hP hD hA rfl (by decide) (fun _ => Nat.le_of_ble_eq_true rfl) (fun _ => rfl) (va_recv hK.1 hP (ci := 5) (q0 := 0) rfl rfl) rfl hl.1 rfl (Nat.le_of_ble_eq_true rfl) dL_law_402 ⟨show cells + 0 ≤ 603072 by omega, show slots + 0 ≤ 7219306 by omega⟩ (fun r_312 u H locs hr_312 hP hD hS => ?_)
          have hP : va_P g.1 vwCl ((s0, .inr (5, [.ref ks, .int (nI kn), .int (nI mn), .ref lt, .ref ty, .int (nI 0), .int (cc + nI 1), .int sp, .ref lg, .ref dg])) :: (ks, .inl (g.2.1 4, 15, .inr (.inr (.inr (.inr fk))))) :: (lt, .inl (g.2.1 0, 16, .inl fl)) :: (ty, .inl (g.2.1 0, 40, .inl ft)) :: (lg, .inr (4, [.ref fa, .ref da, .ref ch])) :: (fa, .inl (g.2.1 1, 16384, .inl ff)) :: (da, .inl (g.2.1 0, 16384, .inl fd)) :: (ch, .inl (g.2.1 0, 16384, .inl fc)) :: (dg, .inr (2, [.ref wa, .ref st, .int rk])) :: (wa, .inl (g.2.1 0, 64, .inl fw)) :: (st, .inl (g.2.1 0, 8, .inl fs)) :: (m0, .inr (6, [.int th, .int (nI kn), .ref qf, .ref qu, .ref qz, .ref qd, .ref qx, .int (nI mn), .int has, .ref ql, .int (nI tn), .ref qg, .int cc, .ref qb, .ref qy, .ref qc, .int sp, .int rk, .ref qe, .ref qw, .ref qt, .ref qr, .ref qi])) :: (qf, .inl (g.2.1 0, 15, .inl kf)) :: (qu, .inl (g.2.1 0, 15, .inl ku)) :: (qz, .inl (g.2.1 0, 15, .inl fz)) :: (qd, .inl (g.2.1 2, 15, .inl fus)) :: (qx, .inl (g.2.1 1, 480, .inl fx)) :: (ql, .inl (g.2.1 0, 16, .inl fl2)) :: (qg, .inl (g.2.1 0, 40, .inl ft)) :: (qb, .inl (g.2.1 1, 16384, .inl ff)) :: (qy, .inl (g.2.1 0, 16384, .inl fd)) :: (qc, .inl (g.2.1 0, 16384, .inl fc)) :: (qe, .inl (g.2.1 1, 32, .inl fe)) :: (qw, .inl (g.2.1 0, 64, .inl fw2)) :: (qt, .inl (g.2.1 0, 8, .inl fs2)) :: (qr, .inl (g.2.1 0, 64, .inl fr9)) :: (qi, .inl (g.2.1 0, 8, .inl fb9)) :: (ao, .inl (g.2.1 3, 1, .inr (.inl fo))) :: kyW g KL) H := hP
          have hD : va_D A ((s0, .inr (5, [.ref ks, .int (nI kn), .int (nI mn), .ref lt, .ref ty, .int (nI 0), .int (cc + nI 1), .int sp, .ref lg, .ref dg])) :: (ks, .inl (g.2.1 4, 15, .inr (.inr (.inr (.inr fk))))) :: (lt, .inl (g.2.1 0, 16, .inl fl)) :: (ty, .inl (g.2.1 0, 40, .inl ft)) :: (lg, .inr (4, [.ref fa, .ref da, .ref ch])) :: (fa, .inl (g.2.1 1, 16384, .inl ff)) :: (da, .inl (g.2.1 0, 16384, .inl fd)) :: (ch, .inl (g.2.1 0, 16384, .inl fc)) :: (dg, .inr (2, [.ref wa, .ref st, .int rk])) :: (wa, .inl (g.2.1 0, 64, .inl fw)) :: (st, .inl (g.2.1 0, 8, .inl fs)) :: (m0, .inr (6, [.int th, .int (nI kn), .ref qf, .ref qu, .ref qz, .ref qd, .ref qx, .int (nI mn), .int has, .ref ql, .int (nI tn), .ref qg, .int cc, .ref qb, .ref qy, .ref qc, .int sp, .int rk, .ref qe, .ref qw, .ref qt, .ref qr, .ref qi])) :: (qf, .inl (g.2.1 0, 15, .inl kf)) :: (qu, .inl (g.2.1 0, 15, .inl ku)) :: (qz, .inl (g.2.1 0, 15, .inl fz)) :: (qd, .inl (g.2.1 2, 15, .inl fus)) :: (qx, .inl (g.2.1 1, 480, .inl fx)) :: (ql, .inl (g.2.1 0, 16, .inl fl2)) :: (qg, .inl (g.2.1 0, 40, .inl ft)) :: (qb, .inl (g.2.1 1, 16384, .inl ff)) :: (qy, .inl (g.2.1 0, 16384, .inl fd)) :: (qc, .inl (g.2.1 0, 16384, .inl fc)) :: (qe, .inl (g.2.1 1, 32, .inl fe)) :: (qw, .inl (g.2.1 0, 64, .inl fw2)) :: (qt, .inl (g.2.1 0, 8, .inl fs2)) :: (qr, .inl (g.2.1 0, 64, .inl fr9)) :: (qi, .inl (g.2.1 0, 8, .inl fb9)) :: (ao, .inl (g.2.1 3, 1, .inr (.inl fo))) :: kyW g KL) := hD
          refine lv_rei (x' := (-4)) (hr_312) ?_
          refine lv_aload_n hx hb dL_law_405 rfl (lv_at hl 2 rfl) ?_
          refine lv_aload_n hx hb dL_law_406 rfl (lv_at hl 0 rfl) ?_
          refine lv_iload hx hb dL_law_407 (lv_at hl 4 rfl) ?_
          refine lv_iconst (v := (nI 1)) hx hb dL_law_409 (by decide) ?_
          refine lv_iadd hx hb dL_law_410 ?_
          refine lv_rei (x' := (nI (i + 1))) (nI_add _ _) ?_
          refine va_sld hx hb hXs hbl hbA hS (vp_in_nI (by omega) (by omega)) dL_law_411 ?_
          refine lv_rei (x' := (xs (i + 1))) (congrArg xs (nI_clamp (by omega))) ?_
          refine lv_i2l hx hb dL_law_412 rfl ?_
          refine lv_bipush (v := (nI 32)) hx hb dL_law_413 (by decide) ?_
          refine lv_lshl hx hb dL_law_415 rfl ?_
          refine lv_aload_n hx hb dL_law_416 rfl (lv_at hl 0 rfl) ?_
          refine lv_iload hx hb dL_law_417 (lv_at hl 4 rfl) ?_
          refine lv_iconst (v := (nI 2)) hx hb dL_law_419 (by decide) ?_
          refine lv_iadd hx hb dL_law_420 ?_
          refine lv_rei (x' := (nI (i + 2))) (nI_add _ _) ?_
          refine va_sld hx hb hXs hbl hbA hS (vp_in_nI (by omega) (by omega)) dL_law_421 ?_
          refine lv_rei (x' := (xs (i + 2))) (congrArg xs (nI_clamp (by omega))) ?_
          refine lv_i2l hx hb dL_law_422 rfl ?_
          refine lv_ldc2 (v := (lN 4294967295)) hx hb hown (hts (.constantLong RL 19 (lN 4294967295)) (by decide +kernel)) dL_law_423 ?_
          refine lv_land hx hb dL_law_426 ?_
          refine lv_lor hx hb dL_law_427 ?_
          refine lv_rel (x' := (lN d)) (eX.symm) ?_
          refine wVi (rest := [.int (-4)]) ⟨hx, hb, hml, hown, hts⟩ [.long (lN d)] [11, 18] (c_X5_check_out l g H.size (m0 := m0) (kn := kn) (mn := mn) (tn := tn) (qf := qf) (qu := qu) (qz := qz) (qd := qd) (qx := qx) (ql := ql) (qg := qg) (qb := qb) (qy := qy) (qc := qc) (qe := qe) (qw := qw) (qt := qt) (qr := qr) (qi := qi) (th := th) (has := has) (cc := cc) (sp := sp) (rk := rk) (ft := ft) (d := d) hdd ht hlet hkn hj2) (cwV 1 hts gL_law_X5_check rfl rfl rfl (by decide +kernel) ⟨Nat.le_of_ble_eq_true rfl, Nat.le_of_ble_eq_true rfl⟩) hK hZ hS hP hD hA rfl (by decide) (fun _ => Nat.le_of_ble_eq_true rfl) (fun _ => rfl) (va_recv hK.1 hP (ci := 6) (q0 := 11) rfl rfl) rfl hl.1 rfl (Nat.le_of_ble_eq_true rfl) dL_law_428 ⟨show cells + 0 + 0 ≤ 603072 by omega, show slots + 0 + 0 ≤ 7219306 by omega⟩ (fun r_313 u H locs hr_313 hP hD hS => ?_)
          have hP : va_P g.1 vwCl ((s0, .inr (5, [.ref ks, .int (nI kn), .int (nI mn), .ref lt, .ref ty, .int (nI 0), .int (cc + nI 1), .int sp, .ref lg, .ref dg])) :: (ks, .inl (g.2.1 4, 15, .inr (.inr (.inr (.inr fk))))) :: (lt, .inl (g.2.1 0, 16, .inl fl)) :: (ty, .inl (g.2.1 0, 40, .inl ft)) :: (lg, .inr (4, [.ref fa, .ref da, .ref ch])) :: (fa, .inl (g.2.1 1, 16384, .inl ff)) :: (da, .inl (g.2.1 0, 16384, .inl fd)) :: (ch, .inl (g.2.1 0, 16384, .inl fc)) :: (dg, .inr (2, [.ref wa, .ref st, .int rk])) :: (wa, .inl (g.2.1 0, 64, .inl fw)) :: (st, .inl (g.2.1 0, 8, .inl fs)) :: (m0, .inr (6, [.int (nI 0), .int (nI kn), .ref qf, .ref qu, .ref qz, .ref qd, .ref qx, .int (nI mn), .int has, .ref ql, .int (nI 0), .ref qg, .int (cc + nI 1), .ref qb, .ref qy, .ref qc, .int sp, .int rk, .ref qe, .ref qw, .ref qt, .ref qr, .ref qi])) :: (qf, .inl (g.2.1 0, 15, .inl kf)) :: (qu, .inl (g.2.1 0, 15, .inl ku)) :: (qz, .inl (g.2.1 0, 15, .inl fz)) :: (qd, .inl (g.2.1 2, 15, .inl fus)) :: (qx, .inl (g.2.1 1, 480, .inl fx)) :: (ql, .inl (g.2.1 0, 16, .inl fl2)) :: (qg, .inl (g.2.1 0, 40, .inl ft)) :: (qb, .inl (g.2.1 1, 16384, .inl ff)) :: (qy, .inl (g.2.1 0, 16384, .inl fd)) :: (qc, .inl (g.2.1 0, 16384, .inl fc)) :: (qe, .inl (g.2.1 1, 32, .inl fe)) :: (qw, .inl (g.2.1 0, 64, .inl fw2)) :: (qt, .inl (g.2.1 0, 8, .inl fs2)) :: (qr, .inl (g.2.1 0, 64, .inl fr9)) :: (qi, .inl (g.2.1 0, 8, .inl fb9)) :: (ao, .inl (g.2.1 3, 1, .inr (.inl fo))) :: kyW g KL) H := hP
          have hD : va_D A ((s0, .inr (5, [.ref ks, .int (nI kn), .int (nI mn), .ref lt, .ref ty, .int (nI 0), .int (cc + nI 1), .int sp, .ref lg, .ref dg])) :: (ks, .inl (g.2.1 4, 15, .inr (.inr (.inr (.inr fk))))) :: (lt, .inl (g.2.1 0, 16, .inl fl)) :: (ty, .inl (g.2.1 0, 40, .inl ft)) :: (lg, .inr (4, [.ref fa, .ref da, .ref ch])) :: (fa, .inl (g.2.1 1, 16384, .inl ff)) :: (da, .inl (g.2.1 0, 16384, .inl fd)) :: (ch, .inl (g.2.1 0, 16384, .inl fc)) :: (dg, .inr (2, [.ref wa, .ref st, .int rk])) :: (wa, .inl (g.2.1 0, 64, .inl fw)) :: (st, .inl (g.2.1 0, 8, .inl fs)) :: (m0, .inr (6, [.int (nI 0), .int (nI kn), .ref qf, .ref qu, .ref qz, .ref qd, .ref qx, .int (nI mn), .int has, .ref ql, .int (nI 0), .ref qg, .int (cc + nI 1), .ref qb, .ref qy, .ref qc, .int sp, .int rk, .ref qe, .ref qw, .ref qt, .ref qr, .ref qi])) :: (qf, .inl (g.2.1 0, 15, .inl kf)) :: (qu, .inl (g.2.1 0, 15, .inl ku)) :: (qz, .inl (g.2.1 0, 15, .inl fz)) :: (qd, .inl (g.2.1 2, 15, .inl fus)) :: (qx, .inl (g.2.1 1, 480, .inl fx)) :: (ql, .inl (g.2.1 0, 16, .inl fl2)) :: (qg, .inl (g.2.1 0, 40, .inl ft)) :: (qb, .inl (g.2.1 1, 16384, .inl ff)) :: (qy, .inl (g.2.1 0, 16384, .inl fd)) :: (qc, .inl (g.2.1 0, 16384, .inl fc)) :: (qe, .inl (g.2.1 1, 32, .inl fe)) :: (qw, .inl (g.2.1 0, 64, .inl fw2)) :: (qt, .inl (g.2.1 0, 8, .inl fs2)) :: (qr, .inl (g.2.1 0, 64, .inl fr9)) :: (qi, .inl (g.2.1 0, 8, .inl fb9)) :: (ao, .inl (g.2.1 3, 1, .inr (.inl fo))) :: kyW g KL) := hD
          refine lv_rei (x' := (-4)) (hr_313) ?_
          refine lv_icmp_eq (tgt := 645) hx hb dL_law_431 (by decide) (fun _ => ?_) (fun c9 => absurd (rfl) c9)
          refine W.widen (k := cells + 2) (n := slots + 40) (by omega) (by omega) ?_
          exact kk _ _ ⟨kn, mn, 0, (cc + nI 1), sp, rk, (nI 0), has, fk, fl, ft, ff, fd, fc, fw, fs, kf, ku, fz, fus, fx, fl2, fe, fw2, fs2, fr9, fb9, fo, KL, hP, hD, ⟨hkn, hlen, hKs, hfree, by omega, by omega, hsp, hff, hlt, hrk, hr9, hb9⟩⟩ hS ls (lv_sub hl [0, 1, 2, 3, 4] rfl)
      · have hbad := hlet
        obtain ⟨j, hj1, hj2⟩ : ∃ j, j < 16 ∧ ¬ wo (ft j) < 32 := Classical.byContradiction fun z => hbad fun j hj => Classical.byContradiction fun z2 => z ⟨j, hj, z2⟩
        refine lv_aload_n hx hb dL_law_379 rfl (lv_at hl 1 rfl) ?_
        refine lv_aload_n hx hb dL_law_380 rfl (lv_at hl 0 rfl) ?_
        refine lv_iload hx hb dL_law_381 (lv_at hl 4 rfl) ?_
        refine lv_iconst (v := (nI 1)) hx hb dL_law_383 (by decide) ?_
        refine lv_iadd hx hb dL_law_384 ?_
        refine lv_rei (x' := (nI (i + 1))) (nI_add _ _) ?_
        refine va_sld hx hb hXs hbl hbA hS (vp_in_nI (by omega) (by omega)) dL_law_385 ?_
        refine lv_rei (x' := (xs (i + 1))) (congrArg xs (nI_clamp (by omega))) ?_
        refine lv_i2l hx hb dL_law_386 rfl ?_
        refine lv_bipush (v := (nI 32)) hx hb dL_law_387 (by decide) ?_
        refine lv_lshl hx hb dL_law_389 rfl ?_
        refine lv_aload_n hx hb dL_law_390 rfl (lv_at hl 0 rfl) ?_
        refine lv_iload hx hb dL_law_391 (lv_at hl 4 rfl) ?_
        refine lv_iconst (v := (nI 2)) hx hb dL_law_393 (by decide) ?_
        refine lv_iadd hx hb dL_law_394 ?_
        refine lv_rei (x' := (nI (i + 2))) (nI_add _ _) ?_
        refine va_sld hx hb hXs hbl hbA hS (vp_in_nI (by omega) (by omega)) dL_law_395 ?_
        refine lv_rei (x' := (xs (i + 2))) (congrArg xs (nI_clamp (by omega))) ?_
        refine lv_i2l hx hb dL_law_396 rfl ?_
        refine lv_ldc2 (v := (lN 4294967295)) hx hb hown (hts (.constantLong RL 19 (lN 4294967295)) (by decide +kernel)) dL_law_397 ?_
        refine lv_land hx hb dL_law_400 ?_
        refine lv_lor hx hb dL_law_401 ?_
        refine lv_rel (x' := (lN d)) (eX.symm) ?_
        refine wVi (rest := []) ⟨hx, hb, hml, hown, hts⟩ [.long (lN d)] [0, 3] (c_X4_check_let l g H.size (s0 := s0) (ks := ks) (lt := lt) (ty := ty) (lg := lg) (dg := dg) (kn := kn) (mn := mn) (tn := tn) (cc := cc) (sp := sp) (ft := ft) (d := d) hdd ht hbad) (cwV 1 hts gL_law_X4_check rfl rfl rfl (by decide +kernel) ⟨Nat.le_of_ble_eq_true rfl, Nat.le_of_ble_eq_true rfl⟩) hK hZ hS hP hD hA rfl (by decide) (fun _ => Nat.le_of_ble_eq_true rfl) (fun _ => rfl) (va_recv hK.1 hP (ci := 5) (q0 := 0) rfl rfl) rfl hl.1 rfl (Nat.le_of_ble_eq_true rfl) dL_law_402 ⟨show cells + 0 ≤ 603072 by omega, show slots + 0 ≤ 7219306 by omega⟩ (fun r_314 u H locs hr_314 hP hD hS => ?_)
        have hP : va_P g.1 vwCl ((s0, .inr (5, [.ref ks, .int (nI kn), .int (nI mn), .ref lt, .ref ty, .int (nI 0), .int (cc + nI 1), .int sp, .ref lg, .ref dg])) :: (ks, .inl (g.2.1 4, 15, .inr (.inr (.inr (.inr fk))))) :: (lt, .inl (g.2.1 0, 16, .inl fl)) :: (ty, .inl (g.2.1 0, 40, .inl ft)) :: (lg, .inr (4, [.ref fa, .ref da, .ref ch])) :: (fa, .inl (g.2.1 1, 16384, .inl ff)) :: (da, .inl (g.2.1 0, 16384, .inl fd)) :: (ch, .inl (g.2.1 0, 16384, .inl fc)) :: (dg, .inr (2, [.ref wa, .ref st, .int rk])) :: (wa, .inl (g.2.1 0, 64, .inl fw)) :: (st, .inl (g.2.1 0, 8, .inl fs)) :: (m0, .inr (6, [.int th, .int (nI kn), .ref qf, .ref qu, .ref qz, .ref qd, .ref qx, .int (nI mn), .int has, .ref ql, .int (nI tn), .ref qg, .int cc, .ref qb, .ref qy, .ref qc, .int sp, .int rk, .ref qe, .ref qw, .ref qt, .ref qr, .ref qi])) :: (qf, .inl (g.2.1 0, 15, .inl kf)) :: (qu, .inl (g.2.1 0, 15, .inl ku)) :: (qz, .inl (g.2.1 0, 15, .inl fz)) :: (qd, .inl (g.2.1 2, 15, .inl fus)) :: (qx, .inl (g.2.1 1, 480, .inl fx)) :: (ql, .inl (g.2.1 0, 16, .inl fl2)) :: (qg, .inl (g.2.1 0, 40, .inl ft)) :: (qb, .inl (g.2.1 1, 16384, .inl ff)) :: (qy, .inl (g.2.1 0, 16384, .inl fd)) :: (qc, .inl (g.2.1 0, 16384, .inl fc)) :: (qe, .inl (g.2.1 1, 32, .inl fe)) :: (qw, .inl (g.2.1 0, 64, .inl fw2)) :: (qt, .inl (g.2.1 0, 8, .inl fs2)) :: (qr, .inl (g.2.1 0, 64, .inl fr9)) :: (qi, .inl (g.2.1 0, 8, .inl fb9)) :: (ao, .inl (g.2.1 3, 1, .inr (.inl fo))) :: kyW g KL) H := hP
        have hD : va_D A ((s0, .inr (5, [.ref ks, .int (nI kn), .int (nI mn), .ref lt, .ref ty, .int (nI 0), .int (cc + nI 1), .int sp, .ref lg, .ref dg])) :: (ks, .inl (g.2.1 4, 15, .inr (.inr (.inr (.inr fk))))) :: (lt, .inl (g.2.1 0, 16, .inl fl)) :: (ty, .inl (g.2.1 0, 40, .inl ft)) :: (lg, .inr (4, [.ref fa, .ref da, .ref ch])) :: (fa, .inl (g.2.1 1, 16384, .inl ff)) :: (da, .inl (g.2.1 0, 16384, .inl fd)) :: (ch, .inl (g.2.1 0, 16384, .inl fc)) :: (dg, .inr (2, [.ref wa, .ref st, .int rk])) :: (wa, .inl (g.2.1 0, 64, .inl fw)) :: (st, .inl (g.2.1 0, 8, .inl fs)) :: (m0, .inr (6, [.int th, .int (nI kn), .ref qf, .ref qu, .ref qz, .ref qd, .ref qx, .int (nI mn), .int has, .ref ql, .int (nI tn), .ref qg, .int cc, .ref qb, .ref qy, .ref qc, .int sp, .int rk, .ref qe, .ref qw, .ref qt, .ref qr, .ref qi])) :: (qf, .inl (g.2.1 0, 15, .inl kf)) :: (qu, .inl (g.2.1 0, 15, .inl ku)) :: (qz, .inl (g.2.1 0, 15, .inl fz)) :: (qd, .inl (g.2.1 2, 15, .inl fus)) :: (qx, .inl (g.2.1 1, 480, .inl fx)) :: (ql, .inl (g.2.1 0, 16, .inl fl2)) :: (qg, .inl (g.2.1 0, 40, .inl ft)) :: (qb, .inl (g.2.1 1, 16384, .inl ff)) :: (qy, .inl (g.2.1 0, 16384, .inl fd)) :: (qc, .inl (g.2.1 0, 16384, .inl fc)) :: (qe, .inl (g.2.1 1, 32, .inl fe)) :: (qw, .inl (g.2.1 0, 64, .inl fw2)) :: (qt, .inl (g.2.1 0, 8, .inl fs2)) :: (qr, .inl (g.2.1 0, 64, .inl fr9)) :: (qi, .inl (g.2.1 0, 8, .inl fb9)) :: (ao, .inl (g.2.1 3, 1, .inr (.inl fo))) :: kyW g KL) := hD
        refine lv_rei (x' := (-3)) (hr_314) ?_
        refine lv_aload_n hx hb dL_law_405 rfl (lv_at hl 2 rfl) ?_
        refine lv_aload_n hx hb dL_law_406 rfl (lv_at hl 0 rfl) ?_
        refine lv_iload hx hb dL_law_407 (lv_at hl 4 rfl) ?_
        refine lv_iconst (v := (nI 1)) hx hb dL_law_409 (by decide) ?_
        refine lv_iadd hx hb dL_law_410 ?_
        refine lv_rei (x' := (nI (i + 1))) (nI_add _ _) ?_
        refine va_sld hx hb hXs hbl hbA hS (vp_in_nI (by omega) (by omega)) dL_law_411 ?_
        refine lv_rei (x' := (xs (i + 1))) (congrArg xs (nI_clamp (by omega))) ?_
        refine lv_i2l hx hb dL_law_412 rfl ?_
        refine lv_bipush (v := (nI 32)) hx hb dL_law_413 (by decide) ?_
        refine lv_lshl hx hb dL_law_415 rfl ?_
        refine lv_aload_n hx hb dL_law_416 rfl (lv_at hl 0 rfl) ?_
        refine lv_iload hx hb dL_law_417 (lv_at hl 4 rfl) ?_
        refine lv_iconst (v := (nI 2)) hx hb dL_law_419 (by decide) ?_
        refine lv_iadd hx hb dL_law_420 ?_
        refine lv_rei (x' := (nI (i + 2))) (nI_add _ _) ?_
        refine va_sld hx hb hXs hbl hbA hS (vp_in_nI (by omega) (by omega)) dL_law_421 ?_
        refine lv_rei (x' := (xs (i + 2))) (congrArg xs (nI_clamp (by omega))) ?_
        refine lv_i2l hx hb dL_law_422 rfl ?_
        refine lv_ldc2 (v := (lN 4294967295)) hx hb hown (hts (.constantLong RL 19 (lN 4294967295)) (by decide +kernel)) dL_law_423 ?_
        refine lv_land hx hb dL_law_426 ?_
        refine lv_lor hx hb dL_law_427 ?_
        refine lv_rel (x' := (lN d)) (eX.symm) ?_
        refine wVi (rest := [.int (-3)]) ⟨hx, hb, hml, hown, hts⟩ [.long (lN d)] [11, 18] (c_X5_check_let l g H.size (m0 := m0) (kn := kn) (mn := mn) (tn := tn) (qf := qf) (qu := qu) (qz := qz) (qd := qd) (qx := qx) (ql := ql) (qg := qg) (qb := qb) (qy := qy) (qc := qc) (qe := qe) (qw := qw) (qt := qt) (qr := qr) (qi := qi) (th := th) (has := has) (cc := cc) (sp := sp) (rk := rk) (ft := ft) (d := d) hdd ht j hj1 hj2) (cwV 1 hts gL_law_X5_check rfl rfl rfl (by decide +kernel) ⟨Nat.le_of_ble_eq_true rfl, Nat.le_of_ble_eq_true rfl⟩) hK hZ hS hP hD hA rfl (by decide) (fun _ => Nat.le_of_ble_eq_true rfl) (fun _ => rfl) (va_recv hK.1 hP (ci := 6) (q0 := 11) rfl rfl) rfl hl.1 rfl (Nat.le_of_ble_eq_true rfl) dL_law_428 ⟨show cells + 0 + 0 ≤ 603072 by omega, show slots + 0 + 0 ≤ 7219306 by omega⟩ (fun r_315 u H locs hr_315 hP hD hS => ?_)
        have hP : va_P g.1 vwCl ((s0, .inr (5, [.ref ks, .int (nI kn), .int (nI mn), .ref lt, .ref ty, .int (nI 0), .int (cc + nI 1), .int sp, .ref lg, .ref dg])) :: (ks, .inl (g.2.1 4, 15, .inr (.inr (.inr (.inr fk))))) :: (lt, .inl (g.2.1 0, 16, .inl fl)) :: (ty, .inl (g.2.1 0, 40, .inl ft)) :: (lg, .inr (4, [.ref fa, .ref da, .ref ch])) :: (fa, .inl (g.2.1 1, 16384, .inl ff)) :: (da, .inl (g.2.1 0, 16384, .inl fd)) :: (ch, .inl (g.2.1 0, 16384, .inl fc)) :: (dg, .inr (2, [.ref wa, .ref st, .int rk])) :: (wa, .inl (g.2.1 0, 64, .inl fw)) :: (st, .inl (g.2.1 0, 8, .inl fs)) :: (m0, .inr (6, [.int (nI 0), .int (nI kn), .ref qf, .ref qu, .ref qz, .ref qd, .ref qx, .int (nI mn), .int has, .ref ql, .int (nI 0), .ref qg, .int (cc + nI 1), .ref qb, .ref qy, .ref qc, .int sp, .int rk, .ref qe, .ref qw, .ref qt, .ref qr, .ref qi])) :: (qf, .inl (g.2.1 0, 15, .inl kf)) :: (qu, .inl (g.2.1 0, 15, .inl ku)) :: (qz, .inl (g.2.1 0, 15, .inl fz)) :: (qd, .inl (g.2.1 2, 15, .inl fus)) :: (qx, .inl (g.2.1 1, 480, .inl fx)) :: (ql, .inl (g.2.1 0, 16, .inl fl2)) :: (qg, .inl (g.2.1 0, 40, .inl ft)) :: (qb, .inl (g.2.1 1, 16384, .inl ff)) :: (qy, .inl (g.2.1 0, 16384, .inl fd)) :: (qc, .inl (g.2.1 0, 16384, .inl fc)) :: (qe, .inl (g.2.1 1, 32, .inl fe)) :: (qw, .inl (g.2.1 0, 64, .inl fw2)) :: (qt, .inl (g.2.1 0, 8, .inl fs2)) :: (qr, .inl (g.2.1 0, 64, .inl fr9)) :: (qi, .inl (g.2.1 0, 8, .inl fb9)) :: (ao, .inl (g.2.1 3, 1, .inr (.inl fo))) :: kyW g KL) H := hP
        have hD : va_D A ((s0, .inr (5, [.ref ks, .int (nI kn), .int (nI mn), .ref lt, .ref ty, .int (nI 0), .int (cc + nI 1), .int sp, .ref lg, .ref dg])) :: (ks, .inl (g.2.1 4, 15, .inr (.inr (.inr (.inr fk))))) :: (lt, .inl (g.2.1 0, 16, .inl fl)) :: (ty, .inl (g.2.1 0, 40, .inl ft)) :: (lg, .inr (4, [.ref fa, .ref da, .ref ch])) :: (fa, .inl (g.2.1 1, 16384, .inl ff)) :: (da, .inl (g.2.1 0, 16384, .inl fd)) :: (ch, .inl (g.2.1 0, 16384, .inl fc)) :: (dg, .inr (2, [.ref wa, .ref st, .int rk])) :: (wa, .inl (g.2.1 0, 64, .inl fw)) :: (st, .inl (g.2.1 0, 8, .inl fs)) :: (m0, .inr (6, [.int (nI 0), .int (nI kn), .ref qf, .ref qu, .ref qz, .ref qd, .ref qx, .int (nI mn), .int has, .ref ql, .int (nI 0), .ref qg, .int (cc + nI 1), .ref qb, .ref qy, .ref qc, .int sp, .int rk, .ref qe, .ref qw, .ref qt, .ref qr, .ref qi])) :: (qf, .inl (g.2.1 0, 15, .inl kf)) :: (qu, .inl (g.2.1 0, 15, .inl ku)) :: (qz, .inl (g.2.1 0, 15, .inl fz)) :: (qd, .inl (g.2.1 2, 15, .inl fus)) :: (qx, .inl (g.2.1 1, 480, .inl fx)) :: (ql, .inl (g.2.1 0, 16, .inl fl2)) :: (qg, .inl (g.2.1 0, 40, .inl ft)) :: (qb, .inl (g.2.1 1, 16384, .inl ff)) :: (qy, .inl (g.2.1 0, 16384, .inl fd)) :: (qc, .inl (g.2.1 0, 16384, .inl fc)) :: (qe, .inl (g.2.1 1, 32, .inl fe)) :: (qw, .inl (g.2.1 0, 64, .inl fw2)) :: (qt, .inl (g.2.1 0, 8, .inl fs2)) :: (qr, .inl (g.2.1 0, 64, .inl fr9)) :: (qi, .inl (g.2.1 0, 8, .inl fb9)) :: (ao, .inl (g.2.1 3, 1, .inr (.inl fo))) :: kyW g KL) := hD
        refine lv_rei (x' := (-3)) (hr_315) ?_
        refine lv_icmp_eq (tgt := 645) hx hb dL_law_431 (by decide) (fun _ => ?_) (fun c9 => absurd (rfl) c9)
        refine W.widen (k := cells + 2) (n := slots + 40) (by omega) (by omega) ?_
        exact kk _ _ ⟨kn, mn, 0, (cc + nI 1), sp, rk, (nI 0), has, fk, fl, ft, ff, fd, fc, fw, fs, kf, ku, fz, fus, fx, fl2, fe, fw2, fs2, fr9, fb9, fo, KL, hP, hD, ⟨hkn, hlen, hKs, hfree, by omega, by omega, hsp, hff, hlt, hrk, hr9, hb9⟩⟩ hS ls (lv_sub hl [0, 1, 2, 3, 4] rfl)
    · refine lv_aload_n hx hb dL_law_379 rfl (lv_at hl 1 rfl) ?_
      refine lv_aload_n hx hb dL_law_380 rfl (lv_at hl 0 rfl) ?_
      refine lv_iload hx hb dL_law_381 (lv_at hl 4 rfl) ?_
      refine lv_iconst (v := (nI 1)) hx hb dL_law_383 (by decide) ?_
      refine lv_iadd hx hb dL_law_384 ?_
      refine lv_rei (x' := (nI (i + 1))) (nI_add _ _) ?_
      refine va_sld hx hb hXs hbl hbA hS (vp_in_nI (by omega) (by omega)) dL_law_385 ?_
      refine lv_rei (x' := (xs (i + 1))) (congrArg xs (nI_clamp (by omega))) ?_
      refine lv_i2l hx hb dL_law_386 rfl ?_
      refine lv_bipush (v := (nI 32)) hx hb dL_law_387 (by decide) ?_
      refine lv_lshl hx hb dL_law_389 rfl ?_
      refine lv_aload_n hx hb dL_law_390 rfl (lv_at hl 0 rfl) ?_
      refine lv_iload hx hb dL_law_391 (lv_at hl 4 rfl) ?_
      refine lv_iconst (v := (nI 2)) hx hb dL_law_393 (by decide) ?_
      refine lv_iadd hx hb dL_law_394 ?_
      refine lv_rei (x' := (nI (i + 2))) (nI_add _ _) ?_
      refine va_sld hx hb hXs hbl hbA hS (vp_in_nI (by omega) (by omega)) dL_law_395 ?_
      refine lv_rei (x' := (xs (i + 2))) (congrArg xs (nI_clamp (by omega))) ?_
      refine lv_i2l hx hb dL_law_396 rfl ?_
      refine lv_ldc2 (v := (lN 4294967295)) hx hb hown (hts (.constantLong RL 19 (lN 4294967295)) (by decide +kernel)) dL_law_397 ?_
      refine lv_land hx hb dL_law_400 ?_
      refine lv_lor hx hb dL_law_401 ?_
      refine lv_rel (x' := (lN d)) (eX.symm) ?_
      refine wVi (rest := []) ⟨hx, hb, hml, hown, hts⟩ [.long (lN d)] [0] (c_X4_check_len l g H.size (s0 := s0) (ks := ks) (lt := lt) (ty := ty) (lg := lg) (dg := dg) (kn := kn) (mn := mn) (tn := tn) (cc := cc) (sp := sp) (d := d) hdd ht htn) (cwV 1 hts gL_law_X4_check rfl rfl rfl (by decide +kernel) ⟨Nat.le_of_ble_eq_true rfl, Nat.le_of_ble_eq_true rfl⟩) hK hZ hS hP hD hA rfl (by decide) (fun _ => Nat.le_of_ble_eq_true rfl) (fun _ => rfl) (va_recv hK.1 hP (ci := 5) (q0 := 0) rfl rfl) rfl hl.1 rfl (Nat.le_of_ble_eq_true rfl) dL_law_402 ⟨show cells + 0 ≤ 603072 by omega, show slots + 0 ≤ 7219306 by omega⟩ (fun r_316 u H locs hr_316 hP hD hS => ?_)
      have hP : va_P g.1 vwCl ((s0, .inr (5, [.ref ks, .int (nI kn), .int (nI mn), .ref lt, .ref ty, .int (nI 0), .int (cc + nI 1), .int sp, .ref lg, .ref dg])) :: (ks, .inl (g.2.1 4, 15, .inr (.inr (.inr (.inr fk))))) :: (lt, .inl (g.2.1 0, 16, .inl fl)) :: (ty, .inl (g.2.1 0, 40, .inl ft)) :: (lg, .inr (4, [.ref fa, .ref da, .ref ch])) :: (fa, .inl (g.2.1 1, 16384, .inl ff)) :: (da, .inl (g.2.1 0, 16384, .inl fd)) :: (ch, .inl (g.2.1 0, 16384, .inl fc)) :: (dg, .inr (2, [.ref wa, .ref st, .int rk])) :: (wa, .inl (g.2.1 0, 64, .inl fw)) :: (st, .inl (g.2.1 0, 8, .inl fs)) :: (m0, .inr (6, [.int th, .int (nI kn), .ref qf, .ref qu, .ref qz, .ref qd, .ref qx, .int (nI mn), .int has, .ref ql, .int (nI tn), .ref qg, .int cc, .ref qb, .ref qy, .ref qc, .int sp, .int rk, .ref qe, .ref qw, .ref qt, .ref qr, .ref qi])) :: (qf, .inl (g.2.1 0, 15, .inl kf)) :: (qu, .inl (g.2.1 0, 15, .inl ku)) :: (qz, .inl (g.2.1 0, 15, .inl fz)) :: (qd, .inl (g.2.1 2, 15, .inl fus)) :: (qx, .inl (g.2.1 1, 480, .inl fx)) :: (ql, .inl (g.2.1 0, 16, .inl fl2)) :: (qg, .inl (g.2.1 0, 40, .inl ft)) :: (qb, .inl (g.2.1 1, 16384, .inl ff)) :: (qy, .inl (g.2.1 0, 16384, .inl fd)) :: (qc, .inl (g.2.1 0, 16384, .inl fc)) :: (qe, .inl (g.2.1 1, 32, .inl fe)) :: (qw, .inl (g.2.1 0, 64, .inl fw2)) :: (qt, .inl (g.2.1 0, 8, .inl fs2)) :: (qr, .inl (g.2.1 0, 64, .inl fr9)) :: (qi, .inl (g.2.1 0, 8, .inl fb9)) :: (ao, .inl (g.2.1 3, 1, .inr (.inl fo))) :: kyW g KL) H := hP
      have hD : va_D A ((s0, .inr (5, [.ref ks, .int (nI kn), .int (nI mn), .ref lt, .ref ty, .int (nI 0), .int (cc + nI 1), .int sp, .ref lg, .ref dg])) :: (ks, .inl (g.2.1 4, 15, .inr (.inr (.inr (.inr fk))))) :: (lt, .inl (g.2.1 0, 16, .inl fl)) :: (ty, .inl (g.2.1 0, 40, .inl ft)) :: (lg, .inr (4, [.ref fa, .ref da, .ref ch])) :: (fa, .inl (g.2.1 1, 16384, .inl ff)) :: (da, .inl (g.2.1 0, 16384, .inl fd)) :: (ch, .inl (g.2.1 0, 16384, .inl fc)) :: (dg, .inr (2, [.ref wa, .ref st, .int rk])) :: (wa, .inl (g.2.1 0, 64, .inl fw)) :: (st, .inl (g.2.1 0, 8, .inl fs)) :: (m0, .inr (6, [.int th, .int (nI kn), .ref qf, .ref qu, .ref qz, .ref qd, .ref qx, .int (nI mn), .int has, .ref ql, .int (nI tn), .ref qg, .int cc, .ref qb, .ref qy, .ref qc, .int sp, .int rk, .ref qe, .ref qw, .ref qt, .ref qr, .ref qi])) :: (qf, .inl (g.2.1 0, 15, .inl kf)) :: (qu, .inl (g.2.1 0, 15, .inl ku)) :: (qz, .inl (g.2.1 0, 15, .inl fz)) :: (qd, .inl (g.2.1 2, 15, .inl fus)) :: (qx, .inl (g.2.1 1, 480, .inl fx)) :: (ql, .inl (g.2.1 0, 16, .inl fl2)) :: (qg, .inl (g.2.1 0, 40, .inl ft)) :: (qb, .inl (g.2.1 1, 16384, .inl ff)) :: (qy, .inl (g.2.1 0, 16384, .inl fd)) :: (qc, .inl (g.2.1 0, 16384, .inl fc)) :: (qe, .inl (g.2.1 1, 32, .inl fe)) :: (qw, .inl (g.2.1 0, 64, .inl fw2)) :: (qt, .inl (g.2.1 0, 8, .inl fs2)) :: (qr, .inl (g.2.1 0, 64, .inl fr9)) :: (qi, .inl (g.2.1 0, 8, .inl fb9)) :: (ao, .inl (g.2.1 3, 1, .inr (.inl fo))) :: kyW g KL) := hD
      refine lv_rei (x' := (-2)) (hr_316) ?_
      refine lv_aload_n hx hb dL_law_405 rfl (lv_at hl 2 rfl) ?_
      refine lv_aload_n hx hb dL_law_406 rfl (lv_at hl 0 rfl) ?_
      refine lv_iload hx hb dL_law_407 (lv_at hl 4 rfl) ?_
      refine lv_iconst (v := (nI 1)) hx hb dL_law_409 (by decide) ?_
      refine lv_iadd hx hb dL_law_410 ?_
      refine lv_rei (x' := (nI (i + 1))) (nI_add _ _) ?_
      refine va_sld hx hb hXs hbl hbA hS (vp_in_nI (by omega) (by omega)) dL_law_411 ?_
      refine lv_rei (x' := (xs (i + 1))) (congrArg xs (nI_clamp (by omega))) ?_
      refine lv_i2l hx hb dL_law_412 rfl ?_
      refine lv_bipush (v := (nI 32)) hx hb dL_law_413 (by decide) ?_
      refine lv_lshl hx hb dL_law_415 rfl ?_
      refine lv_aload_n hx hb dL_law_416 rfl (lv_at hl 0 rfl) ?_
      refine lv_iload hx hb dL_law_417 (lv_at hl 4 rfl) ?_
      refine lv_iconst (v := (nI 2)) hx hb dL_law_419 (by decide) ?_
      refine lv_iadd hx hb dL_law_420 ?_
      refine lv_rei (x' := (nI (i + 2))) (nI_add _ _) ?_
      refine va_sld hx hb hXs hbl hbA hS (vp_in_nI (by omega) (by omega)) dL_law_421 ?_
      refine lv_rei (x' := (xs (i + 2))) (congrArg xs (nI_clamp (by omega))) ?_
      refine lv_i2l hx hb dL_law_422 rfl ?_
      refine lv_ldc2 (v := (lN 4294967295)) hx hb hown (hts (.constantLong RL 19 (lN 4294967295)) (by decide +kernel)) dL_law_423 ?_
      refine lv_land hx hb dL_law_426 ?_
      refine lv_lor hx hb dL_law_427 ?_
      refine lv_rel (x' := (lN d)) (eX.symm) ?_
      refine wVi (rest := [.int (-2)]) ⟨hx, hb, hml, hown, hts⟩ [.long (lN d)] [11] (c_X5_check_len l g H.size (m0 := m0) (kn := kn) (mn := mn) (tn := tn) (qf := qf) (qu := qu) (qz := qz) (qd := qd) (qx := qx) (ql := ql) (qg := qg) (qb := qb) (qy := qy) (qc := qc) (qe := qe) (qw := qw) (qt := qt) (qr := qr) (qi := qi) (th := th) (has := has) (cc := cc) (sp := sp) (rk := rk) (d := d) hdd ht htn) (cwV 1 hts gL_law_X5_check rfl rfl rfl (by decide +kernel) ⟨Nat.le_of_ble_eq_true rfl, Nat.le_of_ble_eq_true rfl⟩) hK hZ hS hP hD hA rfl (by decide) (fun _ => Nat.le_of_ble_eq_true rfl) (fun _ => rfl) (va_recv hK.1 hP (ci := 6) (q0 := 11) rfl rfl) rfl hl.1 rfl (Nat.le_of_ble_eq_true rfl) dL_law_428 ⟨show cells + 0 + 0 ≤ 603072 by omega, show slots + 0 + 0 ≤ 7219306 by omega⟩ (fun r_317 u H locs hr_317 hP hD hS => ?_)
      have hP : va_P g.1 vwCl ((s0, .inr (5, [.ref ks, .int (nI kn), .int (nI mn), .ref lt, .ref ty, .int (nI 0), .int (cc + nI 1), .int sp, .ref lg, .ref dg])) :: (ks, .inl (g.2.1 4, 15, .inr (.inr (.inr (.inr fk))))) :: (lt, .inl (g.2.1 0, 16, .inl fl)) :: (ty, .inl (g.2.1 0, 40, .inl ft)) :: (lg, .inr (4, [.ref fa, .ref da, .ref ch])) :: (fa, .inl (g.2.1 1, 16384, .inl ff)) :: (da, .inl (g.2.1 0, 16384, .inl fd)) :: (ch, .inl (g.2.1 0, 16384, .inl fc)) :: (dg, .inr (2, [.ref wa, .ref st, .int rk])) :: (wa, .inl (g.2.1 0, 64, .inl fw)) :: (st, .inl (g.2.1 0, 8, .inl fs)) :: (m0, .inr (6, [.int (nI 0), .int (nI kn), .ref qf, .ref qu, .ref qz, .ref qd, .ref qx, .int (nI mn), .int has, .ref ql, .int (nI 0), .ref qg, .int (cc + nI 1), .ref qb, .ref qy, .ref qc, .int sp, .int rk, .ref qe, .ref qw, .ref qt, .ref qr, .ref qi])) :: (qf, .inl (g.2.1 0, 15, .inl kf)) :: (qu, .inl (g.2.1 0, 15, .inl ku)) :: (qz, .inl (g.2.1 0, 15, .inl fz)) :: (qd, .inl (g.2.1 2, 15, .inl fus)) :: (qx, .inl (g.2.1 1, 480, .inl fx)) :: (ql, .inl (g.2.1 0, 16, .inl fl2)) :: (qg, .inl (g.2.1 0, 40, .inl ft)) :: (qb, .inl (g.2.1 1, 16384, .inl ff)) :: (qy, .inl (g.2.1 0, 16384, .inl fd)) :: (qc, .inl (g.2.1 0, 16384, .inl fc)) :: (qe, .inl (g.2.1 1, 32, .inl fe)) :: (qw, .inl (g.2.1 0, 64, .inl fw2)) :: (qt, .inl (g.2.1 0, 8, .inl fs2)) :: (qr, .inl (g.2.1 0, 64, .inl fr9)) :: (qi, .inl (g.2.1 0, 8, .inl fb9)) :: (ao, .inl (g.2.1 3, 1, .inr (.inl fo))) :: kyW g KL) H := hP
      have hD : va_D A ((s0, .inr (5, [.ref ks, .int (nI kn), .int (nI mn), .ref lt, .ref ty, .int (nI 0), .int (cc + nI 1), .int sp, .ref lg, .ref dg])) :: (ks, .inl (g.2.1 4, 15, .inr (.inr (.inr (.inr fk))))) :: (lt, .inl (g.2.1 0, 16, .inl fl)) :: (ty, .inl (g.2.1 0, 40, .inl ft)) :: (lg, .inr (4, [.ref fa, .ref da, .ref ch])) :: (fa, .inl (g.2.1 1, 16384, .inl ff)) :: (da, .inl (g.2.1 0, 16384, .inl fd)) :: (ch, .inl (g.2.1 0, 16384, .inl fc)) :: (dg, .inr (2, [.ref wa, .ref st, .int rk])) :: (wa, .inl (g.2.1 0, 64, .inl fw)) :: (st, .inl (g.2.1 0, 8, .inl fs)) :: (m0, .inr (6, [.int (nI 0), .int (nI kn), .ref qf, .ref qu, .ref qz, .ref qd, .ref qx, .int (nI mn), .int has, .ref ql, .int (nI 0), .ref qg, .int (cc + nI 1), .ref qb, .ref qy, .ref qc, .int sp, .int rk, .ref qe, .ref qw, .ref qt, .ref qr, .ref qi])) :: (qf, .inl (g.2.1 0, 15, .inl kf)) :: (qu, .inl (g.2.1 0, 15, .inl ku)) :: (qz, .inl (g.2.1 0, 15, .inl fz)) :: (qd, .inl (g.2.1 2, 15, .inl fus)) :: (qx, .inl (g.2.1 1, 480, .inl fx)) :: (ql, .inl (g.2.1 0, 16, .inl fl2)) :: (qg, .inl (g.2.1 0, 40, .inl ft)) :: (qb, .inl (g.2.1 1, 16384, .inl ff)) :: (qy, .inl (g.2.1 0, 16384, .inl fd)) :: (qc, .inl (g.2.1 0, 16384, .inl fc)) :: (qe, .inl (g.2.1 1, 32, .inl fe)) :: (qw, .inl (g.2.1 0, 64, .inl fw2)) :: (qt, .inl (g.2.1 0, 8, .inl fs2)) :: (qr, .inl (g.2.1 0, 64, .inl fr9)) :: (qi, .inl (g.2.1 0, 8, .inl fb9)) :: (ao, .inl (g.2.1 3, 1, .inr (.inl fo))) :: kyW g KL) := hD
      refine lv_rei (x' := (-2)) (hr_317) ?_
      refine lv_icmp_eq (tgt := 645) hx hb dL_law_431 (by decide) (fun _ => ?_) (fun c9 => absurd (rfl) c9)
      refine W.widen (k := cells + 2) (n := slots + 40) (by omega) (by omega) ?_
      exact kk _ _ ⟨kn, mn, 0, (cc + nI 1), sp, rk, (nI 0), has, fk, fl, ft, ff, fd, fc, fw, fs, kf, ku, fz, fus, fx, fl2, fe, fw2, fs2, fr9, fb9, fo, KL, hP, hD, ⟨hkn, hlen, hKs, hfree, by omega, by omega, hsp, hff, hlt, hrk, hr9, hb9⟩⟩ hS ls (lv_sub hl [0, 1, 2, 3, 4] rfl)
  · refine lv_aload_n hx hb dL_law_379 rfl (lv_at hl 1 rfl) ?_
    refine lv_aload_n hx hb dL_law_380 rfl (lv_at hl 0 rfl) ?_
    refine lv_iload hx hb dL_law_381 (lv_at hl 4 rfl) ?_
    refine lv_iconst (v := (nI 1)) hx hb dL_law_383 (by decide) ?_
    refine lv_iadd hx hb dL_law_384 ?_
    refine lv_rei (x' := (nI (i + 1))) (nI_add _ _) ?_
    refine va_sld hx hb hXs hbl hbA hS (vp_in_nI (by omega) (by omega)) dL_law_385 ?_
    refine lv_rei (x' := (xs (i + 1))) (congrArg xs (nI_clamp (by omega))) ?_
    refine lv_i2l hx hb dL_law_386 rfl ?_
    refine lv_bipush (v := (nI 32)) hx hb dL_law_387 (by decide) ?_
    refine lv_lshl hx hb dL_law_389 rfl ?_
    refine lv_aload_n hx hb dL_law_390 rfl (lv_at hl 0 rfl) ?_
    refine lv_iload hx hb dL_law_391 (lv_at hl 4 rfl) ?_
    refine lv_iconst (v := (nI 2)) hx hb dL_law_393 (by decide) ?_
    refine lv_iadd hx hb dL_law_394 ?_
    refine lv_rei (x' := (nI (i + 2))) (nI_add _ _) ?_
    refine va_sld hx hb hXs hbl hbA hS (vp_in_nI (by omega) (by omega)) dL_law_395 ?_
    refine lv_rei (x' := (xs (i + 2))) (congrArg xs (nI_clamp (by omega))) ?_
    refine lv_i2l hx hb dL_law_396 rfl ?_
    refine lv_ldc2 (v := (lN 4294967295)) hx hb hown (hts (.constantLong RL 19 (lN 4294967295)) (by decide +kernel)) dL_law_397 ?_
    refine lv_land hx hb dL_law_400 ?_
    refine lv_lor hx hb dL_law_401 ?_
    refine lv_rel (x' := X) (eX.symm) ?_
    refine cVi (rest := []) ⟨hx, hb, hml, hown, hts⟩ [.long X] (c_X4_check_dom l g (s0 := s0) (ks := ks) (lt := lt) (ty := ty) (lg := lg) (dg := dg) (kn := kn) (mn := mn) (tn := tn) (cc := cc) (sp := sp) (x := X) h0) (cwV 1 hts gL_law_X4_check rfl rfl rfl (by decide +kernel) ⟨Nat.le_of_ble_eq_true rfl, Nat.le_of_ble_eq_true rfl⟩) hK hZ hS (subP hP [0] rfl) (va_recv hK.1 hP (ci := 5) (q0 := 0) rfl rfl) rfl hl.1 rfl (Nat.le_of_ble_eq_true rfl) dL_law_402 ⟨show cells ≤ 603072 by omega, show slots ≤ 7219306 by omega⟩ (fun r_318 hr_318 => ?_)
    refine lv_rei (x' := (-22)) (hr_318) ?_
    refine lv_aload_n hx hb dL_law_405 rfl (lv_at hl 2 rfl) ?_
    refine lv_aload_n hx hb dL_law_406 rfl (lv_at hl 0 rfl) ?_
    refine lv_iload hx hb dL_law_407 (lv_at hl 4 rfl) ?_
    refine lv_iconst (v := (nI 1)) hx hb dL_law_409 (by decide) ?_
    refine lv_iadd hx hb dL_law_410 ?_
    refine lv_rei (x' := (nI (i + 1))) (nI_add _ _) ?_
    refine va_sld hx hb hXs hbl hbA hS (vp_in_nI (by omega) (by omega)) dL_law_411 ?_
    refine lv_rei (x' := (xs (i + 1))) (congrArg xs (nI_clamp (by omega))) ?_
    refine lv_i2l hx hb dL_law_412 rfl ?_
    refine lv_bipush (v := (nI 32)) hx hb dL_law_413 (by decide) ?_
    refine lv_lshl hx hb dL_law_415 rfl ?_
    refine lv_aload_n hx hb dL_law_416 rfl (lv_at hl 0 rfl) ?_
    refine lv_iload hx hb dL_law_417 (lv_at hl 4 rfl) ?_
    refine lv_iconst (v := (nI 2)) hx hb dL_law_419 (by decide) ?_
    refine lv_iadd hx hb dL_law_420 ?_
    refine lv_rei (x' := (nI (i + 2))) (nI_add _ _) ?_
    refine va_sld hx hb hXs hbl hbA hS (vp_in_nI (by omega) (by omega)) dL_law_421 ?_
    refine lv_rei (x' := (xs (i + 2))) (congrArg xs (nI_clamp (by omega))) ?_
    refine lv_i2l hx hb dL_law_422 rfl ?_
    refine lv_ldc2 (v := (lN 4294967295)) hx hb hown (hts (.constantLong RL 19 (lN 4294967295)) (by decide +kernel)) dL_law_423 ?_
    refine lv_land hx hb dL_law_426 ?_
    refine lv_lor hx hb dL_law_427 ?_
    refine lv_rel (x' := X) (eX.symm) ?_
    refine wVi (rest := [.int (-22)]) ⟨hx, hb, hml, hown, hts⟩ [.long X] [11] (c_X5_check_dom l g H.size (m0 := m0) (kn := kn) (mn := mn) (tn := tn) (qf := qf) (qu := qu) (qz := qz) (qd := qd) (qx := qx) (ql := ql) (qg := qg) (qb := qb) (qy := qy) (qc := qc) (qe := qe) (qw := qw) (qt := qt) (qr := qr) (qi := qi) (th := th) (has := has) (cc := cc) (sp := sp) (rk := rk) (x := X) h0) (cwV 1 hts gL_law_X5_check rfl rfl rfl (by decide +kernel) ⟨Nat.le_of_ble_eq_true rfl, Nat.le_of_ble_eq_true rfl⟩) hK hZ hS hP hD hA rfl (by decide) (fun _ => Nat.le_of_ble_eq_true rfl) (fun _ => rfl) (va_recv hK.1 hP (ci := 6) (q0 := 11) rfl rfl) rfl hl.1 rfl (Nat.le_of_ble_eq_true rfl) dL_law_428 ⟨show cells + 0 ≤ 603072 by omega, show slots + 0 ≤ 7219306 by omega⟩ (fun r_319 u H locs hr_319 hP hD hS => ?_)
    have hP : va_P g.1 vwCl ((s0, .inr (5, [.ref ks, .int (nI kn), .int (nI mn), .ref lt, .ref ty, .int (nI tn), .int cc, .int sp, .ref lg, .ref dg])) :: (ks, .inl (g.2.1 4, 15, .inr (.inr (.inr (.inr fk))))) :: (lt, .inl (g.2.1 0, 16, .inl fl)) :: (ty, .inl (g.2.1 0, 40, .inl ft)) :: (lg, .inr (4, [.ref fa, .ref da, .ref ch])) :: (fa, .inl (g.2.1 1, 16384, .inl ff)) :: (da, .inl (g.2.1 0, 16384, .inl fd)) :: (ch, .inl (g.2.1 0, 16384, .inl fc)) :: (dg, .inr (2, [.ref wa, .ref st, .int rk])) :: (wa, .inl (g.2.1 0, 64, .inl fw)) :: (st, .inl (g.2.1 0, 8, .inl fs)) :: (m0, .inr (6, [.int (nI 0), .int (nI kn), .ref qf, .ref qu, .ref qz, .ref qd, .ref qx, .int (nI mn), .int has, .ref ql, .int (nI tn), .ref qg, .int cc, .ref qb, .ref qy, .ref qc, .int sp, .int rk, .ref qe, .ref qw, .ref qt, .ref qr, .ref qi])) :: (qf, .inl (g.2.1 0, 15, .inl kf)) :: (qu, .inl (g.2.1 0, 15, .inl ku)) :: (qz, .inl (g.2.1 0, 15, .inl fz)) :: (qd, .inl (g.2.1 2, 15, .inl fus)) :: (qx, .inl (g.2.1 1, 480, .inl fx)) :: (ql, .inl (g.2.1 0, 16, .inl fl2)) :: (qg, .inl (g.2.1 0, 40, .inl ft)) :: (qb, .inl (g.2.1 1, 16384, .inl ff)) :: (qy, .inl (g.2.1 0, 16384, .inl fd)) :: (qc, .inl (g.2.1 0, 16384, .inl fc)) :: (qe, .inl (g.2.1 1, 32, .inl fe)) :: (qw, .inl (g.2.1 0, 64, .inl fw2)) :: (qt, .inl (g.2.1 0, 8, .inl fs2)) :: (qr, .inl (g.2.1 0, 64, .inl fr9)) :: (qi, .inl (g.2.1 0, 8, .inl fb9)) :: (ao, .inl (g.2.1 3, 1, .inr (.inl fo))) :: kyW g KL) H := hP
    have hD : va_D A ((s0, .inr (5, [.ref ks, .int (nI kn), .int (nI mn), .ref lt, .ref ty, .int (nI tn), .int cc, .int sp, .ref lg, .ref dg])) :: (ks, .inl (g.2.1 4, 15, .inr (.inr (.inr (.inr fk))))) :: (lt, .inl (g.2.1 0, 16, .inl fl)) :: (ty, .inl (g.2.1 0, 40, .inl ft)) :: (lg, .inr (4, [.ref fa, .ref da, .ref ch])) :: (fa, .inl (g.2.1 1, 16384, .inl ff)) :: (da, .inl (g.2.1 0, 16384, .inl fd)) :: (ch, .inl (g.2.1 0, 16384, .inl fc)) :: (dg, .inr (2, [.ref wa, .ref st, .int rk])) :: (wa, .inl (g.2.1 0, 64, .inl fw)) :: (st, .inl (g.2.1 0, 8, .inl fs)) :: (m0, .inr (6, [.int (nI 0), .int (nI kn), .ref qf, .ref qu, .ref qz, .ref qd, .ref qx, .int (nI mn), .int has, .ref ql, .int (nI tn), .ref qg, .int cc, .ref qb, .ref qy, .ref qc, .int sp, .int rk, .ref qe, .ref qw, .ref qt, .ref qr, .ref qi])) :: (qf, .inl (g.2.1 0, 15, .inl kf)) :: (qu, .inl (g.2.1 0, 15, .inl ku)) :: (qz, .inl (g.2.1 0, 15, .inl fz)) :: (qd, .inl (g.2.1 2, 15, .inl fus)) :: (qx, .inl (g.2.1 1, 480, .inl fx)) :: (ql, .inl (g.2.1 0, 16, .inl fl2)) :: (qg, .inl (g.2.1 0, 40, .inl ft)) :: (qb, .inl (g.2.1 1, 16384, .inl ff)) :: (qy, .inl (g.2.1 0, 16384, .inl fd)) :: (qc, .inl (g.2.1 0, 16384, .inl fc)) :: (qe, .inl (g.2.1 1, 32, .inl fe)) :: (qw, .inl (g.2.1 0, 64, .inl fw2)) :: (qt, .inl (g.2.1 0, 8, .inl fs2)) :: (qr, .inl (g.2.1 0, 64, .inl fr9)) :: (qi, .inl (g.2.1 0, 8, .inl fb9)) :: (ao, .inl (g.2.1 3, 1, .inr (.inl fo))) :: kyW g KL) := hD
    refine lv_rei (x' := (-22)) (hr_319) ?_
    refine lv_icmp_eq (tgt := 645) hx hb dL_law_431 (by decide) (fun _ => ?_) (fun c9 => absurd (rfl) c9)
    refine W.widen (k := cells + 2) (n := slots + 40) (by omega) (by omega) ?_
    exact kk _ _ ⟨kn, mn, tn, cc, sp, rk, (nI 0), has, fk, fl, ft, ff, fd, fc, fw, fs, kf, ku, fz, fus, fx, fl2, fe, fw2, fs2, fr9, fb9, fo, KL, hP, hD, ⟨hkn, hlen, hKs, hfree, by omega, htn, hsp, hff, hlt, hrk, hr9, hb9⟩⟩ hS ls (lv_sub hl [0, 1, 2, 3, 4] rfl)
