set_option maxHeartbeats 4000000 in
set_option maxRecDepth 100000 in
/-- key -/
theorem law_c0 {p : Program} {l : Launch} {e : Env} {s : State} {m : MethodId} {below : List Frame} {meth : Method} {c : Code} {b Lx : Nat} {xs : Nat → Int32} {g : gE} {A : Nat → Prop} {Q : State → Prop} (hfl : l.stackTraces = false) (hx : p.tables.exec = Jvm.exec) (hb : c.code = code) (hml : c.maxLocals = 7) (hown : s.vm.findClass RL = some m.cls) (htl : ∀ w ∈ lw_tbl, w.before #[Value.ref b] s = true) (hXs : va_X b Lx xs s s.heap) (hbl : b < s.heap.size) (hbA : ¬ A b) (hA : ∀ q, s.heap.size ≤ q → A q) (hK : gK g s) (hZ : gZ g A s s.heap) (hX : gX s) {s0 ks lt ty lg fa da ch dg wa st m0 qf qu qz qd qx ql qg qb qy qc qe qw qt qr qi ao : Nat} {n i cells slots : Nat} (hi : i + 6 ≤ Lx) (hLx : Lx ≤ 3072) (hn : n < 512) (hce : cells + 2 ≤ 603072) (hsl : slots + 40 ≤ 7219306) {H : Heap} {locs : List Loc} (hLI : LI g s0 ks lt ty lg fa da ch dg wa st m0 qf qu qz qd qx ql qg qb qy qc qe qw qt qr qi ao A n H) (hS : va_S A s.heap H locs) {ls : Array Slot} (hl : lv_has ls 7 [(0, .ref b), (1, .ref s0), (2, .ref m0), (3, .ref ao), (4, .int (nI i))])
    (kk : ∀ (H : Heap) (locs : List Loc), LI g s0 ks lt ty lg fa da ch dg wa st m0 qf qu qz qd qx ql qg qb qy qc qe qw qt qr qi ao A (n + 1) H → va_S A s.heap H locs → ∀ ls : Array Slot, lv_has ls 7 [(0, .ref b), (1, .ref s0), (2, .ref m0), (3, .ref ao), (4, .int (nI i))] → W p l e room_1 s m #[Value.ref b] below meth c H locs (cells + 2) (slots + 40) Q (F0 m 645 ls [])) : W p l e room_1 s m #[Value.ref b] below meth c H locs cells slots Q (F0 m 100 ls []) := by
  have hts : ∀ w ∈ wsL_law, w.before #[Value.ref b] s = true := fun w hw => htl w (wsL_law_in w hw)
  obtain ⟨kn, mn, tn, cc, sp, rk, th, has, fk, fl, ft, ff, fd, fc, fw, fs, kf, ku, fz, fus, fx, fl2, fe, fw2, fs2, fr9, fb9, fo, KL, hP, hD, ⟨hkn, hlen, hKs, hfree, hmn, htn, hsp, hff, hlt, hrk, hr9, hb9⟩⟩ := hLI
  obtain ⟨X, eX⟩ : ∃ z, z = lgE (xs (i + 1)) (xs (i + 2)) := ⟨_, rfl⟩
  obtain ⟨Y, eY⟩ : ∃ z, z = lgE (xs (i + 3)) (xs (i + 4)) := ⟨_, rfl⟩
  by_cases hd : 0 ≤ X.toInt ∧ X.toInt ≤ Y.toInt ∧ Y.toInt ≤ 65535
  · by_cases h15 : kn < 15
    · obtain ⟨hf0, hf1⟩ := hfree kn (Nat.le_refl _) h15
      refine lv_aload_n hx hb dL_law_100 rfl (lv_at hl 1 rfl) ?_
      refine lv_aload_n hx hb dL_law_101 rfl (lv_at hl 0 rfl) ?_
      refine lv_iload hx hb dL_law_102 (lv_at hl 4 rfl) ?_
      refine lv_iconst (v := (nI 1)) hx hb dL_law_104 (by decide) ?_
      refine lv_iadd hx hb dL_law_105 ?_
      refine lv_rei (x' := (nI (i + 1))) (nI_add _ _) ?_
      refine va_sld hx hb hXs hbl hbA hS (vp_in_nI (by omega) (by omega)) dL_law_106 ?_
      refine lv_rei (x' := (xs (i + 1))) (congrArg xs (nI_clamp (by omega))) ?_
      refine lv_i2l hx hb dL_law_107 rfl ?_
      refine lv_bipush (v := (nI 32)) hx hb dL_law_108 (by decide) ?_
      refine lv_lshl hx hb dL_law_110 rfl ?_
      refine lv_aload_n hx hb dL_law_111 rfl (lv_at hl 0 rfl) ?_
      refine lv_iload hx hb dL_law_112 (lv_at hl 4 rfl) ?_
      refine lv_iconst (v := (nI 2)) hx hb dL_law_114 (by decide) ?_
      refine lv_iadd hx hb dL_law_115 ?_
      refine lv_rei (x' := (nI (i + 2))) (nI_add _ _) ?_
      refine va_sld hx hb hXs hbl hbA hS (vp_in_nI (by omega) (by omega)) dL_law_116 ?_
      refine lv_rei (x' := (xs (i + 2))) (congrArg xs (nI_clamp (by omega))) ?_
      refine lv_i2l hx hb dL_law_117 rfl ?_
      refine lv_ldc2 (v := (lN 4294967295)) hx hb hown (hts (.constantLong RL 19 (lN 4294967295)) (by decide +kernel)) dL_law_118 ?_
      refine lv_land hx hb dL_law_121 ?_
      refine lv_lor hx hb dL_law_122 ?_
      refine lv_rel (x' := X) (eX.symm) ?_
      refine lv_aload_n hx hb dL_law_123 rfl (lv_at hl 0 rfl) ?_
      refine lv_iload hx hb dL_law_124 (lv_at hl 4 rfl) ?_
      refine lv_iconst (v := (nI 3)) hx hb dL_law_126 (by decide) ?_
      refine lv_iadd hx hb dL_law_127 ?_
      refine lv_rei (x' := (nI (i + 3))) (nI_add _ _) ?_
      refine va_sld hx hb hXs hbl hbA hS (vp_in_nI (by omega) (by omega)) dL_law_128 ?_
      refine lv_rei (x' := (xs (i + 3))) (congrArg xs (nI_clamp (by omega))) ?_
      refine lv_i2l hx hb dL_law_129 rfl ?_
      refine lv_bipush (v := (nI 32)) hx hb dL_law_130 (by decide) ?_
      refine lv_lshl hx hb dL_law_132 rfl ?_
      refine lv_aload_n hx hb dL_law_133 rfl (lv_at hl 0 rfl) ?_
      refine lv_iload hx hb dL_law_134 (lv_at hl 4 rfl) ?_
      refine lv_iconst (v := (nI 4)) hx hb dL_law_136 (by decide) ?_
      refine lv_iadd hx hb dL_law_137 ?_
      refine lv_rei (x' := (nI (i + 4))) (nI_add _ _) ?_
      refine va_sld hx hb hXs hbl hbA hS (vp_in_nI (by omega) (by omega)) dL_law_138 ?_
      refine lv_rei (x' := (xs (i + 4))) (congrArg xs (nI_clamp (by omega))) ?_
      refine lv_i2l hx hb dL_law_139 rfl ?_
      refine lv_ldc2 (v := (lN 4294967295)) hx hb hown (hts (.constantLong RL 19 (lN 4294967295)) (by decide +kernel)) dL_law_140 ?_
      refine lv_land hx hb dL_law_143 ?_
      refine lv_lor hx hb dL_law_144 ?_
      refine lv_rel (x' := Y) (eY.symm) ?_
      refine wVi (rest := []) ⟨hx, hb, hml, hown, hts⟩ [.long X, .long Y] [0, 1] (c_X4_key_yes l g H.size (s0 := s0) (ks := ks) (lt := lt) (ty := ty) (lg := lg) (dg := dg) (kn := kn) (mn := mn) (tn := tn) (cc := cc) (sp := sp) (fk := fk) (x := X) (y := Y) hd h15) (cwV 2 hts gL_law_X4_key rfl rfl rfl (by decide +kernel) ⟨Nat.le_of_ble_eq_true rfl, Nat.le_of_ble_eq_true rfl⟩) hK hZ hS hP hD hA rfl (by decide) (fun _ => Nat.le_of_ble_eq_true rfl) (fun _ => rfl) (va_recv hK.1 hP (ci := 5) (q0 := 0) rfl rfl) rfl hl.1 rfl (Nat.le_of_ble_eq_true rfl) dL_law_145 ⟨show cells + 2 ≤ 603072 by omega, show slots + 37 ≤ 7219306 by omega⟩ (fun r_282 u H locs hr_282 hP hD hS => ?_)
      obtain ⟨kq, kqb⟩ := u
      have hP : va_P g.1 vwCl ((s0, .inr (5, [.ref ks, .int (nI (kn + 1)), .int (nI mn), .ref lt, .ref ty, .int (nI tn), .int cc, .int sp, .ref lg, .ref dg])) :: (ks, .inl (g.2.1 4, 15, .inr (.inr (.inr (.inr (va_up fk kn (some (kq, kqb).1))))))) :: (lt, .inl (g.2.1 0, 16, .inl fl)) :: (ty, .inl (g.2.1 0, 40, .inl ft)) :: (lg, .inr (4, [.ref fa, .ref da, .ref ch])) :: (fa, .inl (g.2.1 1, 16384, .inl ff)) :: (da, .inl (g.2.1 0, 16384, .inl fd)) :: (ch, .inl (g.2.1 0, 16384, .inl fc)) :: (dg, .inr (2, [.ref wa, .ref st, .int rk])) :: (wa, .inl (g.2.1 0, 64, .inl fw)) :: (st, .inl (g.2.1 0, 8, .inl fs)) :: (m0, .inr (6, [.int th, .int (nI kn), .ref qf, .ref qu, .ref qz, .ref qd, .ref qx, .int (nI mn), .int has, .ref ql, .int (nI tn), .ref qg, .int cc, .ref qb, .ref qy, .ref qc, .int sp, .int rk, .ref qe, .ref qw, .ref qt, .ref qr, .ref qi])) :: (qf, .inl (g.2.1 0, 15, .inl kf)) :: (qu, .inl (g.2.1 0, 15, .inl ku)) :: (qz, .inl (g.2.1 0, 15, .inl fz)) :: (qd, .inl (g.2.1 2, 15, .inl fus)) :: (qx, .inl (g.2.1 1, 480, .inl fx)) :: (ql, .inl (g.2.1 0, 16, .inl fl2)) :: (qg, .inl (g.2.1 0, 40, .inl ft)) :: (qb, .inl (g.2.1 1, 16384, .inl ff)) :: (qy, .inl (g.2.1 0, 16384, .inl fd)) :: (qc, .inl (g.2.1 0, 16384, .inl fc)) :: (qe, .inl (g.2.1 1, 32, .inl fe)) :: (qw, .inl (g.2.1 0, 64, .inl fw2)) :: (qt, .inl (g.2.1 0, 8, .inl fs2)) :: (qr, .inl (g.2.1 0, 64, .inl fr9)) :: (qi, .inl (g.2.1 0, 8, .inl fb9)) :: (ao, .inl (g.2.1 3, 1, .inr (.inl fo))) :: kyW g (KL ++ [(kq, kqb, X.toInt32, Y.toInt32, 0, 0, fun _ => 0)])) H := (by rw [← kyW_p KL kq kqb 0 X.toInt32 Y.toInt32 0 (fun _ => 0)]; exact hP)
      have hD : va_D A ((s0, .inr (5, [.ref ks, .int (nI (kn + 1)), .int (nI mn), .ref lt, .ref ty, .int (nI tn), .int cc, .int sp, .ref lg, .ref dg])) :: (ks, .inl (g.2.1 4, 15, .inr (.inr (.inr (.inr (va_up fk kn (some (kq, kqb).1))))))) :: (lt, .inl (g.2.1 0, 16, .inl fl)) :: (ty, .inl (g.2.1 0, 40, .inl ft)) :: (lg, .inr (4, [.ref fa, .ref da, .ref ch])) :: (fa, .inl (g.2.1 1, 16384, .inl ff)) :: (da, .inl (g.2.1 0, 16384, .inl fd)) :: (ch, .inl (g.2.1 0, 16384, .inl fc)) :: (dg, .inr (2, [.ref wa, .ref st, .int rk])) :: (wa, .inl (g.2.1 0, 64, .inl fw)) :: (st, .inl (g.2.1 0, 8, .inl fs)) :: (m0, .inr (6, [.int th, .int (nI kn), .ref qf, .ref qu, .ref qz, .ref qd, .ref qx, .int (nI mn), .int has, .ref ql, .int (nI tn), .ref qg, .int cc, .ref qb, .ref qy, .ref qc, .int sp, .int rk, .ref qe, .ref qw, .ref qt, .ref qr, .ref qi])) :: (qf, .inl (g.2.1 0, 15, .inl kf)) :: (qu, .inl (g.2.1 0, 15, .inl ku)) :: (qz, .inl (g.2.1 0, 15, .inl fz)) :: (qd, .inl (g.2.1 2, 15, .inl fus)) :: (qx, .inl (g.2.1 1, 480, .inl fx)) :: (ql, .inl (g.2.1 0, 16, .inl fl2)) :: (qg, .inl (g.2.1 0, 40, .inl ft)) :: (qb, .inl (g.2.1 1, 16384, .inl ff)) :: (qy, .inl (g.2.1 0, 16384, .inl fd)) :: (qc, .inl (g.2.1 0, 16384, .inl fc)) :: (qe, .inl (g.2.1 1, 32, .inl fe)) :: (qw, .inl (g.2.1 0, 64, .inl fw2)) :: (qt, .inl (g.2.1 0, 8, .inl fs2)) :: (qr, .inl (g.2.1 0, 64, .inl fr9)) :: (qi, .inl (g.2.1 0, 8, .inl fb9)) :: (ao, .inl (g.2.1 3, 1, .inr (.inl fo))) :: kyW g (KL ++ [(kq, kqb, X.toInt32, Y.toInt32, 0, 0, fun _ => 0)])) := (by rw [← kyW_p KL kq kqb 0 X.toInt32 Y.toInt32 0 (fun _ => 0)]; exact hD)
      refine lv_rei (x' := (nI kn)) (hr_282) ?_
      refine lv_aload_n hx hb dL_law_148 rfl (lv_at hl 2 rfl) ?_
      refine lv_aload_n hx hb dL_law_149 rfl (lv_at hl 0 rfl) ?_
      refine lv_iload hx hb dL_law_150 (lv_at hl 4 rfl) ?_
      refine lv_iconst (v := (nI 1)) hx hb dL_law_152 (by decide) ?_
      refine lv_iadd hx hb dL_law_153 ?_
      refine lv_rei (x' := (nI (i + 1))) (nI_add _ _) ?_
      refine va_sld hx hb hXs hbl hbA hS (vp_in_nI (by omega) (by omega)) dL_law_154 ?_
      refine lv_rei (x' := (xs (i + 1))) (congrArg xs (nI_clamp (by omega))) ?_
      refine lv_i2l hx hb dL_law_155 rfl ?_
      refine lv_bipush (v := (nI 32)) hx hb dL_law_156 (by decide) ?_
      refine lv_lshl hx hb dL_law_158 rfl ?_
      refine lv_aload_n hx hb dL_law_159 rfl (lv_at hl 0 rfl) ?_
      refine lv_iload hx hb dL_law_160 (lv_at hl 4 rfl) ?_
      refine lv_iconst (v := (nI 2)) hx hb dL_law_162 (by decide) ?_
      refine lv_iadd hx hb dL_law_163 ?_
      refine lv_rei (x' := (nI (i + 2))) (nI_add _ _) ?_
      refine va_sld hx hb hXs hbl hbA hS (vp_in_nI (by omega) (by omega)) dL_law_164 ?_
      refine lv_rei (x' := (xs (i + 2))) (congrArg xs (nI_clamp (by omega))) ?_
      refine lv_i2l hx hb dL_law_165 rfl ?_
      refine lv_ldc2 (v := (lN 4294967295)) hx hb hown (hts (.constantLong RL 19 (lN 4294967295)) (by decide +kernel)) dL_law_166 ?_
      refine lv_land hx hb dL_law_169 ?_
      refine lv_lor hx hb dL_law_170 ?_
      refine lv_rel (x' := X) (eX.symm) ?_
      refine lv_aload_n hx hb dL_law_171 rfl (lv_at hl 0 rfl) ?_
      refine lv_iload hx hb dL_law_172 (lv_at hl 4 rfl) ?_
      refine lv_iconst (v := (nI 3)) hx hb dL_law_174 (by decide) ?_
      refine lv_iadd hx hb dL_law_175 ?_
      refine lv_rei (x' := (nI (i + 3))) (nI_add _ _) ?_
      refine va_sld hx hb hXs hbl hbA hS (vp_in_nI (by omega) (by omega)) dL_law_176 ?_
      refine lv_rei (x' := (xs (i + 3))) (congrArg xs (nI_clamp (by omega))) ?_
      refine lv_i2l hx hb dL_law_177 rfl ?_
      refine lv_bipush (v := (nI 32)) hx hb dL_law_178 (by decide) ?_
      refine lv_lshl hx hb dL_law_180 rfl ?_
      refine lv_aload_n hx hb dL_law_181 rfl (lv_at hl 0 rfl) ?_
      refine lv_iload hx hb dL_law_182 (lv_at hl 4 rfl) ?_
      refine lv_iconst (v := (nI 4)) hx hb dL_law_184 (by decide) ?_
      refine lv_iadd hx hb dL_law_185 ?_
      refine lv_rei (x' := (nI (i + 4))) (nI_add _ _) ?_
      refine va_sld hx hb hXs hbl hbA hS (vp_in_nI (by omega) (by omega)) dL_law_186 ?_
      refine lv_rei (x' := (xs (i + 4))) (congrArg xs (nI_clamp (by omega))) ?_
      refine lv_i2l hx hb dL_law_187 rfl ?_
      refine lv_ldc2 (v := (lN 4294967295)) hx hb hown (hts (.constantLong RL 19 (lN 4294967295)) (by decide +kernel)) dL_law_188 ?_
      refine lv_land hx hb dL_law_191 ?_
      refine lv_lor hx hb dL_law_192 ?_
      refine lv_rel (x' := Y) (eY.symm) ?_
      refine wVi (rest := [.int (nI kn)]) ⟨hx, hb, hml, hown, hts⟩ [.long X, .long Y] [11, 12, 13] (c_X5_key_yes l g H.size (m0 := m0) (kn := kn) (mn := mn) (tn := tn) (qf := qf) (qu := qu) (qz := qz) (qd := qd) (qx := qx) (ql := ql) (qg := qg) (qb := qb) (qy := qy) (qc := qc) (qe := qe) (qw := qw) (qt := qt) (qr := qr) (qi := qi) (th := th) (has := has) (cc := cc) (sp := sp) (rk := rk) (kf := kf) (ku := ku) (x := X) (y := Y) hd h15) (cwV 2 hts gL_law_X5_key rfl rfl rfl (by decide +kernel) ⟨Nat.le_of_ble_eq_true rfl, Nat.le_of_ble_eq_true rfl⟩) hK hZ hS hP hD hA rfl (by decide) (fun _ => Nat.le_of_ble_eq_true rfl) (fun _ => rfl) (va_recv hK.1 hP (ci := 6) (q0 := 11) rfl rfl) rfl hl.1 rfl (Nat.le_of_ble_eq_true rfl) dL_law_193 ⟨show cells + 2 + 0 ≤ 603072 by omega, show slots + 37 + 0 ≤ 7219306 by omega⟩ (fun r_283 u H locs hr_283 hP hD hS => ?_)
      have hP : va_P g.1 vwCl ((s0, .inr (5, [.ref ks, .int (nI (kn + 1)), .int (nI mn), .ref lt, .ref ty, .int (nI tn), .int cc, .int sp, .ref lg, .ref dg])) :: (ks, .inl (g.2.1 4, 15, .inr (.inr (.inr (.inr (va_up fk kn (some (kq, kqb).1))))))) :: (lt, .inl (g.2.1 0, 16, .inl fl)) :: (ty, .inl (g.2.1 0, 40, .inl ft)) :: (lg, .inr (4, [.ref fa, .ref da, .ref ch])) :: (fa, .inl (g.2.1 1, 16384, .inl ff)) :: (da, .inl (g.2.1 0, 16384, .inl fd)) :: (ch, .inl (g.2.1 0, 16384, .inl fc)) :: (dg, .inr (2, [.ref wa, .ref st, .int rk])) :: (wa, .inl (g.2.1 0, 64, .inl fw)) :: (st, .inl (g.2.1 0, 8, .inl fs)) :: (m0, .inr (6, [.int (nI 0), .int (nI (kn + 1)), .ref qf, .ref qu, .ref qz, .ref qd, .ref qx, .int (nI mn), .int has, .ref ql, .int (nI tn), .ref qg, .int cc, .ref qb, .ref qy, .ref qc, .int sp, .int rk, .ref qe, .ref qw, .ref qt, .ref qr, .ref qi])) :: (qf, .inl (g.2.1 0, 15, .inl (upd kf kn (X.toInt32)))) :: (qu, .inl (g.2.1 0, 15, .inl (upd ku kn (Y.toInt32)))) :: (qz, .inl (g.2.1 0, 15, .inl fz)) :: (qd, .inl (g.2.1 2, 15, .inl fus)) :: (qx, .inl (g.2.1 1, 480, .inl fx)) :: (ql, .inl (g.2.1 0, 16, .inl fl2)) :: (qg, .inl (g.2.1 0, 40, .inl ft)) :: (qb, .inl (g.2.1 1, 16384, .inl ff)) :: (qy, .inl (g.2.1 0, 16384, .inl fd)) :: (qc, .inl (g.2.1 0, 16384, .inl fc)) :: (qe, .inl (g.2.1 1, 32, .inl fe)) :: (qw, .inl (g.2.1 0, 64, .inl fw2)) :: (qt, .inl (g.2.1 0, 8, .inl fs2)) :: (qr, .inl (g.2.1 0, 64, .inl fr9)) :: (qi, .inl (g.2.1 0, 8, .inl fb9)) :: (ao, .inl (g.2.1 3, 1, .inr (.inl fo))) :: kyW g (KL ++ [(kq, kqb, X.toInt32, Y.toInt32, 0, 0, fun _ => 0)])) H := hP
      have hD : va_D A ((s0, .inr (5, [.ref ks, .int (nI (kn + 1)), .int (nI mn), .ref lt, .ref ty, .int (nI tn), .int cc, .int sp, .ref lg, .ref dg])) :: (ks, .inl (g.2.1 4, 15, .inr (.inr (.inr (.inr (va_up fk kn (some (kq, kqb).1))))))) :: (lt, .inl (g.2.1 0, 16, .inl fl)) :: (ty, .inl (g.2.1 0, 40, .inl ft)) :: (lg, .inr (4, [.ref fa, .ref da, .ref ch])) :: (fa, .inl (g.2.1 1, 16384, .inl ff)) :: (da, .inl (g.2.1 0, 16384, .inl fd)) :: (ch, .inl (g.2.1 0, 16384, .inl fc)) :: (dg, .inr (2, [.ref wa, .ref st, .int rk])) :: (wa, .inl (g.2.1 0, 64, .inl fw)) :: (st, .inl (g.2.1 0, 8, .inl fs)) :: (m0, .inr (6, [.int (nI 0), .int (nI (kn + 1)), .ref qf, .ref qu, .ref qz, .ref qd, .ref qx, .int (nI mn), .int has, .ref ql, .int (nI tn), .ref qg, .int cc, .ref qb, .ref qy, .ref qc, .int sp, .int rk, .ref qe, .ref qw, .ref qt, .ref qr, .ref qi])) :: (qf, .inl (g.2.1 0, 15, .inl (upd kf kn (X.toInt32)))) :: (qu, .inl (g.2.1 0, 15, .inl (upd ku kn (Y.toInt32)))) :: (qz, .inl (g.2.1 0, 15, .inl fz)) :: (qd, .inl (g.2.1 2, 15, .inl fus)) :: (qx, .inl (g.2.1 1, 480, .inl fx)) :: (ql, .inl (g.2.1 0, 16, .inl fl2)) :: (qg, .inl (g.2.1 0, 40, .inl ft)) :: (qb, .inl (g.2.1 1, 16384, .inl ff)) :: (qy, .inl (g.2.1 0, 16384, .inl fd)) :: (qc, .inl (g.2.1 0, 16384, .inl fc)) :: (qe, .inl (g.2.1 1, 32, .inl fe)) :: (qw, .inl (g.2.1 0, 64, .inl fw2)) :: (qt, .inl (g.2.1 0, 8, .inl fs2)) :: (qr, .inl (g.2.1 0, 64, .inl fr9)) :: (qi, .inl (g.2.1 0, 8, .inl fb9)) :: (ao, .inl (g.2.1 3, 1, .inr (.inl fo))) :: kyW g (KL ++ [(kq, kqb, X.toInt32, Y.toInt32, 0, 0, fun _ => 0)])) := hD
      refine lv_rei (x' := (nI kn)) (hr_283) ?_
      refine lv_icmp_eq (tgt := 645) hx hb dL_law_196 (by decide) (fun _ => ?_) (fun c9 => absurd (rfl) c9)
      refine W.widen (k := cells + 2) (n := slots + 40) (by omega) (by omega) ?_
      exact kk _ _ ⟨kn + 1, mn, tn, cc, sp, rk, (nI 0), has, va_up fk kn (some kq), fl, ft, ff, fd, fc, fw, fs, upd kf kn X.toInt32, upd ku kn Y.toInt32, fz, fus, fx, fl2, fe, fw2, fs2, fr9, fb9, fo, KL ++ [(kq, kqb, X.toInt32, Y.toInt32, 0, 0, fun _ => 0)], hP, hD, ⟨by omega, by rw [List.length_append, hlen]; rfl, hKs.push hlen hf0 hf1 kq kqb _ _, fun j h1 h2 => hfree j (by omega) h2, by omega, htn, hsp, hff, hlt, hrk, hr9, hb9⟩⟩ hS ls (lv_sub hl [0, 1, 2, 3, 4] rfl)
    · have he15 : kn = 15 := by omega
      refine lv_aload_n hx hb dL_law_100 rfl (lv_at hl 1 rfl) ?_
      refine lv_aload_n hx hb dL_law_101 rfl (lv_at hl 0 rfl) ?_
      refine lv_iload hx hb dL_law_102 (lv_at hl 4 rfl) ?_
      refine lv_iconst (v := (nI 1)) hx hb dL_law_104 (by decide) ?_
      refine lv_iadd hx hb dL_law_105 ?_
      refine lv_rei (x' := (nI (i + 1))) (nI_add _ _) ?_
      refine va_sld hx hb hXs hbl hbA hS (vp_in_nI (by omega) (by omega)) dL_law_106 ?_
      refine lv_rei (x' := (xs (i + 1))) (congrArg xs (nI_clamp (by omega))) ?_
      refine lv_i2l hx hb dL_law_107 rfl ?_
      refine lv_bipush (v := (nI 32)) hx hb dL_law_108 (by decide) ?_
      refine lv_lshl hx hb dL_law_110 rfl ?_
      refine lv_aload_n hx hb dL_law_111 rfl (lv_at hl 0 rfl) ?_
      refine lv_iload hx hb dL_law_112 (lv_at hl 4 rfl) ?_
      refine lv_iconst (v := (nI 2)) hx hb dL_law_114 (by decide) ?_
      refine lv_iadd hx hb dL_law_115 ?_
      refine lv_rei (x' := (nI (i + 2))) (nI_add _ _) ?_
      refine va_sld hx hb hXs hbl hbA hS (vp_in_nI (by omega) (by omega)) dL_law_116 ?_
      refine lv_rei (x' := (xs (i + 2))) (congrArg xs (nI_clamp (by omega))) ?_
      refine lv_i2l hx hb dL_law_117 rfl ?_
      refine lv_ldc2 (v := (lN 4294967295)) hx hb hown (hts (.constantLong RL 19 (lN 4294967295)) (by decide +kernel)) dL_law_118 ?_
      refine lv_land hx hb dL_law_121 ?_
      refine lv_lor hx hb dL_law_122 ?_
      refine lv_rel (x' := X) (eX.symm) ?_
      refine lv_aload_n hx hb dL_law_123 rfl (lv_at hl 0 rfl) ?_
      refine lv_iload hx hb dL_law_124 (lv_at hl 4 rfl) ?_
      refine lv_iconst (v := (nI 3)) hx hb dL_law_126 (by decide) ?_
      refine lv_iadd hx hb dL_law_127 ?_
      refine lv_rei (x' := (nI (i + 3))) (nI_add _ _) ?_
      refine va_sld hx hb hXs hbl hbA hS (vp_in_nI (by omega) (by omega)) dL_law_128 ?_
      refine lv_rei (x' := (xs (i + 3))) (congrArg xs (nI_clamp (by omega))) ?_
      refine lv_i2l hx hb dL_law_129 rfl ?_
      refine lv_bipush (v := (nI 32)) hx hb dL_law_130 (by decide) ?_
      refine lv_lshl hx hb dL_law_132 rfl ?_
      refine lv_aload_n hx hb dL_law_133 rfl (lv_at hl 0 rfl) ?_
      refine lv_iload hx hb dL_law_134 (lv_at hl 4 rfl) ?_
      refine lv_iconst (v := (nI 4)) hx hb dL_law_136 (by decide) ?_
      refine lv_iadd hx hb dL_law_137 ?_
      refine lv_rei (x' := (nI (i + 4))) (nI_add _ _) ?_
      refine va_sld hx hb hXs hbl hbA hS (vp_in_nI (by omega) (by omega)) dL_law_138 ?_
      refine lv_rei (x' := (xs (i + 4))) (congrArg xs (nI_clamp (by omega))) ?_
      refine lv_i2l hx hb dL_law_139 rfl ?_
      refine lv_ldc2 (v := (lN 4294967295)) hx hb hown (hts (.constantLong RL 19 (lN 4294967295)) (by decide +kernel)) dL_law_140 ?_
      refine lv_land hx hb dL_law_143 ?_
      refine lv_lor hx hb dL_law_144 ?_
      refine lv_rel (x' := Y) (eY.symm) ?_
      refine cVi (rest := []) ⟨hx, hb, hml, hown, hts⟩ [.long X, .long Y] (c_X4_key_room l g (s0 := s0) (ks := ks) (lt := lt) (ty := ty) (lg := lg) (dg := dg) (kn := kn) (mn := mn) (tn := tn) (cc := cc) (sp := sp) (x := X) (y := Y) hd (by omega) (by omega)) (cwV 2 hts gL_law_X4_key rfl rfl rfl (by decide +kernel) ⟨Nat.le_of_ble_eq_true rfl, Nat.le_of_ble_eq_true rfl⟩) hK hZ hS (subP hP [0] rfl) (va_recv hK.1 hP (ci := 5) (q0 := 0) rfl rfl) rfl hl.1 rfl (Nat.le_of_ble_eq_true rfl) dL_law_145 ⟨show cells ≤ 603072 by omega, show slots ≤ 7219306 by omega⟩ (fun r_284 hr_284 => ?_)
      refine lv_rei (x' := (-24)) (hr_284) ?_
      refine lv_aload_n hx hb dL_law_148 rfl (lv_at hl 2 rfl) ?_
      refine lv_aload_n hx hb dL_law_149 rfl (lv_at hl 0 rfl) ?_
      refine lv_iload hx hb dL_law_150 (lv_at hl 4 rfl) ?_
      refine lv_iconst (v := (nI 1)) hx hb dL_law_152 (by decide) ?_
      refine lv_iadd hx hb dL_law_153 ?_
      refine lv_rei (x' := (nI (i + 1))) (nI_add _ _) ?_
      refine va_sld hx hb hXs hbl hbA hS (vp_in_nI (by omega) (by omega)) dL_law_154 ?_
      refine lv_rei (x' := (xs (i + 1))) (congrArg xs (nI_clamp (by omega))) ?_
      refine lv_i2l hx hb dL_law_155 rfl ?_
      refine lv_bipush (v := (nI 32)) hx hb dL_law_156 (by decide) ?_
      refine lv_lshl hx hb dL_law_158 rfl ?_
      refine lv_aload_n hx hb dL_law_159 rfl (lv_at hl 0 rfl) ?_
      refine lv_iload hx hb dL_law_160 (lv_at hl 4 rfl) ?_
      refine lv_iconst (v := (nI 2)) hx hb dL_law_162 (by decide) ?_
      refine lv_iadd hx hb dL_law_163 ?_
      refine lv_rei (x' := (nI (i + 2))) (nI_add _ _) ?_
      refine va_sld hx hb hXs hbl hbA hS (vp_in_nI (by omega) (by omega)) dL_law_164 ?_
      refine lv_rei (x' := (xs (i + 2))) (congrArg xs (nI_clamp (by omega))) ?_
      refine lv_i2l hx hb dL_law_165 rfl ?_
      refine lv_ldc2 (v := (lN 4294967295)) hx hb hown (hts (.constantLong RL 19 (lN 4294967295)) (by decide +kernel)) dL_law_166 ?_
      refine lv_land hx hb dL_law_169 ?_
      refine lv_lor hx hb dL_law_170 ?_
      refine lv_rel (x' := X) (eX.symm) ?_
      refine lv_aload_n hx hb dL_law_171 rfl (lv_at hl 0 rfl) ?_
      refine lv_iload hx hb dL_law_172 (lv_at hl 4 rfl) ?_
      refine lv_iconst (v := (nI 3)) hx hb dL_law_174 (by decide) ?_
      refine lv_iadd hx hb dL_law_175 ?_
      refine lv_rei (x' := (nI (i + 3))) (nI_add _ _) ?_
      refine va_sld hx hb hXs hbl hbA hS (vp_in_nI (by omega) (by omega)) dL_law_176 ?_
      refine lv_rei (x' := (xs (i + 3))) (congrArg xs (nI_clamp (by omega))) ?_
      refine lv_i2l hx hb dL_law_177 rfl ?_
      refine lv_bipush (v := (nI 32)) hx hb dL_law_178 (by decide) ?_
      refine lv_lshl hx hb dL_law_180 rfl ?_
      refine lv_aload_n hx hb dL_law_181 rfl (lv_at hl 0 rfl) ?_
      refine lv_iload hx hb dL_law_182 (lv_at hl 4 rfl) ?_
      refine lv_iconst (v := (nI 4)) hx hb dL_law_184 (by decide) ?_
      refine lv_iadd hx hb dL_law_185 ?_
      refine lv_rei (x' := (nI (i + 4))) (nI_add _ _) ?_
      refine va_sld hx hb hXs hbl hbA hS (vp_in_nI (by omega) (by omega)) dL_law_186 ?_
      refine lv_rei (x' := (xs (i + 4))) (congrArg xs (nI_clamp (by omega))) ?_
      refine lv_i2l hx hb dL_law_187 rfl ?_
      refine lv_ldc2 (v := (lN 4294967295)) hx hb hown (hts (.constantLong RL 19 (lN 4294967295)) (by decide +kernel)) dL_law_188 ?_
      refine lv_land hx hb dL_law_191 ?_
      refine lv_lor hx hb dL_law_192 ?_
      refine lv_rel (x' := Y) (eY.symm) ?_
      refine wVi (rest := [.int (-24)]) ⟨hx, hb, hml, hown, hts⟩ [.long X, .long Y] [11] (c_X5_key_room l g H.size (m0 := m0) (kn := kn) (mn := mn) (tn := tn) (qf := qf) (qu := qu) (qz := qz) (qd := qd) (qx := qx) (ql := ql) (qg := qg) (qb := qb) (qy := qy) (qc := qc) (qe := qe) (qw := qw) (qt := qt) (qr := qr) (qi := qi) (th := th) (has := has) (cc := cc) (sp := sp) (rk := rk) (x := X) (y := Y) hd he15) (cwV 2 hts gL_law_X5_key rfl rfl rfl (by decide +kernel) ⟨Nat.le_of_ble_eq_true rfl, Nat.le_of_ble_eq_true rfl⟩) hK hZ hS hP hD hA rfl (by decide) (fun _ => Nat.le_of_ble_eq_true rfl) (fun _ => rfl) (va_recv hK.1 hP (ci := 6) (q0 := 11) rfl rfl) rfl hl.1 rfl (Nat.le_of_ble_eq_true rfl) dL_law_193 ⟨show cells + 0 ≤ 603072 by omega, show slots + 0 ≤ 7219306 by omega⟩ (fun r_285 u H locs hr_285 hP hD hS => ?_)
      have hP : va_P g.1 vwCl ((s0, .inr (5, [.ref ks, .int (nI kn), .int (nI mn), .ref lt, .ref ty, .int (nI tn), .int cc, .int sp, .ref lg, .ref dg])) :: (ks, .inl (g.2.1 4, 15, .inr (.inr (.inr (.inr fk))))) :: (lt, .inl (g.2.1 0, 16, .inl fl)) :: (ty, .inl (g.2.1 0, 40, .inl ft)) :: (lg, .inr (4, [.ref fa, .ref da, .ref ch])) :: (fa, .inl (g.2.1 1, 16384, .inl ff)) :: (da, .inl (g.2.1 0, 16384, .inl fd)) :: (ch, .inl (g.2.1 0, 16384, .inl fc)) :: (dg, .inr (2, [.ref wa, .ref st, .int rk])) :: (wa, .inl (g.2.1 0, 64, .inl fw)) :: (st, .inl (g.2.1 0, 8, .inl fs)) :: (m0, .inr (6, [.int (nI 0), .int (nI kn), .ref qf, .ref qu, .ref qz, .ref qd, .ref qx, .int (nI mn), .int has, .ref ql, .int (nI tn), .ref qg, .int cc, .ref qb, .ref qy, .ref qc, .int sp, .int rk, .ref qe, .ref qw, .ref qt, .ref qr, .ref qi])) :: (qf, .inl (g.2.1 0, 15, .inl kf)) :: (qu, .inl (g.2.1 0, 15, .inl ku)) :: (qz, .inl (g.2.1 0, 15, .inl fz)) :: (qd, .inl (g.2.1 2, 15, .inl fus)) :: (qx, .inl (g.2.1 1, 480, .inl fx)) :: (ql, .inl (g.2.1 0, 16, .inl fl2)) :: (qg, .inl (g.2.1 0, 40, .inl ft)) :: (qb, .inl (g.2.1 1, 16384, .inl ff)) :: (qy, .inl (g.2.1 0, 16384, .inl fd)) :: (qc, .inl (g.2.1 0, 16384, .inl fc)) :: (qe, .inl (g.2.1 1, 32, .inl fe)) :: (qw, .inl (g.2.1 0, 64, .inl fw2)) :: (qt, .inl (g.2.1 0, 8, .inl fs2)) :: (qr, .inl (g.2.1 0, 64, .inl fr9)) :: (qi, .inl (g.2.1 0, 8, .inl fb9)) :: (ao, .inl (g.2.1 3, 1, .inr (.inl fo))) :: kyW g KL) H := hP
      have hD : va_D A ((s0, .inr (5, [.ref ks, .int (nI kn), .int (nI mn), .ref lt, .ref ty, .int (nI tn), .int cc, .int sp, .ref lg, .ref dg])) :: (ks, .inl (g.2.1 4, 15, .inr (.inr (.inr (.inr fk))))) :: (lt, .inl (g.2.1 0, 16, .inl fl)) :: (ty, .inl (g.2.1 0, 40, .inl ft)) :: (lg, .inr (4, [.ref fa, .ref da, .ref ch])) :: (fa, .inl (g.2.1 1, 16384, .inl ff)) :: (da, .inl (g.2.1 0, 16384, .inl fd)) :: (ch, .inl (g.2.1 0, 16384, .inl fc)) :: (dg, .inr (2, [.ref wa, .ref st, .int rk])) :: (wa, .inl (g.2.1 0, 64, .inl fw)) :: (st, .inl (g.2.1 0, 8, .inl fs)) :: (m0, .inr (6, [.int (nI 0), .int (nI kn), .ref qf, .ref qu, .ref qz, .ref qd, .ref qx, .int (nI mn), .int has, .ref ql, .int (nI tn), .ref qg, .int cc, .ref qb, .ref qy, .ref qc, .int sp, .int rk, .ref qe, .ref qw, .ref qt, .ref qr, .ref qi])) :: (qf, .inl (g.2.1 0, 15, .inl kf)) :: (qu, .inl (g.2.1 0, 15, .inl ku)) :: (qz, .inl (g.2.1 0, 15, .inl fz)) :: (qd, .inl (g.2.1 2, 15, .inl fus)) :: (qx, .inl (g.2.1 1, 480, .inl fx)) :: (ql, .inl (g.2.1 0, 16, .inl fl2)) :: (qg, .inl (g.2.1 0, 40, .inl ft)) :: (qb, .inl (g.2.1 1, 16384, .inl ff)) :: (qy, .inl (g.2.1 0, 16384, .inl fd)) :: (qc, .inl (g.2.1 0, 16384, .inl fc)) :: (qe, .inl (g.2.1 1, 32, .inl fe)) :: (qw, .inl (g.2.1 0, 64, .inl fw2)) :: (qt, .inl (g.2.1 0, 8, .inl fs2)) :: (qr, .inl (g.2.1 0, 64, .inl fr9)) :: (qi, .inl (g.2.1 0, 8, .inl fb9)) :: (ao, .inl (g.2.1 3, 1, .inr (.inl fo))) :: kyW g KL) := hD
      refine lv_rei (x' := (-24)) (hr_285) ?_
      refine lv_icmp_eq (tgt := 645) hx hb dL_law_196 (by decide) (fun _ => ?_) (fun c9 => absurd (rfl) c9)
      refine W.widen (k := cells + 2) (n := slots + 40) (by omega) (by omega) ?_
      exact kk _ _ ⟨kn, mn, tn, cc, sp, rk, (nI 0), has, fk, fl, ft, ff, fd, fc, fw, fs, kf, ku, fz, fus, fx, fl2, fe, fw2, fs2, fr9, fb9, fo, KL, hP, hD, ⟨hkn, hlen, hKs, hfree, by omega, htn, hsp, hff, hlt, hrk, hr9, hb9⟩⟩ hS ls (lv_sub hl [0, 1, 2, 3, 4] rfl)
  · refine lv_aload_n hx hb dL_law_100 rfl (lv_at hl 1 rfl) ?_
    refine lv_aload_n hx hb dL_law_101 rfl (lv_at hl 0 rfl) ?_
    refine lv_iload hx hb dL_law_102 (lv_at hl 4 rfl) ?_
    refine lv_iconst (v := (nI 1)) hx hb dL_law_104 (by decide) ?_
    refine lv_iadd hx hb dL_law_105 ?_
    refine lv_rei (x' := (nI (i + 1))) (nI_add _ _) ?_
    refine va_sld hx hb hXs hbl hbA hS (vp_in_nI (by omega) (by omega)) dL_law_106 ?_
    refine lv_rei (x' := (xs (i + 1))) (congrArg xs (nI_clamp (by omega))) ?_
    refine lv_i2l hx hb dL_law_107 rfl ?_
    refine lv_bipush (v := (nI 32)) hx hb dL_law_108 (by decide) ?_
    refine lv_lshl hx hb dL_law_110 rfl ?_
    refine lv_aload_n hx hb dL_law_111 rfl (lv_at hl 0 rfl) ?_
    refine lv_iload hx hb dL_law_112 (lv_at hl 4 rfl) ?_
    refine lv_iconst (v := (nI 2)) hx hb dL_law_114 (by decide) ?_
    refine lv_iadd hx hb dL_law_115 ?_
    refine lv_rei (x' := (nI (i + 2))) (nI_add _ _) ?_
    refine va_sld hx hb hXs hbl hbA hS (vp_in_nI (by omega) (by omega)) dL_law_116 ?_
    refine lv_rei (x' := (xs (i + 2))) (congrArg xs (nI_clamp (by omega))) ?_
    refine lv_i2l hx hb dL_law_117 rfl ?_
    refine lv_ldc2 (v := (lN 4294967295)) hx hb hown (hts (.constantLong RL 19 (lN 4294967295)) (by decide +kernel)) dL_law_118 ?_
    refine lv_land hx hb dL_law_121 ?_
    refine lv_lor hx hb dL_law_122 ?_
    refine lv_rel (x' := X) (eX.symm) ?_
    refine lv_aload_n hx hb dL_law_123 rfl (lv_at hl 0 rfl) ?_
    refine lv_iload hx hb dL_law_124 (lv_at hl 4 rfl) ?_
    refine lv_iconst (v := (nI 3)) hx hb dL_law_126 (by decide) ?_
    refine lv_iadd hx hb dL_law_127 ?_
    refine lv_rei (x' := (nI (i + 3))) (nI_add _ _) ?_
    refine va_sld hx hb hXs hbl hbA hS (vp_in_nI (by omega) (by omega)) dL_law_128 ?_
    refine lv_rei (x' := (xs (i + 3))) (congrArg xs (nI_clamp (by omega))) ?_
    refine lv_i2l hx hb dL_law_129 rfl ?_
    refine lv_bipush (v := (nI 32)) hx hb dL_law_130 (by decide) ?_
    refine lv_lshl hx hb dL_law_132 rfl ?_
    refine lv_aload_n hx hb dL_law_133 rfl (lv_at hl 0 rfl) ?_
    refine lv_iload hx hb dL_law_134 (lv_at hl 4 rfl) ?_
    refine lv_iconst (v := (nI 4)) hx hb dL_law_136 (by decide) ?_
    refine lv_iadd hx hb dL_law_137 ?_
    refine lv_rei (x' := (nI (i + 4))) (nI_add _ _) ?_
    refine va_sld hx hb hXs hbl hbA hS (vp_in_nI (by omega) (by omega)) dL_law_138 ?_
    refine lv_rei (x' := (xs (i + 4))) (congrArg xs (nI_clamp (by omega))) ?_
    refine lv_i2l hx hb dL_law_139 rfl ?_
    refine lv_ldc2 (v := (lN 4294967295)) hx hb hown (hts (.constantLong RL 19 (lN 4294967295)) (by decide +kernel)) dL_law_140 ?_
    refine lv_land hx hb dL_law_143 ?_
    refine lv_lor hx hb dL_law_144 ?_
    refine lv_rel (x' := Y) (eY.symm) ?_
    refine cVi (rest := []) ⟨hx, hb, hml, hown, hts⟩ [.long X, .long Y] (c_X4_key_dom l g (s0 := s0) (ks := ks) (lt := lt) (ty := ty) (lg := lg) (dg := dg) (kn := kn) (mn := mn) (tn := tn) (cc := cc) (sp := sp) (x := X) (y := Y) hd) (cwV 2 hts gL_law_X4_key rfl rfl rfl (by decide +kernel) ⟨Nat.le_of_ble_eq_true rfl, Nat.le_of_ble_eq_true rfl⟩) hK hZ hS (subP hP [0] rfl) (va_recv hK.1 hP (ci := 5) (q0 := 0) rfl rfl) rfl hl.1 rfl (Nat.le_of_ble_eq_true rfl) dL_law_145 ⟨show cells ≤ 603072 by omega, show slots ≤ 7219306 by omega⟩ (fun r_286 hr_286 => ?_)
    refine lv_rei (x' := (-22)) (hr_286) ?_
    refine lv_aload_n hx hb dL_law_148 rfl (lv_at hl 2 rfl) ?_
    refine lv_aload_n hx hb dL_law_149 rfl (lv_at hl 0 rfl) ?_
    refine lv_iload hx hb dL_law_150 (lv_at hl 4 rfl) ?_
    refine lv_iconst (v := (nI 1)) hx hb dL_law_152 (by decide) ?_
    refine lv_iadd hx hb dL_law_153 ?_
    refine lv_rei (x' := (nI (i + 1))) (nI_add _ _) ?_
    refine va_sld hx hb hXs hbl hbA hS (vp_in_nI (by omega) (by omega)) dL_law_154 ?_
    refine lv_rei (x' := (xs (i + 1))) (congrArg xs (nI_clamp (by omega))) ?_
    refine lv_i2l hx hb dL_law_155 rfl ?_
    refine lv_bipush (v := (nI 32)) hx hb dL_law_156 (by decide) ?_
    refine lv_lshl hx hb dL_law_158 rfl ?_
    refine lv_aload_n hx hb dL_law_159 rfl (lv_at hl 0 rfl) ?_
    refine lv_iload hx hb dL_law_160 (lv_at hl 4 rfl) ?_
    refine lv_iconst (v := (nI 2)) hx hb dL_law_162 (by decide) ?_
    refine lv_iadd hx hb dL_law_163 ?_
    refine lv_rei (x' := (nI (i + 2))) (nI_add _ _) ?_
    refine va_sld hx hb hXs hbl hbA hS (vp_in_nI (by omega) (by omega)) dL_law_164 ?_
    refine lv_rei (x' := (xs (i + 2))) (congrArg xs (nI_clamp (by omega))) ?_
    refine lv_i2l hx hb dL_law_165 rfl ?_
    refine lv_ldc2 (v := (lN 4294967295)) hx hb hown (hts (.constantLong RL 19 (lN 4294967295)) (by decide +kernel)) dL_law_166 ?_
    refine lv_land hx hb dL_law_169 ?_
    refine lv_lor hx hb dL_law_170 ?_
    refine lv_rel (x' := X) (eX.symm) ?_
    refine lv_aload_n hx hb dL_law_171 rfl (lv_at hl 0 rfl) ?_
    refine lv_iload hx hb dL_law_172 (lv_at hl 4 rfl) ?_
    refine lv_iconst (v := (nI 3)) hx hb dL_law_174 (by decide) ?_
    refine lv_iadd hx hb dL_law_175 ?_
    refine lv_rei (x' := (nI (i + 3))) (nI_add _ _) ?_
    refine va_sld hx hb hXs hbl hbA hS (vp_in_nI (by omega) (by omega)) dL_law_176 ?_
    refine lv_rei (x' := (xs (i + 3))) (congrArg xs (nI_clamp (by omega))) ?_
    refine lv_i2l hx hb dL_law_177 rfl ?_
    refine lv_bipush (v := (nI 32)) hx hb dL_law_178 (by decide) ?_
    refine lv_lshl hx hb dL_law_180 rfl ?_
    refine lv_aload_n hx hb dL_law_181 rfl (lv_at hl 0 rfl) ?_
    refine lv_iload hx hb dL_law_182 (lv_at hl 4 rfl) ?_
    refine lv_iconst (v := (nI 4)) hx hb dL_law_184 (by decide) ?_
    refine lv_iadd hx hb dL_law_185 ?_
    refine lv_rei (x' := (nI (i + 4))) (nI_add _ _) ?_
    refine va_sld hx hb hXs hbl hbA hS (vp_in_nI (by omega) (by omega)) dL_law_186 ?_
    refine lv_rei (x' := (xs (i + 4))) (congrArg xs (nI_clamp (by omega))) ?_
    refine lv_i2l hx hb dL_law_187 rfl ?_
    refine lv_ldc2 (v := (lN 4294967295)) hx hb hown (hts (.constantLong RL 19 (lN 4294967295)) (by decide +kernel)) dL_law_188 ?_
    refine lv_land hx hb dL_law_191 ?_
    refine lv_lor hx hb dL_law_192 ?_
    refine lv_rel (x' := Y) (eY.symm) ?_
    refine wVi (rest := [.int (-22)]) ⟨hx, hb, hml, hown, hts⟩ [.long X, .long Y] [11] (c_X5_key_dom l g H.size (m0 := m0) (kn := kn) (mn := mn) (tn := tn) (qf := qf) (qu := qu) (qz := qz) (qd := qd) (qx := qx) (ql := ql) (qg := qg) (qb := qb) (qy := qy) (qc := qc) (qe := qe) (qw := qw) (qt := qt) (qr := qr) (qi := qi) (th := th) (has := has) (cc := cc) (sp := sp) (rk := rk) (x := X) (y := Y) hd) (cwV 2 hts gL_law_X5_key rfl rfl rfl (by decide +kernel) ⟨Nat.le_of_ble_eq_true rfl, Nat.le_of_ble_eq_true rfl⟩) hK hZ hS hP hD hA rfl (by decide) (fun _ => Nat.le_of_ble_eq_true rfl) (fun _ => rfl) (va_recv hK.1 hP (ci := 6) (q0 := 11) rfl rfl) rfl hl.1 rfl (Nat.le_of_ble_eq_true rfl) dL_law_193 ⟨show cells + 0 ≤ 603072 by omega, show slots + 0 ≤ 7219306 by omega⟩ (fun r_287 u H locs hr_287 hP hD hS => ?_)
    have hP : va_P g.1 vwCl ((s0, .inr (5, [.ref ks, .int (nI kn), .int (nI mn), .ref lt, .ref ty, .int (nI tn), .int cc, .int sp, .ref lg, .ref dg])) :: (ks, .inl (g.2.1 4, 15, .inr (.inr (.inr (.inr fk))))) :: (lt, .inl (g.2.1 0, 16, .inl fl)) :: (ty, .inl (g.2.1 0, 40, .inl ft)) :: (lg, .inr (4, [.ref fa, .ref da, .ref ch])) :: (fa, .inl (g.2.1 1, 16384, .inl ff)) :: (da, .inl (g.2.1 0, 16384, .inl fd)) :: (ch, .inl (g.2.1 0, 16384, .inl fc)) :: (dg, .inr (2, [.ref wa, .ref st, .int rk])) :: (wa, .inl (g.2.1 0, 64, .inl fw)) :: (st, .inl (g.2.1 0, 8, .inl fs)) :: (m0, .inr (6, [.int (nI 0), .int (nI kn), .ref qf, .ref qu, .ref qz, .ref qd, .ref qx, .int (nI mn), .int has, .ref ql, .int (nI tn), .ref qg, .int cc, .ref qb, .ref qy, .ref qc, .int sp, .int rk, .ref qe, .ref qw, .ref qt, .ref qr, .ref qi])) :: (qf, .inl (g.2.1 0, 15, .inl kf)) :: (qu, .inl (g.2.1 0, 15, .inl ku)) :: (qz, .inl (g.2.1 0, 15, .inl fz)) :: (qd, .inl (g.2.1 2, 15, .inl fus)) :: (qx, .inl (g.2.1 1, 480, .inl fx)) :: (ql, .inl (g.2.1 0, 16, .inl fl2)) :: (qg, .inl (g.2.1 0, 40, .inl ft)) :: (qb, .inl (g.2.1 1, 16384, .inl ff)) :: (qy, .inl (g.2.1 0, 16384, .inl fd)) :: (qc, .inl (g.2.1 0, 16384, .inl fc)) :: (qe, .inl (g.2.1 1, 32, .inl fe)) :: (qw, .inl (g.2.1 0, 64, .inl fw2)) :: (qt, .inl (g.2.1 0, 8, .inl fs2)) :: (qr, .inl (g.2.1 0, 64, .inl fr9)) :: (qi, .inl (g.2.1 0, 8, .inl fb9)) :: (ao, .inl (g.2.1 3, 1, .inr (.inl fo))) :: kyW g KL) H := hP
    have hD : va_D A ((s0, .inr (5, [.ref ks, .int (nI kn), .int (nI mn), .ref lt, .ref ty, .int (nI tn), .int cc, .int sp, .ref lg, .ref dg])) :: (ks, .inl (g.2.1 4, 15, .inr (.inr (.inr (.inr fk))))) :: (lt, .inl (g.2.1 0, 16, .inl fl)) :: (ty, .inl (g.2.1 0, 40, .inl ft)) :: (lg, .inr (4, [.ref fa, .ref da, .ref ch])) :: (fa, .inl (g.2.1 1, 16384, .inl ff)) :: (da, .inl (g.2.1 0, 16384, .inl fd)) :: (ch, .inl (g.2.1 0, 16384, .inl fc)) :: (dg, .inr (2, [.ref wa, .ref st, .int rk])) :: (wa, .inl (g.2.1 0, 64, .inl fw)) :: (st, .inl (g.2.1 0, 8, .inl fs)) :: (m0, .inr (6, [.int (nI 0), .int (nI kn), .ref qf, .ref qu, .ref qz, .ref qd, .ref qx, .int (nI mn), .int has, .ref ql, .int (nI tn), .ref qg, .int cc, .ref qb, .ref qy, .ref qc, .int sp, .int rk, .ref qe, .ref qw, .ref qt, .ref qr, .ref qi])) :: (qf, .inl (g.2.1 0, 15, .inl kf)) :: (qu, .inl (g.2.1 0, 15, .inl ku)) :: (qz, .inl (g.2.1 0, 15, .inl fz)) :: (qd, .inl (g.2.1 2, 15, .inl fus)) :: (qx, .inl (g.2.1 1, 480, .inl fx)) :: (ql, .inl (g.2.1 0, 16, .inl fl2)) :: (qg, .inl (g.2.1 0, 40, .inl ft)) :: (qb, .inl (g.2.1 1, 16384, .inl ff)) :: (qy, .inl (g.2.1 0, 16384, .inl fd)) :: (qc, .inl (g.2.1 0, 16384, .inl fc)) :: (qe, .inl (g.2.1 1, 32, .inl fe)) :: (qw, .inl (g.2.1 0, 64, .inl fw2)) :: (qt, .inl (g.2.1 0, 8, .inl fs2)) :: (qr, .inl (g.2.1 0, 64, .inl fr9)) :: (qi, .inl (g.2.1 0, 8, .inl fb9)) :: (ao, .inl (g.2.1 3, 1, .inr (.inl fo))) :: kyW g KL) := hD
    refine lv_rei (x' := (-22)) (hr_287) ?_
    refine lv_icmp_eq (tgt := 645) hx hb dL_law_196 (by decide) (fun _ => ?_) (fun c9 => absurd (rfl) c9)
    refine W.widen (k := cells + 2) (n := slots + 40) (by omega) (by omega) ?_
    exact kk _ _ ⟨kn, mn, tn, cc, sp, rk, (nI 0), has, fk, fl, ft, ff, fd, fc, fw, fs, kf, ku, fz, fus, fx, fl2, fe, fw2, fs2, fr9, fb9, fo, KL, hP, hD, ⟨hkn, hlen, hKs, hfree, by omega, htn, hsp, hff, hlt, hrk, hr9, hb9⟩⟩ hS ls (lv_sub hl [0, 1, 2, 3, 4] rfl)

set_option maxHeartbeats 4000000 in
set_option maxRecDepth 100000 in
/-- octet -/
theorem law_c1 {p : Program} {l : Launch} {e : Env} {s : State} {m : MethodId} {below : List Frame} {meth : Method} {c : Code} {b Lx : Nat} {xs : Nat → Int32} {g : gE} {A : Nat → Prop} {Q : State → Prop} (hfl : l.stackTraces = false) (hx : p.tables.exec = Jvm.exec) (hb : c.code = code) (hml : c.maxLocals = 7) (hown : s.vm.findClass RL = some m.cls) (htl : ∀ w ∈ lw_tbl, w.before #[Value.ref b] s = true) (hXs : va_X b Lx xs s s.heap) (hbl : b < s.heap.size) (hbA : ¬ A b) (hA : ∀ q, s.heap.size ≤ q → A q) (hK : gK g s) (hZ : gZ g A s s.heap) (hX : gX s) {s0 ks lt ty lg fa da ch dg wa st m0 qf qu qz qd qx ql qg qb qy qc qe qw qt qr qi ao : Nat} {n i cells slots : Nat} (hi : i + 6 ≤ Lx) (hLx : Lx ≤ 3072) (hn : n < 512) (hce : cells + 2 ≤ 603072) (hsl : slots + 40 ≤ 7219306) {H : Heap} {locs : List Loc} (hLI : LI g s0 ks lt ty lg fa da ch dg wa st m0 qf qu qz qd qx ql qg qb qy qc qe qw qt qr qi ao A n H) (hS : va_S A s.heap H locs) {ls : Array Slot} (hl : lv_has ls 7 [(0, .ref b), (1, .ref s0), (2, .ref m0), (3, .ref ao), (4, .int (nI i))])
    (kk : ∀ (H : Heap) (locs : List Loc), LI g s0 ks lt ty lg fa da ch dg wa st m0 qf qu qz qd qx ql qg qb qy qc qe qw qt qr qi ao A (n + 1) H → va_S A s.heap H locs → ∀ ls : Array Slot, lv_has ls 7 [(0, .ref b), (1, .ref s0), (2, .ref m0), (3, .ref ao), (4, .int (nI i))] → W p l e room_1 s m #[Value.ref b] below meth c H locs (cells + 2) (slots + 40) Q (F0 m 645 ls [])) : W p l e room_1 s m #[Value.ref b] below meth c H locs cells slots Q (F0 m 201 ls []) := by
  have hts : ∀ w ∈ wsL_law, w.before #[Value.ref b] s = true := fun w hw => htl w (wsL_law_in w hw)
  obtain ⟨kn, mn, tn, cc, sp, rk, th, has, fk, fl, ft, ff, fd, fc, fw, fs, kf, ku, fz, fus, fx, fl2, fe, fw2, fs2, fr9, fb9, fo, KL, hP, hD, ⟨hkn, hlen, hKs, hfree, hmn, htn, hsp, hff, hlt, hrk, hr9, hb9⟩⟩ := hLI
  obtain ⟨x1, ex1⟩ : ∃ z, z = xs (i + 1) := ⟨_, rfl⟩
  obtain ⟨x2, ex2⟩ : ∃ z, z = xs (i + 2) := ⟨_, rfl⟩
  by_cases h0 : 0 ≤ x1.toInt ∧ x1.toInt < kn
  · obtain ⟨j, hjb, ejn, tjn⟩ := i32_of (x := x1) (by omega)
    subst ejn
    have hj : j < kn := by omega
    obtain ⟨k, kb, nz, f, hKL, hk, hfz, hz, hf⟩ := hKs j hj
    by_cases hu : fus j = 0 ∧ nz < 32
    · obtain ⟨hu0, hz2⟩ := hu
      have hKL0 := hKL
      rw [hu0] at hKL
      refine lv_aload_n hx hb dL_law_201 rfl (lv_at hl 1 rfl) ?_
      refine lv_aload_n hx hb dL_law_202 rfl (lv_at hl 0 rfl) ?_
      refine lv_iload hx hb dL_law_203 (lv_at hl 4 rfl) ?_
      refine lv_iconst (v := (nI 1)) hx hb dL_law_205 (by decide) ?_
      refine lv_iadd hx hb dL_law_206 ?_
      refine lv_rei (x' := (nI (i + 1))) (nI_add _ _) ?_
      refine va_sld hx hb hXs hbl hbA hS (vp_in_nI (by omega) (by omega)) dL_law_207 ?_
      refine lv_rei (x' := (nI j)) ((congrArg xs (nI_clamp (by omega))).trans ex1.symm) ?_
      refine lv_aload_n hx hb dL_law_208 rfl (lv_at hl 0 rfl) ?_
      refine lv_iload hx hb dL_law_209 (lv_at hl 4 rfl) ?_
      refine lv_iconst (v := (nI 2)) hx hb dL_law_211 (by decide) ?_
      refine lv_iadd hx hb dL_law_212 ?_
      refine lv_rei (x' := (nI (i + 2))) (nI_add _ _) ?_
      refine va_sld hx hb hXs hbl hbA hS (vp_in_nI (by omega) (by omega)) dL_law_213 ?_
      refine lv_rei (x' := x2) ((congrArg xs (nI_clamp (by omega))).trans ex2.symm) ?_
      refine lv_i2b hx hb dL_law_214 rfl ?_
      refine wVv (rest := []) ⟨hx, hb, hml, hown, hts⟩ [.int (nI j), .int ((x2).toInt8.toInt32)] [0, 1, 2 * j + 28, 2 * j + 29] (c_X4_octet_yes l g H.size (s0 := s0) (ks := ks) (lt := lt) (ty := ty) (lg := lg) (dg := dg) (kn := kn) (mn := mn) (tn := tn) (cc := cc) (sp := sp) (fk := fk) (i := j) (k := k) (kb := kb) (fr := (kf j)) (un := (ku j)) (xb := ((x2).toInt8.toInt32)) (f := f) (nz := nz) hj hkn hk hz2) (cwV 2 hts gL_law_X4_octet rfl rfl rfl (by decide +kernel) ⟨Nat.le_of_ble_eq_true rfl, Nat.le_of_ble_eq_true rfl⟩) hK hZ hS hP hD hA (by simp only [List.map_cons, List.map_nil, List.getElem?_cons_succ, List.getElem?_cons_zero, kyW_0 hKL, kyW_1 hKL]) (by simp <;> omega) (fun _ => Nat.le_of_ble_eq_true rfl) (fun _ => rfl) (va_recv hK.1 hP (ci := 5) (q0 := 0) rfl rfl) rfl hl.1 rfl (Nat.le_of_ble_eq_true rfl) dL_law_215 ⟨show cells + 0 ≤ 603072 by omega, show slots + 0 ≤ 7219306 by omega⟩ (fun u H locs hr_288 hP hD hS => ?_)
      have hP : va_P g.1 vwCl ((s0, .inr (5, [.ref ks, .int (nI kn), .int (nI mn), .ref lt, .ref ty, .int (nI tn), .int cc, .int sp, .ref lg, .ref dg])) :: (ks, .inl (g.2.1 4, 15, .inr (.inr (.inr (.inr fk))))) :: (lt, .inl (g.2.1 0, 16, .inl fl)) :: (ty, .inl (g.2.1 0, 40, .inl ft)) :: (lg, .inr (4, [.ref fa, .ref da, .ref ch])) :: (fa, .inl (g.2.1 1, 16384, .inl ff)) :: (da, .inl (g.2.1 0, 16384, .inl fd)) :: (ch, .inl (g.2.1 0, 16384, .inl fc)) :: (dg, .inr (2, [.ref wa, .ref st, .int rk])) :: (wa, .inl (g.2.1 0, 64, .inl fw)) :: (st, .inl (g.2.1 0, 8, .inl fs)) :: (m0, .inr (6, [.int th, .int (nI kn), .ref qf, .ref qu, .ref qz, .ref qd, .ref qx, .int (nI mn), .int has, .ref ql, .int (nI tn), .ref qg, .int cc, .ref qb, .ref qy, .ref qc, .int sp, .int rk, .ref qe, .ref qw, .ref qt, .ref qr, .ref qi])) :: (qf, .inl (g.2.1 0, 15, .inl kf)) :: (qu, .inl (g.2.1 0, 15, .inl ku)) :: (qz, .inl (g.2.1 0, 15, .inl fz)) :: (qd, .inl (g.2.1 2, 15, .inl fus)) :: (qx, .inl (g.2.1 1, 480, .inl fx)) :: (ql, .inl (g.2.1 0, 16, .inl fl2)) :: (qg, .inl (g.2.1 0, 40, .inl ft)) :: (qb, .inl (g.2.1 1, 16384, .inl ff)) :: (qy, .inl (g.2.1 0, 16384, .inl fd)) :: (qc, .inl (g.2.1 0, 16384, .inl fc)) :: (qe, .inl (g.2.1 1, 32, .inl fe)) :: (qw, .inl (g.2.1 0, 64, .inl fw2)) :: (qt, .inl (g.2.1 0, 8, .inl fs2)) :: (qr, .inl (g.2.1 0, 64, .inl fr9)) :: (qi, .inl (g.2.1 0, 8, .inl fb9)) :: (ao, .inl (g.2.1 3, 1, .inr (.inl fo))) :: kyW g (KL.set j (k, kb, kf j, ku j, nz + 1, 0, upd f nz (vp_nar .byte ((x2).toInt8.toInt32))))) H := (by rw [← kyW_s KL j k kb (nz + 1) (kf j) (ku j) 0 (upd f nz (vp_nar .byte ((x2).toInt8.toInt32))) (by omega)]; exact hP)
      have hD : va_D A ((s0, .inr (5, [.ref ks, .int (nI kn), .int (nI mn), .ref lt, .ref ty, .int (nI tn), .int cc, .int sp, .ref lg, .ref dg])) :: (ks, .inl (g.2.1 4, 15, .inr (.inr (.inr (.inr fk))))) :: (lt, .inl (g.2.1 0, 16, .inl fl)) :: (ty, .inl (g.2.1 0, 40, .inl ft)) :: (lg, .inr (4, [.ref fa, .ref da, .ref ch])) :: (fa, .inl (g.2.1 1, 16384, .inl ff)) :: (da, .inl (g.2.1 0, 16384, .inl fd)) :: (ch, .inl (g.2.1 0, 16384, .inl fc)) :: (dg, .inr (2, [.ref wa, .ref st, .int rk])) :: (wa, .inl (g.2.1 0, 64, .inl fw)) :: (st, .inl (g.2.1 0, 8, .inl fs)) :: (m0, .inr (6, [.int th, .int (nI kn), .ref qf, .ref qu, .ref qz, .ref qd, .ref qx, .int (nI mn), .int has, .ref ql, .int (nI tn), .ref qg, .int cc, .ref qb, .ref qy, .ref qc, .int sp, .int rk, .ref qe, .ref qw, .ref qt, .ref qr, .ref qi])) :: (qf, .inl (g.2.1 0, 15, .inl kf)) :: (qu, .inl (g.2.1 0, 15, .inl ku)) :: (qz, .inl (g.2.1 0, 15, .inl fz)) :: (qd, .inl (g.2.1 2, 15, .inl fus)) :: (qx, .inl (g.2.1 1, 480, .inl fx)) :: (ql, .inl (g.2.1 0, 16, .inl fl2)) :: (qg, .inl (g.2.1 0, 40, .inl ft)) :: (qb, .inl (g.2.1 1, 16384, .inl ff)) :: (qy, .inl (g.2.1 0, 16384, .inl fd)) :: (qc, .inl (g.2.1 0, 16384, .inl fc)) :: (qe, .inl (g.2.1 1, 32, .inl fe)) :: (qw, .inl (g.2.1 0, 64, .inl fw2)) :: (qt, .inl (g.2.1 0, 8, .inl fs2)) :: (qr, .inl (g.2.1 0, 64, .inl fr9)) :: (qi, .inl (g.2.1 0, 8, .inl fb9)) :: (ao, .inl (g.2.1 3, 1, .inr (.inl fo))) :: kyW g (KL.set j (k, kb, kf j, ku j, nz + 1, 0, upd f nz (vp_nar .byte ((x2).toInt8.toInt32))))) := (by rw [← kyW_s KL j k kb (nz + 1) (kf j) (ku j) 0 (upd f nz (vp_nar .byte ((x2).toInt8.toInt32))) (by omega)]; exact hD)
      refine lv_aload_n hx hb dL_law_218 rfl (lv_at hl 2 rfl) ?_
      refine lv_aload_n hx hb dL_law_219 rfl (lv_at hl 0 rfl) ?_
      refine lv_iload hx hb dL_law_220 (lv_at hl 4 rfl) ?_
      refine lv_iconst (v := (nI 1)) hx hb dL_law_222 (by decide) ?_
      refine lv_iadd hx hb dL_law_223 ?_
      refine lv_rei (x' := (nI (i + 1))) (nI_add _ _) ?_
      refine va_sld hx hb hXs hbl hbA hS (vp_in_nI (by omega) (by omega)) dL_law_224 ?_
      refine lv_rei (x' := (nI j)) ((congrArg xs (nI_clamp (by omega))).trans ex1.symm) ?_
      refine lv_aload_n hx hb dL_law_225 rfl (lv_at hl 0 rfl) ?_
      refine lv_iload hx hb dL_law_226 (lv_at hl 4 rfl) ?_
      refine lv_iconst (v := (nI 2)) hx hb dL_law_228 (by decide) ?_
      refine lv_iadd hx hb dL_law_229 ?_
      refine lv_rei (x' := (nI (i + 2))) (nI_add _ _) ?_
      refine va_sld hx hb hXs hbl hbA hS (vp_in_nI (by omega) (by omega)) dL_law_230 ?_
      refine lv_rei (x' := x2) ((congrArg xs (nI_clamp (by omega))).trans ex2.symm) ?_
      refine lv_i2b hx hb dL_law_231 rfl ?_
      refine wVv (rest := []) ⟨hx, hb, hml, hown, hts⟩ [.int (nI j), .int ((x2).toInt8.toInt32)] [11, 14, 15, 16] (c_X5_octet_yes l g H.size (m0 := m0) (kn := kn) (mn := mn) (tn := tn) (qf := qf) (qu := qu) (qz := qz) (qd := qd) (qx := qx) (ql := ql) (qg := qg) (qb := qb) (qy := qy) (qc := qc) (qe := qe) (qw := qw) (qt := qt) (qr := qr) (qi := qi) (th := th) (has := has) (cc := cc) (sp := sp) (rk := rk) (fz := fz) (fus := fus) (i := j) (nz := nz) (xb := ((x2).toInt8.toInt32)) (fx := fx) hj hkn hfz hz hu0 hz2) (cwV 2 hts gL_law_X5_octet rfl rfl rfl (by decide +kernel) ⟨Nat.le_of_ble_eq_true rfl, Nat.le_of_ble_eq_true rfl⟩) hK hZ hS hP hD hA rfl (by decide) (fun _ => Nat.le_of_ble_eq_true rfl) (fun _ => rfl) (va_recv hK.1 hP (ci := 6) (q0 := 11) rfl rfl) rfl hl.1 rfl (Nat.le_of_ble_eq_true rfl) dL_law_232 ⟨show cells + 0 + 0 ≤ 603072 by omega, show slots + 0 + 0 ≤ 7219306 by omega⟩ (fun u H locs hr_289 hP hD hS => ?_)
      have hP : va_P g.1 vwCl ((s0, .inr (5, [.ref ks, .int (nI kn), .int (nI mn), .ref lt, .ref ty, .int (nI tn), .int cc, .int sp, .ref lg, .ref dg])) :: (ks, .inl (g.2.1 4, 15, .inr (.inr (.inr (.inr fk))))) :: (lt, .inl (g.2.1 0, 16, .inl fl)) :: (ty, .inl (g.2.1 0, 40, .inl ft)) :: (lg, .inr (4, [.ref fa, .ref da, .ref ch])) :: (fa, .inl (g.2.1 1, 16384, .inl ff)) :: (da, .inl (g.2.1 0, 16384, .inl fd)) :: (ch, .inl (g.2.1 0, 16384, .inl fc)) :: (dg, .inr (2, [.ref wa, .ref st, .int rk])) :: (wa, .inl (g.2.1 0, 64, .inl fw)) :: (st, .inl (g.2.1 0, 8, .inl fs)) :: (m0, .inr (6, [.int (nI 0), .int (nI kn), .ref qf, .ref qu, .ref qz, .ref qd, .ref qx, .int (nI mn), .int has, .ref ql, .int (nI tn), .ref qg, .int cc, .ref qb, .ref qy, .ref qc, .int sp, .int rk, .ref qe, .ref qw, .ref qt, .ref qr, .ref qi])) :: (qf, .inl (g.2.1 0, 15, .inl kf)) :: (qu, .inl (g.2.1 0, 15, .inl ku)) :: (qz, .inl (g.2.1 0, 15, .inl (upd fz j (nI (nz + 1))))) :: (qd, .inl (g.2.1 2, 15, .inl fus)) :: (qx, .inl (g.2.1 1, 480, .inl (upd fx (32 * j + nz) (vp_nar .byte ((x2).toInt8.toInt32))))) :: (ql, .inl (g.2.1 0, 16, .inl fl2)) :: (qg, .inl (g.2.1 0, 40, .inl ft)) :: (qb, .inl (g.2.1 1, 16384, .inl ff)) :: (qy, .inl (g.2.1 0, 16384, .inl fd)) :: (qc, .inl (g.2.1 0, 16384, .inl fc)) :: (qe, .inl (g.2.1 1, 32, .inl fe)) :: (qw, .inl (g.2.1 0, 64, .inl fw2)) :: (qt, .inl (g.2.1 0, 8, .inl fs2)) :: (qr, .inl (g.2.1 0, 64, .inl fr9)) :: (qi, .inl (g.2.1 0, 8, .inl fb9)) :: (ao, .inl (g.2.1 3, 1, .inr (.inl fo))) :: kyW g (KL.set j (k, kb, kf j, ku j, nz + 1, 0, upd f nz (vp_nar .byte ((x2).toInt8.toInt32))))) H := hP
      have hD : va_D A ((s0, .inr (5, [.ref ks, .int (nI kn), .int (nI mn), .ref lt, .ref ty, .int (nI tn), .int cc, .int sp, .ref lg, .ref dg])) :: (ks, .inl (g.2.1 4, 15, .inr (.inr (.inr (.inr fk))))) :: (lt, .inl (g.2.1 0, 16, .inl fl)) :: (ty, .inl (g.2.1 0, 40, .inl ft)) :: (lg, .inr (4, [.ref fa, .ref da, .ref ch])) :: (fa, .inl (g.2.1 1, 16384, .inl ff)) :: (da, .inl (g.2.1 0, 16384, .inl fd)) :: (ch, .inl (g.2.1 0, 16384, .inl fc)) :: (dg, .inr (2, [.ref wa, .ref st, .int rk])) :: (wa, .inl (g.2.1 0, 64, .inl fw)) :: (st, .inl (g.2.1 0, 8, .inl fs)) :: (m0, .inr (6, [.int (nI 0), .int (nI kn), .ref qf, .ref qu, .ref qz, .ref qd, .ref qx, .int (nI mn), .int has, .ref ql, .int (nI tn), .ref qg, .int cc, .ref qb, .ref qy, .ref qc, .int sp, .int rk, .ref qe, .ref qw, .ref qt, .ref qr, .ref qi])) :: (qf, .inl (g.2.1 0, 15, .inl kf)) :: (qu, .inl (g.2.1 0, 15, .inl ku)) :: (qz, .inl (g.2.1 0, 15, .inl (upd fz j (nI (nz + 1))))) :: (qd, .inl (g.2.1 2, 15, .inl fus)) :: (qx, .inl (g.2.1 1, 480, .inl (upd fx (32 * j + nz) (vp_nar .byte ((x2).toInt8.toInt32))))) :: (ql, .inl (g.2.1 0, 16, .inl fl2)) :: (qg, .inl (g.2.1 0, 40, .inl ft)) :: (qb, .inl (g.2.1 1, 16384, .inl ff)) :: (qy, .inl (g.2.1 0, 16384, .inl fd)) :: (qc, .inl (g.2.1 0, 16384, .inl fc)) :: (qe, .inl (g.2.1 1, 32, .inl fe)) :: (qw, .inl (g.2.1 0, 64, .inl fw2)) :: (qt, .inl (g.2.1 0, 8, .inl fs2)) :: (qr, .inl (g.2.1 0, 64, .inl fr9)) :: (qi, .inl (g.2.1 0, 8, .inl fb9)) :: (ao, .inl (g.2.1 3, 1, .inr (.inl fo))) :: kyW g (KL.set j (k, kb, kf j, ku j, nz + 1, 0, upd f nz (vp_nar .byte ((x2).toInt8.toInt32))))) := hD
      refine lv_goto (tgt := 645) hx hb dL_law_235 (by decide) ?_
      refine W.widen (k := cells + 2) (n := slots + 40) (by omega) (by omega) ?_
      exact kk _ _ ⟨kn, mn, tn, cc, sp, rk, (nI 0), has, fk, fl, ft, ff, fd, fc, fw, fs, kf, ku, upd fz j (nI (nz + 1)), fus, upd fx (32 * j + nz) (vp_nar .byte ((x2).toInt8.toInt32)), fl2, fe, fw2, fs2, fr9, fb9, fo, KL.set j (k, kb, kf j, ku j, nz + 1, 0, upd f nz (vp_nar .byte ((x2).toInt8.toInt32))), hP, hD, ⟨hkn, by rw [List.length_set]; exact hlen, hKs.byte hlen hj hk hz2 hf hu0 _, fun a h1 h2 => by rw [pk_un (show a ≠ j by omega)]; exact hfree a h1 h2, by omega, htn, hsp, hff, hlt, hrk, hr9, hb9⟩⟩ hS ls (lv_sub hl [0, 1, 2, 3, 4] rfl)
    · refine lv_aload_n hx hb dL_law_201 rfl (lv_at hl 1 rfl) ?_
      refine lv_aload_n hx hb dL_law_202 rfl (lv_at hl 0 rfl) ?_
      refine lv_iload hx hb dL_law_203 (lv_at hl 4 rfl) ?_
      refine lv_iconst (v := (nI 1)) hx hb dL_law_205 (by decide) ?_
      refine lv_iadd hx hb dL_law_206 ?_
      refine lv_rei (x' := (nI (i + 1))) (nI_add _ _) ?_
      refine va_sld hx hb hXs hbl hbA hS (vp_in_nI (by omega) (by omega)) dL_law_207 ?_
      refine lv_rei (x' := (nI j)) ((congrArg xs (nI_clamp (by omega))).trans ex1.symm) ?_
      refine lv_aload_n hx hb dL_law_208 rfl (lv_at hl 0 rfl) ?_
      refine lv_iload hx hb dL_law_209 (lv_at hl 4 rfl) ?_
      refine lv_iconst (v := (nI 2)) hx hb dL_law_211 (by decide) ?_
      refine lv_iadd hx hb dL_law_212 ?_
      refine lv_rei (x' := (nI (i + 2))) (nI_add _ _) ?_
      refine va_sld hx hb hXs hbl hbA hS (vp_in_nI (by omega) (by omega)) dL_law_213 ?_
      refine lv_rei (x' := x2) ((congrArg xs (nI_clamp (by omega))).trans ex2.symm) ?_
      refine lv_i2b hx hb dL_law_214 rfl ?_
      refine cVv (rest := []) ⟨hx, hb, hml, hown, hts⟩ [.int (nI j), .int ((x2).toInt8.toInt32)] (c_X4_octet_no l g (s0 := s0) (ks := ks) (lt := lt) (ty := ty) (lg := lg) (dg := dg) (kn := kn) (mn := mn) (tn := tn) (cc := cc) (sp := sp) (fk := fk) (i := j) (k := k) (kb := kb) (fr := (kf j)) (un := (ku j)) (cl := (fus j)) (xb := ((x2).toInt8.toInt32)) (nz := nz) hj hkn hk hz hu) (cwV 2 hts gL_law_X4_octet rfl rfl rfl (by decide +kernel) ⟨Nat.le_of_ble_eq_true rfl, Nat.le_of_ble_eq_true rfl⟩) hK hZ hS (subP hP [0, 1, 2 * j + 28] (by simp only [List.map_cons, List.map_nil, List.getElem?_cons_succ, List.getElem?_cons_zero, kyW_0 hKL])) (va_recv hK.1 hP (ci := 5) (q0 := 0) rfl rfl) rfl hl.1 rfl (Nat.le_of_ble_eq_true rfl) dL_law_215 ⟨show cells ≤ 603072 by omega, show slots ≤ 7219306 by omega⟩ (fun hr_290 => ?_)
      refine lv_aload_n hx hb dL_law_218 rfl (lv_at hl 2 rfl) ?_
      refine lv_aload_n hx hb dL_law_219 rfl (lv_at hl 0 rfl) ?_
      refine lv_iload hx hb dL_law_220 (lv_at hl 4 rfl) ?_
      refine lv_iconst (v := (nI 1)) hx hb dL_law_222 (by decide) ?_
      refine lv_iadd hx hb dL_law_223 ?_
      refine lv_rei (x' := (nI (i + 1))) (nI_add _ _) ?_
      refine va_sld hx hb hXs hbl hbA hS (vp_in_nI (by omega) (by omega)) dL_law_224 ?_
      refine lv_rei (x' := (nI j)) ((congrArg xs (nI_clamp (by omega))).trans ex1.symm) ?_
      refine lv_aload_n hx hb dL_law_225 rfl (lv_at hl 0 rfl) ?_
      refine lv_iload hx hb dL_law_226 (lv_at hl 4 rfl) ?_
      refine lv_iconst (v := (nI 2)) hx hb dL_law_228 (by decide) ?_
      refine lv_iadd hx hb dL_law_229 ?_
      refine lv_rei (x' := (nI (i + 2))) (nI_add _ _) ?_
      refine va_sld hx hb hXs hbl hbA hS (vp_in_nI (by omega) (by omega)) dL_law_230 ?_
      refine lv_rei (x' := x2) ((congrArg xs (nI_clamp (by omega))).trans ex2.symm) ?_
      refine lv_i2b hx hb dL_law_231 rfl ?_
      refine wVv (rest := []) ⟨hx, hb, hml, hown, hts⟩ [.int (nI j), .int ((x2).toInt8.toInt32)] [11, 14, 15] (c_X5_octet_no l g H.size (m0 := m0) (kn := kn) (mn := mn) (tn := tn) (qf := qf) (qu := qu) (qz := qz) (qd := qd) (qx := qx) (ql := ql) (qg := qg) (qb := qb) (qy := qy) (qc := qc) (qe := qe) (qw := qw) (qt := qt) (qr := qr) (qi := qi) (th := th) (has := has) (cc := cc) (sp := sp) (rk := rk) (fz := fz) (fus := fus) (i := j) (nz := nz) (xb := ((x2).toInt8.toInt32)) hj hkn hfz hz hu) (cwV 2 hts gL_law_X5_octet rfl rfl rfl (by decide +kernel) ⟨Nat.le_of_ble_eq_true rfl, Nat.le_of_ble_eq_true rfl⟩) hK hZ hS hP hD hA rfl (by decide) (fun _ => Nat.le_of_ble_eq_true rfl) (fun _ => rfl) (va_recv hK.1 hP (ci := 6) (q0 := 11) rfl rfl) rfl hl.1 rfl (Nat.le_of_ble_eq_true rfl) dL_law_232 ⟨show cells + 0 ≤ 603072 by omega, show slots + 0 ≤ 7219306 by omega⟩ (fun u H locs hr_291 hP hD hS => ?_)
      have hP : va_P g.1 vwCl ((s0, .inr (5, [.ref ks, .int (nI kn), .int (nI mn), .ref lt, .ref ty, .int (nI tn), .int cc, .int sp, .ref lg, .ref dg])) :: (ks, .inl (g.2.1 4, 15, .inr (.inr (.inr (.inr fk))))) :: (lt, .inl (g.2.1 0, 16, .inl fl)) :: (ty, .inl (g.2.1 0, 40, .inl ft)) :: (lg, .inr (4, [.ref fa, .ref da, .ref ch])) :: (fa, .inl (g.2.1 1, 16384, .inl ff)) :: (da, .inl (g.2.1 0, 16384, .inl fd)) :: (ch, .inl (g.2.1 0, 16384, .inl fc)) :: (dg, .inr (2, [.ref wa, .ref st, .int rk])) :: (wa, .inl (g.2.1 0, 64, .inl fw)) :: (st, .inl (g.2.1 0, 8, .inl fs)) :: (m0, .inr (6, [.int (nI 0), .int (nI kn), .ref qf, .ref qu, .ref qz, .ref qd, .ref qx, .int (nI mn), .int has, .ref ql, .int (nI tn), .ref qg, .int cc, .ref qb, .ref qy, .ref qc, .int sp, .int rk, .ref qe, .ref qw, .ref qt, .ref qr, .ref qi])) :: (qf, .inl (g.2.1 0, 15, .inl kf)) :: (qu, .inl (g.2.1 0, 15, .inl ku)) :: (qz, .inl (g.2.1 0, 15, .inl fz)) :: (qd, .inl (g.2.1 2, 15, .inl fus)) :: (qx, .inl (g.2.1 1, 480, .inl fx)) :: (ql, .inl (g.2.1 0, 16, .inl fl2)) :: (qg, .inl (g.2.1 0, 40, .inl ft)) :: (qb, .inl (g.2.1 1, 16384, .inl ff)) :: (qy, .inl (g.2.1 0, 16384, .inl fd)) :: (qc, .inl (g.2.1 0, 16384, .inl fc)) :: (qe, .inl (g.2.1 1, 32, .inl fe)) :: (qw, .inl (g.2.1 0, 64, .inl fw2)) :: (qt, .inl (g.2.1 0, 8, .inl fs2)) :: (qr, .inl (g.2.1 0, 64, .inl fr9)) :: (qi, .inl (g.2.1 0, 8, .inl fb9)) :: (ao, .inl (g.2.1 3, 1, .inr (.inl fo))) :: kyW g KL) H := hP
      have hD : va_D A ((s0, .inr (5, [.ref ks, .int (nI kn), .int (nI mn), .ref lt, .ref ty, .int (nI tn), .int cc, .int sp, .ref lg, .ref dg])) :: (ks, .inl (g.2.1 4, 15, .inr (.inr (.inr (.inr fk))))) :: (lt, .inl (g.2.1 0, 16, .inl fl)) :: (ty, .inl (g.2.1 0, 40, .inl ft)) :: (lg, .inr (4, [.ref fa, .ref da, .ref ch])) :: (fa, .inl (g.2.1 1, 16384, .inl ff)) :: (da, .inl (g.2.1 0, 16384, .inl fd)) :: (ch, .inl (g.2.1 0, 16384, .inl fc)) :: (dg, .inr (2, [.ref wa, .ref st, .int rk])) :: (wa, .inl (g.2.1 0, 64, .inl fw)) :: (st, .inl (g.2.1 0, 8, .inl fs)) :: (m0, .inr (6, [.int (nI 0), .int (nI kn), .ref qf, .ref qu, .ref qz, .ref qd, .ref qx, .int (nI mn), .int has, .ref ql, .int (nI tn), .ref qg, .int cc, .ref qb, .ref qy, .ref qc, .int sp, .int rk, .ref qe, .ref qw, .ref qt, .ref qr, .ref qi])) :: (qf, .inl (g.2.1 0, 15, .inl kf)) :: (qu, .inl (g.2.1 0, 15, .inl ku)) :: (qz, .inl (g.2.1 0, 15, .inl fz)) :: (qd, .inl (g.2.1 2, 15, .inl fus)) :: (qx, .inl (g.2.1 1, 480, .inl fx)) :: (ql, .inl (g.2.1 0, 16, .inl fl2)) :: (qg, .inl (g.2.1 0, 40, .inl ft)) :: (qb, .inl (g.2.1 1, 16384, .inl ff)) :: (qy, .inl (g.2.1 0, 16384, .inl fd)) :: (qc, .inl (g.2.1 0, 16384, .inl fc)) :: (qe, .inl (g.2.1 1, 32, .inl fe)) :: (qw, .inl (g.2.1 0, 64, .inl fw2)) :: (qt, .inl (g.2.1 0, 8, .inl fs2)) :: (qr, .inl (g.2.1 0, 64, .inl fr9)) :: (qi, .inl (g.2.1 0, 8, .inl fb9)) :: (ao, .inl (g.2.1 3, 1, .inr (.inl fo))) :: kyW g KL) := hD
      refine lv_goto (tgt := 645) hx hb dL_law_235 (by decide) ?_
      refine W.widen (k := cells + 2) (n := slots + 40) (by omega) (by omega) ?_
      exact kk _ _ ⟨kn, mn, tn, cc, sp, rk, (nI 0), has, fk, fl, ft, ff, fd, fc, fw, fs, kf, ku, fz, fus, fx, fl2, fe, fw2, fs2, fr9, fb9, fo, KL, hP, hD, ⟨hkn, hlen, hKs, hfree, by omega, htn, hsp, hff, hlt, hrk, hr9, hb9⟩⟩ hS ls (lv_sub hl [0, 1, 2, 3, 4] rfl)
  · refine lv_aload_n hx hb dL_law_201 rfl (lv_at hl 1 rfl) ?_
    refine lv_aload_n hx hb dL_law_202 rfl (lv_at hl 0 rfl) ?_
    refine lv_iload hx hb dL_law_203 (lv_at hl 4 rfl) ?_
    refine lv_iconst (v := (nI 1)) hx hb dL_law_205 (by decide) ?_
    refine lv_iadd hx hb dL_law_206 ?_
    refine lv_rei (x' := (nI (i + 1))) (nI_add _ _) ?_
    refine va_sld hx hb hXs hbl hbA hS (vp_in_nI (by omega) (by omega)) dL_law_207 ?_
    refine lv_rei (x' := x1) ((congrArg xs (nI_clamp (by omega))).trans ex1.symm) ?_
    refine lv_aload_n hx hb dL_law_208 rfl (lv_at hl 0 rfl) ?_
    refine lv_iload hx hb dL_law_209 (lv_at hl 4 rfl) ?_
    refine lv_iconst (v := (nI 2)) hx hb dL_law_211 (by decide) ?_
    refine lv_iadd hx hb dL_law_212 ?_
    refine lv_rei (x' := (nI (i + 2))) (nI_add _ _) ?_
    refine va_sld hx hb hXs hbl hbA hS (vp_in_nI (by omega) (by omega)) dL_law_213 ?_
    refine lv_rei (x' := x2) ((congrArg xs (nI_clamp (by omega))).trans ex2.symm) ?_
    refine lv_i2b hx hb dL_law_214 rfl ?_
    refine cVv (rest := []) ⟨hx, hb, hml, hown, hts⟩ [.int x1, .int ((x2).toInt8.toInt32)] (c_X4_octet_out l g (s0 := s0) (ks := ks) (lt := lt) (ty := ty) (lg := lg) (dg := dg) (kn := kn) (mn := mn) (tn := tn) (cc := cc) (sp := sp) (fk := fk) (x := x1) (xb := ((x2).toInt8.toInt32)) h0 hkn) (cwV 2 hts gL_law_X4_octet rfl rfl rfl (by decide +kernel) ⟨Nat.le_of_ble_eq_true rfl, Nat.le_of_ble_eq_true rfl⟩) hK hZ hS (subP hP [0, 1] rfl) (va_recv hK.1 hP (ci := 5) (q0 := 0) rfl rfl) rfl hl.1 rfl (Nat.le_of_ble_eq_true rfl) dL_law_215 ⟨show cells ≤ 603072 by omega, show slots ≤ 7219306 by omega⟩ (fun hr_292 => ?_)
    refine lv_aload_n hx hb dL_law_218 rfl (lv_at hl 2 rfl) ?_
    refine lv_aload_n hx hb dL_law_219 rfl (lv_at hl 0 rfl) ?_
    refine lv_iload hx hb dL_law_220 (lv_at hl 4 rfl) ?_
    refine lv_iconst (v := (nI 1)) hx hb dL_law_222 (by decide) ?_
    refine lv_iadd hx hb dL_law_223 ?_
    refine lv_rei (x' := (nI (i + 1))) (nI_add _ _) ?_
    refine va_sld hx hb hXs hbl hbA hS (vp_in_nI (by omega) (by omega)) dL_law_224 ?_
    refine lv_rei (x' := x1) ((congrArg xs (nI_clamp (by omega))).trans ex1.symm) ?_
    refine lv_aload_n hx hb dL_law_225 rfl (lv_at hl 0 rfl) ?_
    refine lv_iload hx hb dL_law_226 (lv_at hl 4 rfl) ?_
    refine lv_iconst (v := (nI 2)) hx hb dL_law_228 (by decide) ?_
    refine lv_iadd hx hb dL_law_229 ?_
    refine lv_rei (x' := (nI (i + 2))) (nI_add _ _) ?_
    refine va_sld hx hb hXs hbl hbA hS (vp_in_nI (by omega) (by omega)) dL_law_230 ?_
    refine lv_rei (x' := x2) ((congrArg xs (nI_clamp (by omega))).trans ex2.symm) ?_
    refine lv_i2b hx hb dL_law_231 rfl ?_
    refine wVv (rest := []) ⟨hx, hb, hml, hown, hts⟩ [.int x1, .int ((x2).toInt8.toInt32)] [11] (c_X5_octet_out l g H.size (m0 := m0) (kn := kn) (mn := mn) (tn := tn) (qf := qf) (qu := qu) (qz := qz) (qd := qd) (qx := qx) (ql := ql) (qg := qg) (qb := qb) (qy := qy) (qc := qc) (qe := qe) (qw := qw) (qt := qt) (qr := qr) (qi := qi) (th := th) (has := has) (cc := cc) (sp := sp) (rk := rk) (x := x1) (xb := ((x2).toInt8.toInt32)) h0 hkn) (cwV 2 hts gL_law_X5_octet rfl rfl rfl (by decide +kernel) ⟨Nat.le_of_ble_eq_true rfl, Nat.le_of_ble_eq_true rfl⟩) hK hZ hS hP hD hA rfl (by decide) (fun _ => Nat.le_of_ble_eq_true rfl) (fun _ => rfl) (va_recv hK.1 hP (ci := 6) (q0 := 11) rfl rfl) rfl hl.1 rfl (Nat.le_of_ble_eq_true rfl) dL_law_232 ⟨show cells + 0 ≤ 603072 by omega, show slots + 0 ≤ 7219306 by omega⟩ (fun u H locs hr_293 hP hD hS => ?_)
    have hP : va_P g.1 vwCl ((s0, .inr (5, [.ref ks, .int (nI kn), .int (nI mn), .ref lt, .ref ty, .int (nI tn), .int cc, .int sp, .ref lg, .ref dg])) :: (ks, .inl (g.2.1 4, 15, .inr (.inr (.inr (.inr fk))))) :: (lt, .inl (g.2.1 0, 16, .inl fl)) :: (ty, .inl (g.2.1 0, 40, .inl ft)) :: (lg, .inr (4, [.ref fa, .ref da, .ref ch])) :: (fa, .inl (g.2.1 1, 16384, .inl ff)) :: (da, .inl (g.2.1 0, 16384, .inl fd)) :: (ch, .inl (g.2.1 0, 16384, .inl fc)) :: (dg, .inr (2, [.ref wa, .ref st, .int rk])) :: (wa, .inl (g.2.1 0, 64, .inl fw)) :: (st, .inl (g.2.1 0, 8, .inl fs)) :: (m0, .inr (6, [.int (nI 0), .int (nI kn), .ref qf, .ref qu, .ref qz, .ref qd, .ref qx, .int (nI mn), .int has, .ref ql, .int (nI tn), .ref qg, .int cc, .ref qb, .ref qy, .ref qc, .int sp, .int rk, .ref qe, .ref qw, .ref qt, .ref qr, .ref qi])) :: (qf, .inl (g.2.1 0, 15, .inl kf)) :: (qu, .inl (g.2.1 0, 15, .inl ku)) :: (qz, .inl (g.2.1 0, 15, .inl fz)) :: (qd, .inl (g.2.1 2, 15, .inl fus)) :: (qx, .inl (g.2.1 1, 480, .inl fx)) :: (ql, .inl (g.2.1 0, 16, .inl fl2)) :: (qg, .inl (g.2.1 0, 40, .inl ft)) :: (qb, .inl (g.2.1 1, 16384, .inl ff)) :: (qy, .inl (g.2.1 0, 16384, .inl fd)) :: (qc, .inl (g.2.1 0, 16384, .inl fc)) :: (qe, .inl (g.2.1 1, 32, .inl fe)) :: (qw, .inl (g.2.1 0, 64, .inl fw2)) :: (qt, .inl (g.2.1 0, 8, .inl fs2)) :: (qr, .inl (g.2.1 0, 64, .inl fr9)) :: (qi, .inl (g.2.1 0, 8, .inl fb9)) :: (ao, .inl (g.2.1 3, 1, .inr (.inl fo))) :: kyW g KL) H := hP
    have hD : va_D A ((s0, .inr (5, [.ref ks, .int (nI kn), .int (nI mn), .ref lt, .ref ty, .int (nI tn), .int cc, .int sp, .ref lg, .ref dg])) :: (ks, .inl (g.2.1 4, 15, .inr (.inr (.inr (.inr fk))))) :: (lt, .inl (g.2.1 0, 16, .inl fl)) :: (ty, .inl (g.2.1 0, 40, .inl ft)) :: (lg, .inr (4, [.ref fa, .ref da, .ref ch])) :: (fa, .inl (g.2.1 1, 16384, .inl ff)) :: (da, .inl (g.2.1 0, 16384, .inl fd)) :: (ch, .inl (g.2.1 0, 16384, .inl fc)) :: (dg, .inr (2, [.ref wa, .ref st, .int rk])) :: (wa, .inl (g.2.1 0, 64, .inl fw)) :: (st, .inl (g.2.1 0, 8, .inl fs)) :: (m0, .inr (6, [.int (nI 0), .int (nI kn), .ref qf, .ref qu, .ref qz, .ref qd, .ref qx, .int (nI mn), .int has, .ref ql, .int (nI tn), .ref qg, .int cc, .ref qb, .ref qy, .ref qc, .int sp, .int rk, .ref qe, .ref qw, .ref qt, .ref qr, .ref qi])) :: (qf, .inl (g.2.1 0, 15, .inl kf)) :: (qu, .inl (g.2.1 0, 15, .inl ku)) :: (qz, .inl (g.2.1 0, 15, .inl fz)) :: (qd, .inl (g.2.1 2, 15, .inl fus)) :: (qx, .inl (g.2.1 1, 480, .inl fx)) :: (ql, .inl (g.2.1 0, 16, .inl fl2)) :: (qg, .inl (g.2.1 0, 40, .inl ft)) :: (qb, .inl (g.2.1 1, 16384, .inl ff)) :: (qy, .inl (g.2.1 0, 16384, .inl fd)) :: (qc, .inl (g.2.1 0, 16384, .inl fc)) :: (qe, .inl (g.2.1 1, 32, .inl fe)) :: (qw, .inl (g.2.1 0, 64, .inl fw2)) :: (qt, .inl (g.2.1 0, 8, .inl fs2)) :: (qr, .inl (g.2.1 0, 64, .inl fr9)) :: (qi, .inl (g.2.1 0, 8, .inl fb9)) :: (ao, .inl (g.2.1 3, 1, .inr (.inl fo))) :: kyW g KL) := hD
    refine lv_goto (tgt := 645) hx hb dL_law_235 (by decide) ?_
    refine W.widen (k := cells + 2) (n := slots + 40) (by omega) (by omega) ?_
    exact kk _ _ ⟨kn, mn, tn, cc, sp, rk, (nI 0), has, fk, fl, ft, ff, fd, fc, fw, fs, kf, ku, fz, fus, fx, fl2, fe, fw2, fs2, fr9, fb9, fo, KL, hP, hD, ⟨hkn, hlen, hKs, hfree, by omega, htn, hsp, hff, hlt, hrk, hr9, hb9⟩⟩ hS ls (lv_sub hl [0, 1, 2, 3, 4] rfl)

set_option maxHeartbeats 4000000 in
set_option maxRecDepth 100000 in
/-- make -/
theorem law_c2 {p : Program} {l : Launch} {e : Env} {s : State} {m : MethodId} {below : List Frame} {meth : Method} {c : Code} {b Lx : Nat} {xs : Nat → Int32} {g : gE} {A : Nat → Prop} {Q : State → Prop} (hfl : l.stackTraces = false) (hx : p.tables.exec = Jvm.exec) (hb : c.code = code) (hml : c.maxLocals = 7) (hown : s.vm.findClass RL = some m.cls) (htl : ∀ w ∈ lw_tbl, w.before #[Value.ref b] s = true) (hXs : va_X b Lx xs s s.heap) (hbl : b < s.heap.size) (hbA : ¬ A b) (hA : ∀ q, s.heap.size ≤ q → A q) (hK : gK g s) (hZ : gZ g A s s.heap) (hX : gX s) {s0 ks lt ty lg fa da ch dg wa st m0 qf qu qz qd qx ql qg qb qy qc qe qw qt qr qi ao : Nat} {n i cells slots : Nat} (hi : i + 6 ≤ Lx) (hLx : Lx ≤ 3072) (hn : n < 512) (hce : cells + 2 ≤ 603072) (hsl : slots + 40 ≤ 7219306) {H : Heap} {locs : List Loc} (hLI : LI g s0 ks lt ty lg fa da ch dg wa st m0 qf qu qz qd qx ql qg qb qy qc qe qw qt qr qi ao A n H) (hS : va_S A s.heap H locs) {ls : Array Slot} (hl : lv_has ls 7 [(0, .ref b), (1, .ref s0), (2, .ref m0), (3, .ref ao), (4, .int (nI i))])
    (kk : ∀ (H : Heap) (locs : List Loc), LI g s0 ks lt ty lg fa da ch dg wa st m0 qf qu qz qd qx ql qg qb qy qc qe qw qt qr qi ao A (n + 1) H → va_S A s.heap H locs → ∀ ls : Array Slot, lv_has ls 7 [(0, .ref b), (1, .ref s0), (2, .ref m0), (3, .ref ao), (4, .int (nI i))] → W p l e room_1 s m #[Value.ref b] below meth c H locs (cells + 2) (slots + 40) Q (F0 m 645 ls [])) : W p l e room_1 s m #[Value.ref b] below meth c H locs cells slots Q (F0 m 238 ls []) := by
  have hts : ∀ w ∈ wsL_law, w.before #[Value.ref b] s = true := fun w hw => htl w (wsL_law_in w hw)
  obtain ⟨kn, mn, tn, cc, sp, rk, th, has, fk, fl, ft, ff, fd, fc, fw, fs, kf, ku, fz, fus, fx, fl2, fe, fw2, fs2, fr9, fb9, fo, KL, hP, hD, ⟨hkn, hlen, hKs, hfree, hmn, htn, hsp, hff, hlt, hrk, hr9, hb9⟩⟩ := hLI
  obtain ⟨x1, ex1⟩ : ∃ z, z = xs (i + 1) := ⟨_, rfl⟩
  obtain ⟨x2, ex2⟩ : ∃ z, z = xs (i + 2) := ⟨_, rfl⟩
  obtain ⟨x3, ex3⟩ : ∃ z, z = xs (i + 3) := ⟨_, rfl⟩
  obtain ⟨D, eD⟩ : ∃ z, z = lgE (xs (i + 4)) (xs (i + 5)) := ⟨_, rfl⟩
  by_cases h0 : 0 ≤ x1.toInt ∧ x1.toInt < kn
  · obtain ⟨j, hjb, ejn, tjn⟩ := i32_of (x := x1) (by omega)
    subst ejn
    have hj : j < kn := by omega
    obtain ⟨k, kb, nz, f, hKL, hk, hfz, hz, hf⟩ := hKs j hj
    by_cases hd : ((1 ≤ x2.toInt ∧ x2.toInt ≤ 99999) ∧ (0 ≤ x3.toInt ∧ x3.toInt ≤ 9) ∧ (0 ≤ D.toInt ∧ D.toInt ≤ 65535))
    · by_cases hst : (kf j).toInt ≤ D.toInt ∧ D.toInt ≤ (ku j).toInt
      · obtain ⟨v, hvb, evn, tvn⟩ := i32_of (x := x2) (by omega)
        subst evn
        obtain ⟨kd, hkdb, ekdn, tkdn⟩ := i32_of (x := x3) (by omega)
        subst ekdn
        obtain ⟨d, hdb, edn, tdn⟩ := i64_of (x := D) (by omega)
        subst edn
        have hst2 : (kf j).toInt ≤ d ∧ (d : Int) ≤ (ku j).toInt := by omega
        refine lv_aload_n hx hb dL_law_238 rfl (lv_at hl 1 rfl) ?_
        refine lv_aload_n hx hb dL_law_239 rfl (lv_at hl 0 rfl) ?_
        refine lv_iload hx hb dL_law_240 (lv_at hl 4 rfl) ?_
        refine lv_iconst (v := (nI 1)) hx hb dL_law_242 (by decide) ?_
        refine lv_iadd hx hb dL_law_243 ?_
        refine lv_rei (x' := (nI (i + 1))) (nI_add _ _) ?_
        refine va_sld hx hb hXs hbl hbA hS (vp_in_nI (by omega) (by omega)) dL_law_244 ?_
        refine lv_rei (x' := (nI j)) ((congrArg xs (nI_clamp (by omega))).trans ex1.symm) ?_
        refine lv_aload_n hx hb dL_law_245 rfl (lv_at hl 0 rfl) ?_
        refine lv_iload hx hb dL_law_246 (lv_at hl 4 rfl) ?_
        refine lv_iconst (v := (nI 2)) hx hb dL_law_248 (by decide) ?_
        refine lv_iadd hx hb dL_law_249 ?_
        refine lv_rei (x' := (nI (i + 2))) (nI_add _ _) ?_
        refine va_sld hx hb hXs hbl hbA hS (vp_in_nI (by omega) (by omega)) dL_law_250 ?_
        refine lv_rei (x' := (nI v)) ((congrArg xs (nI_clamp (by omega))).trans ex2.symm) ?_
        refine lv_aload_n hx hb dL_law_251 rfl (lv_at hl 0 rfl) ?_
        refine lv_iload hx hb dL_law_252 (lv_at hl 4 rfl) ?_
        refine lv_iconst (v := (nI 3)) hx hb dL_law_254 (by decide) ?_
        refine lv_iadd hx hb dL_law_255 ?_
        refine lv_rei (x' := (nI (i + 3))) (nI_add _ _) ?_
        refine va_sld hx hb hXs hbl hbA hS (vp_in_nI (by omega) (by omega)) dL_law_256 ?_
        refine lv_rei (x' := (nI kd)) ((congrArg xs (nI_clamp (by omega))).trans ex3.symm) ?_
        refine lv_aload_n hx hb dL_law_257 rfl (lv_at hl 0 rfl) ?_
        refine lv_iload hx hb dL_law_258 (lv_at hl 4 rfl) ?_
        refine lv_iconst (v := (nI 4)) hx hb dL_law_260 (by decide) ?_
        refine lv_iadd hx hb dL_law_261 ?_
        refine lv_rei (x' := (nI (i + 4))) (nI_add _ _) ?_
        refine va_sld hx hb hXs hbl hbA hS (vp_in_nI (by omega) (by omega)) dL_law_262 ?_
        refine lv_rei (x' := (xs (i + 4))) (congrArg xs (nI_clamp (by omega))) ?_
        refine lv_i2l hx hb dL_law_263 rfl ?_
        refine lv_bipush (v := (nI 32)) hx hb dL_law_264 (by decide) ?_
        refine lv_lshl hx hb dL_law_266 rfl ?_
        refine lv_aload_n hx hb dL_law_267 rfl (lv_at hl 0 rfl) ?_
        refine lv_iload hx hb dL_law_268 (lv_at hl 4 rfl) ?_
        refine lv_iconst (v := (nI 5)) hx hb dL_law_270 (by decide) ?_
        refine lv_iadd hx hb dL_law_271 ?_
        refine lv_rei (x' := (nI (i + 5))) (nI_add _ _) ?_
        refine va_sld hx hb hXs hbl hbA hS (vp_in_nI (by omega) (by omega)) dL_law_272 ?_
        refine lv_rei (x' := (xs (i + 5))) (congrArg xs (nI_clamp (by omega))) ?_
        refine lv_i2l hx hb dL_law_273 rfl ?_
        refine lv_ldc2 (v := (lN 4294967295)) hx hb hown (hts (.constantLong RL 19 (lN 4294967295)) (by decide +kernel)) dL_law_274 ?_
        refine lv_land hx hb dL_law_277 ?_
        refine lv_lor hx hb dL_law_278 ?_
        refine lv_rel (x' := (lN d)) (eD.symm) ?_
        refine wVi (rest := []) ⟨hx, hb, hml, hown, hts⟩ [.int (nI j), .int (nI v), .int (nI kd), .long (lN d)] [0, 1, 8, 9, 10, 2 * j + 28, 2 * j + 29, 2] (c_X4_make_yes l g H.size (s0 := s0) (ks := ks) (lt := lt) (ty := ty) (lg := lg) (dg := dg) (kn := kn) (mn := mn) (tn := tn) (cc := cc) (sp := sp) (fk := fk) (wa := wa) (st := st) (rk := rk) (fw := fw) (fs := fs) (fl := fl) (k := k) (kb := kb) (fr := (kf j)) (un := (ku j)) (cl := (fus j)) (f := f) (nz := nz) (i := j) (v := v) (kd := kd) (d := d) hj hkn hk hz (by omega) (by omega) (by omega) (by omega) (by omega) hst2) (cwV 4 hts gL_law_X4_make rfl rfl rfl (by decide +kernel) ⟨Nat.le_of_ble_eq_true rfl, Nat.le_of_ble_eq_true rfl⟩) hK hZ hS hP hD hA (by simp only [List.map_cons, List.map_nil, List.getElem?_cons_succ, List.getElem?_cons_zero, kyW_0 hKL, kyW_1 hKL]) (by simp <;> omega) (fun _ => Nat.le_of_ble_eq_true rfl) (fun _ => rfl) (va_recv hK.1 hP (ci := 5) (q0 := 0) rfl rfl) rfl hl.1 rfl (Nat.le_of_ble_eq_true rfl) dL_law_279 ⟨show cells + 0 ≤ 603072 by omega, show slots + 0 ≤ 7219306 by omega⟩ (fun r_294 u H locs hr_294 hP hD hS => ?_)
        obtain ⟨G, T, F2⟩ := u
        have hP : va_P g.1 vwCl ((s0, .inr (5, [.ref ks, .int (nI kn), .int (nI (mn + 1)), .ref lt, .ref ty, .int (nI tn), .int cc, .int sp, .ref lg, .ref dg])) :: (ks, .inl (g.2.1 4, 15, .inr (.inr (.inr (.inr fk))))) :: (lt, .inl (g.2.1 0, 16, .inl F2)) :: (ty, .inl (g.2.1 0, 40, .inl ft)) :: (lg, .inr (4, [.ref fa, .ref da, .ref ch])) :: (fa, .inl (g.2.1 1, 16384, .inl ff)) :: (da, .inl (g.2.1 0, 16384, .inl fd)) :: (ch, .inl (g.2.1 0, 16384, .inl fc)) :: (dg, .inr (2, [.ref wa, .ref st, .int (nI 1)])) :: (wa, .inl (g.2.1 0, 64, .inl G)) :: (st, .inl (g.2.1 0, 8, .inl T)) :: (m0, .inr (6, [.int th, .int (nI kn), .ref qf, .ref qu, .ref qz, .ref qd, .ref qx, .int (nI mn), .int has, .ref ql, .int (nI tn), .ref qg, .int cc, .ref qb, .ref qy, .ref qc, .int sp, .int rk, .ref qe, .ref qw, .ref qt, .ref qr, .ref qi])) :: (qf, .inl (g.2.1 0, 15, .inl kf)) :: (qu, .inl (g.2.1 0, 15, .inl ku)) :: (qz, .inl (g.2.1 0, 15, .inl fz)) :: (qd, .inl (g.2.1 2, 15, .inl fus)) :: (qx, .inl (g.2.1 1, 480, .inl fx)) :: (ql, .inl (g.2.1 0, 16, .inl fl2)) :: (qg, .inl (g.2.1 0, 40, .inl ft)) :: (qb, .inl (g.2.1 1, 16384, .inl ff)) :: (qy, .inl (g.2.1 0, 16384, .inl fd)) :: (qc, .inl (g.2.1 0, 16384, .inl fc)) :: (qe, .inl (g.2.1 1, 32, .inl fe)) :: (qw, .inl (g.2.1 0, 64, .inl fw2)) :: (qt, .inl (g.2.1 0, 8, .inl fs2)) :: (qr, .inl (g.2.1 0, 64, .inl fr9)) :: (qi, .inl (g.2.1 0, 8, .inl fb9)) :: (ao, .inl (g.2.1 3, 1, .inr (.inl fo))) :: kyW g (KL.set j (k, kb, kf j, ku j, nz, nI 1, f))) H := (by rw [← kyW_s KL j k kb nz (kf j) (ku j) (nI 1) f (by omega)]; exact hP)
        have hD : va_D A ((s0, .inr (5, [.ref ks, .int (nI kn), .int (nI (mn + 1)), .ref lt, .ref ty, .int (nI tn), .int cc, .int sp, .ref lg, .ref dg])) :: (ks, .inl (g.2.1 4, 15, .inr (.inr (.inr (.inr fk))))) :: (lt, .inl (g.2.1 0, 16, .inl F2)) :: (ty, .inl (g.2.1 0, 40, .inl ft)) :: (lg, .inr (4, [.ref fa, .ref da, .ref ch])) :: (fa, .inl (g.2.1 1, 16384, .inl ff)) :: (da, .inl (g.2.1 0, 16384, .inl fd)) :: (ch, .inl (g.2.1 0, 16384, .inl fc)) :: (dg, .inr (2, [.ref wa, .ref st, .int (nI 1)])) :: (wa, .inl (g.2.1 0, 64, .inl G)) :: (st, .inl (g.2.1 0, 8, .inl T)) :: (m0, .inr (6, [.int th, .int (nI kn), .ref qf, .ref qu, .ref qz, .ref qd, .ref qx, .int (nI mn), .int has, .ref ql, .int (nI tn), .ref qg, .int cc, .ref qb, .ref qy, .ref qc, .int sp, .int rk, .ref qe, .ref qw, .ref qt, .ref qr, .ref qi])) :: (qf, .inl (g.2.1 0, 15, .inl kf)) :: (qu, .inl (g.2.1 0, 15, .inl ku)) :: (qz, .inl (g.2.1 0, 15, .inl fz)) :: (qd, .inl (g.2.1 2, 15, .inl fus)) :: (qx, .inl (g.2.1 1, 480, .inl fx)) :: (ql, .inl (g.2.1 0, 16, .inl fl2)) :: (qg, .inl (g.2.1 0, 40, .inl ft)) :: (qb, .inl (g.2.1 1, 16384, .inl ff)) :: (qy, .inl (g.2.1 0, 16384, .inl fd)) :: (qc, .inl (g.2.1 0, 16384, .inl fc)) :: (qe, .inl (g.2.1 1, 32, .inl fe)) :: (qw, .inl (g.2.1 0, 64, .inl fw2)) :: (qt, .inl (g.2.1 0, 8, .inl fs2)) :: (qr, .inl (g.2.1 0, 64, .inl fr9)) :: (qi, .inl (g.2.1 0, 8, .inl fb9)) :: (ao, .inl (g.2.1 3, 1, .inr (.inl fo))) :: kyW g (KL.set j (k, kb, kf j, ku j, nz, nI 1, f))) := (by rw [← kyW_s KL j k kb nz (kf j) (ku j) (nI 1) f (by omega)]; exact hD)
        obtain ⟨ea, eT, eF⟩ := hr_294
        refine lv_rei (x' := (nI 16)) (ea) ?_
        have eT : ∀ a, a < 8 → T a = dG f nz (pkN j kd v d mn) a := eT
        have eF : ∀ a, a < 16 → F2 a = ltE (pkN j kd v d mn) (sN f nz (pkN j kd v d mn)) a := eF
        refine lv_aload_n hx hb dL_law_282 rfl (lv_at hl 2 rfl) ?_
        refine lv_aload_n hx hb dL_law_283 rfl (lv_at hl 0 rfl) ?_
        refine lv_iload hx hb dL_law_284 (lv_at hl 4 rfl) ?_
        refine lv_iconst (v := (nI 1)) hx hb dL_law_286 (by decide) ?_
        refine lv_iadd hx hb dL_law_287 ?_
        refine lv_rei (x' := (nI (i + 1))) (nI_add _ _) ?_
        refine va_sld hx hb hXs hbl hbA hS (vp_in_nI (by omega) (by omega)) dL_law_288 ?_
        refine lv_rei (x' := (nI j)) ((congrArg xs (nI_clamp (by omega))).trans ex1.symm) ?_
        refine lv_aload_n hx hb dL_law_289 rfl (lv_at hl 0 rfl) ?_
        refine lv_iload hx hb dL_law_290 (lv_at hl 4 rfl) ?_
        refine lv_iconst (v := (nI 2)) hx hb dL_law_292 (by decide) ?_
        refine lv_iadd hx hb dL_law_293 ?_
        refine lv_rei (x' := (nI (i + 2))) (nI_add _ _) ?_
        refine va_sld hx hb hXs hbl hbA hS (vp_in_nI (by omega) (by omega)) dL_law_294 ?_
        refine lv_rei (x' := (nI v)) ((congrArg xs (nI_clamp (by omega))).trans ex2.symm) ?_
        refine lv_aload_n hx hb dL_law_295 rfl (lv_at hl 0 rfl) ?_
        refine lv_iload hx hb dL_law_296 (lv_at hl 4 rfl) ?_
        refine lv_iconst (v := (nI 3)) hx hb dL_law_298 (by decide) ?_
        refine lv_iadd hx hb dL_law_299 ?_
        refine lv_rei (x' := (nI (i + 3))) (nI_add _ _) ?_
        refine va_sld hx hb hXs hbl hbA hS (vp_in_nI (by omega) (by omega)) dL_law_300 ?_
        refine lv_rei (x' := (nI kd)) ((congrArg xs (nI_clamp (by omega))).trans ex3.symm) ?_
        refine lv_aload_n hx hb dL_law_301 rfl (lv_at hl 0 rfl) ?_
        refine lv_iload hx hb dL_law_302 (lv_at hl 4 rfl) ?_
        refine lv_iconst (v := (nI 4)) hx hb dL_law_304 (by decide) ?_
        refine lv_iadd hx hb dL_law_305 ?_
        refine lv_rei (x' := (nI (i + 4))) (nI_add _ _) ?_
        refine va_sld hx hb hXs hbl hbA hS (vp_in_nI (by omega) (by omega)) dL_law_306 ?_
        refine lv_rei (x' := (xs (i + 4))) (congrArg xs (nI_clamp (by omega))) ?_
        refine lv_i2l hx hb dL_law_307 rfl ?_
        refine lv_bipush (v := (nI 32)) hx hb dL_law_308 (by decide) ?_
        refine lv_lshl hx hb dL_law_310 rfl ?_
        refine lv_aload_n hx hb dL_law_311 rfl (lv_at hl 0 rfl) ?_
        refine lv_iload hx hb dL_law_312 (lv_at hl 4 rfl) ?_
        refine lv_iconst (v := (nI 5)) hx hb dL_law_314 (by decide) ?_
        refine lv_iadd hx hb dL_law_315 ?_
        refine lv_rei (x' := (nI (i + 5))) (nI_add _ _) ?_
        refine va_sld hx hb hXs hbl hbA hS (vp_in_nI (by omega) (by omega)) dL_law_316 ?_
        refine lv_rei (x' := (xs (i + 5))) (congrArg xs (nI_clamp (by omega))) ?_
        refine lv_i2l hx hb dL_law_317 rfl ?_
        refine lv_ldc2 (v := (lN 4294967295)) hx hb hown (hts (.constantLong RL 19 (lN 4294967295)) (by decide +kernel)) dL_law_318 ?_
        refine lv_land hx hb dL_law_321 ?_
        refine lv_lor hx hb dL_law_322 ?_
        refine lv_rel (x' := (lN d)) (eD.symm) ?_
        refine wVi (rest := [.int (nI 16)]) ⟨hx, hb, hml, hown, hts⟩ [.int (nI j), .int (nI v), .int (nI kd), .long (lN d)] [11, 14, 16, 23, 24, 22, 25, 26, 12, 13, 17, 15] (c_X5_make_yes l g H.size (m0 := m0) (kn := kn) (mn := mn) (tn := tn) (qf := qf) (qu := qu) (qz := qz) (qd := qd) (qx := qx) (ql := ql) (qg := qg) (qb := qb) (qy := qy) (qc := qc) (qe := qe) (qw := qw) (qt := qt) (qr := qr) (qi := qi) (th := th) (has := has) (cc := cc) (sp := sp) (rk := rk) (kf := kf) (ku := ku) (fz := fz) (fus := fus) (fx := fx) (fw := fw2) (fs := fs2) (fe := fe) (fr9 := fr9) (fb9 := fb9) (fl := fl2) (f := f) (i := j) (nz := nz) (v := v) (kd := kd) (d := d) hj hkn (by omega) (by omega) (by omega) (by omega) (by omega) hst2 hfz hz hf hr9 hb9) (cwV 4 hts gL_law_X5_make rfl rfl rfl (by decide +kernel) ⟨Nat.le_of_ble_eq_true rfl, Nat.le_of_ble_eq_true rfl⟩) hK hZ hS hP hD hA rfl (by decide) (fun _ => Nat.le_of_ble_eq_true rfl) (fun _ => rfl) (va_recv hK.1 hP (ci := 6) (q0 := 11) rfl rfl) rfl hl.1 rfl (Nat.le_of_ble_eq_true rfl) dL_law_323 ⟨show cells + 0 + 0 ≤ 603072 by omega, show slots + 0 + 0 ≤ 7219306 by omega⟩ (fun r_295 u H locs hr_295 hP hD hS => ?_)
        obtain ⟨G5, T5, E5, F5⟩ := u
        have hP : va_P g.1 vwCl ((s0, .inr (5, [.ref ks, .int (nI kn), .int (nI (mn + 1)), .ref lt, .ref ty, .int (nI tn), .int cc, .int sp, .ref lg, .ref dg])) :: (ks, .inl (g.2.1 4, 15, .inr (.inr (.inr (.inr fk))))) :: (lt, .inl (g.2.1 0, 16, .inl F2)) :: (ty, .inl (g.2.1 0, 40, .inl ft)) :: (lg, .inr (4, [.ref fa, .ref da, .ref ch])) :: (fa, .inl (g.2.1 1, 16384, .inl ff)) :: (da, .inl (g.2.1 0, 16384, .inl fd)) :: (ch, .inl (g.2.1 0, 16384, .inl fc)) :: (dg, .inr (2, [.ref wa, .ref st, .int (nI 1)])) :: (wa, .inl (g.2.1 0, 64, .inl G)) :: (st, .inl (g.2.1 0, 8, .inl T)) :: (m0, .inr (6, [.int (nI 0), .int (nI kn), .ref qf, .ref qu, .ref qz, .ref qd, .ref qx, .int (nI (mn + 1)), .int (nI 1), .ref ql, .int (nI tn), .ref qg, .int cc, .ref qb, .ref qy, .ref qc, .int sp, .int (nI 1), .ref qe, .ref qw, .ref qt, .ref qr, .ref qi])) :: (qf, .inl (g.2.1 0, 15, .inl kf)) :: (qu, .inl (g.2.1 0, 15, .inl ku)) :: (qz, .inl (g.2.1 0, 15, .inl fz)) :: (qd, .inl (g.2.1 2, 15, .inl (upd fus j (nI 1)))) :: (qx, .inl (g.2.1 1, 480, .inl fx)) :: (ql, .inl (g.2.1 0, 16, .inl F5)) :: (qg, .inl (g.2.1 0, 40, .inl ft)) :: (qb, .inl (g.2.1 1, 16384, .inl ff)) :: (qy, .inl (g.2.1 0, 16384, .inl fd)) :: (qc, .inl (g.2.1 0, 16384, .inl fc)) :: (qe, .inl (g.2.1 1, 32, .inl E5)) :: (qw, .inl (g.2.1 0, 64, .inl G5)) :: (qt, .inl (g.2.1 0, 8, .inl T5)) :: (qr, .inl (g.2.1 0, 64, .inl fr9)) :: (qi, .inl (g.2.1 0, 8, .inl fb9)) :: (ao, .inl (g.2.1 3, 1, .inr (.inl fo))) :: kyW g (KL.set j (k, kb, kf j, ku j, nz, nI 1, f))) H := hP
        have hD : va_D A ((s0, .inr (5, [.ref ks, .int (nI kn), .int (nI (mn + 1)), .ref lt, .ref ty, .int (nI tn), .int cc, .int sp, .ref lg, .ref dg])) :: (ks, .inl (g.2.1 4, 15, .inr (.inr (.inr (.inr fk))))) :: (lt, .inl (g.2.1 0, 16, .inl F2)) :: (ty, .inl (g.2.1 0, 40, .inl ft)) :: (lg, .inr (4, [.ref fa, .ref da, .ref ch])) :: (fa, .inl (g.2.1 1, 16384, .inl ff)) :: (da, .inl (g.2.1 0, 16384, .inl fd)) :: (ch, .inl (g.2.1 0, 16384, .inl fc)) :: (dg, .inr (2, [.ref wa, .ref st, .int (nI 1)])) :: (wa, .inl (g.2.1 0, 64, .inl G)) :: (st, .inl (g.2.1 0, 8, .inl T)) :: (m0, .inr (6, [.int (nI 0), .int (nI kn), .ref qf, .ref qu, .ref qz, .ref qd, .ref qx, .int (nI (mn + 1)), .int (nI 1), .ref ql, .int (nI tn), .ref qg, .int cc, .ref qb, .ref qy, .ref qc, .int sp, .int (nI 1), .ref qe, .ref qw, .ref qt, .ref qr, .ref qi])) :: (qf, .inl (g.2.1 0, 15, .inl kf)) :: (qu, .inl (g.2.1 0, 15, .inl ku)) :: (qz, .inl (g.2.1 0, 15, .inl fz)) :: (qd, .inl (g.2.1 2, 15, .inl (upd fus j (nI 1)))) :: (qx, .inl (g.2.1 1, 480, .inl fx)) :: (ql, .inl (g.2.1 0, 16, .inl F5)) :: (qg, .inl (g.2.1 0, 40, .inl ft)) :: (qb, .inl (g.2.1 1, 16384, .inl ff)) :: (qy, .inl (g.2.1 0, 16384, .inl fd)) :: (qc, .inl (g.2.1 0, 16384, .inl fc)) :: (qe, .inl (g.2.1 1, 32, .inl E5)) :: (qw, .inl (g.2.1 0, 64, .inl G5)) :: (qt, .inl (g.2.1 0, 8, .inl T5)) :: (qr, .inl (g.2.1 0, 64, .inl fr9)) :: (qi, .inl (g.2.1 0, 8, .inl fb9)) :: (ao, .inl (g.2.1 3, 1, .inr (.inl fo))) :: kyW g (KL.set j (k, kb, kf j, ku j, nz, nI 1, f))) := hD
        obtain ⟨eb, eE, eF5⟩ := hr_295
        refine lv_rei (x' := (nI 16)) (eb) ?_
        have eE : ∀ a, a < 32 → E5 a = oB (dG f nz (pkN j kd v d mn) (a / 4)) (24 - 8 * (a % 4)) := eE
        have eF5 : ∀ a, a < 16 → F5 a = ltE (pkN j kd v d mn) (sN f nz (pkN j kd v d mn)) a := eF5
        refine lv_icmp_eq (tgt := 645) hx hb dL_law_326 (by decide) (fun _ => ?_) (fun c9 => absurd (rfl) c9)
        refine W.widen (k := cells + 2) (n := slots + 40) (by omega) (by omega) ?_
        exact kk _ _ ⟨kn, mn + 1, tn, cc, sp, (nI 1), (nI 0), (nI 1), fk, F2, ft, ff, fd, fc, G, T, kf, ku, fz, upd fus j (nI 1), fx, F5, E5, G5, T5, fr9, fb9, fo, KL.set j (k, kb, kf j, ku j, nz, nI 1, f), hP, hD, ⟨hkn, by rw [List.length_set]; exact hlen, hKs.close hlen hj hk hfz hz hf, fun a h1 h2 => by rw [pk_un (show a ≠ j by omega)]; exact hfree a h1 h2, by omega, htn, hsp, hff, Or.inr ⟨rfl, fun a ha => by rw [eF a ha, eF5 a ha]⟩, Or.inr ⟨rfl, fun a ha => by rw [eE a ha, eT (a / 4) (by omega)]⟩, hr9, hb9⟩⟩ hS ls (lv_sub hl [0, 1, 2, 3, 4] rfl)
      · refine lv_aload_n hx hb dL_law_238 rfl (lv_at hl 1 rfl) ?_
        refine lv_aload_n hx hb dL_law_239 rfl (lv_at hl 0 rfl) ?_
        refine lv_iload hx hb dL_law_240 (lv_at hl 4 rfl) ?_
        refine lv_iconst (v := (nI 1)) hx hb dL_law_242 (by decide) ?_
        refine lv_iadd hx hb dL_law_243 ?_
        refine lv_rei (x' := (nI (i + 1))) (nI_add _ _) ?_
        refine va_sld hx hb hXs hbl hbA hS (vp_in_nI (by omega) (by omega)) dL_law_244 ?_
        refine lv_rei (x' := (nI j)) ((congrArg xs (nI_clamp (by omega))).trans ex1.symm) ?_
        refine lv_aload_n hx hb dL_law_245 rfl (lv_at hl 0 rfl) ?_
        refine lv_iload hx hb dL_law_246 (lv_at hl 4 rfl) ?_
        refine lv_iconst (v := (nI 2)) hx hb dL_law_248 (by decide) ?_
        refine lv_iadd hx hb dL_law_249 ?_
        refine lv_rei (x' := (nI (i + 2))) (nI_add _ _) ?_
        refine va_sld hx hb hXs hbl hbA hS (vp_in_nI (by omega) (by omega)) dL_law_250 ?_
        refine lv_rei (x' := x2) ((congrArg xs (nI_clamp (by omega))).trans ex2.symm) ?_
        refine lv_aload_n hx hb dL_law_251 rfl (lv_at hl 0 rfl) ?_
        refine lv_iload hx hb dL_law_252 (lv_at hl 4 rfl) ?_
        refine lv_iconst (v := (nI 3)) hx hb dL_law_254 (by decide) ?_
        refine lv_iadd hx hb dL_law_255 ?_
        refine lv_rei (x' := (nI (i + 3))) (nI_add _ _) ?_
        refine va_sld hx hb hXs hbl hbA hS (vp_in_nI (by omega) (by omega)) dL_law_256 ?_
        refine lv_rei (x' := x3) ((congrArg xs (nI_clamp (by omega))).trans ex3.symm) ?_
        refine lv_aload_n hx hb dL_law_257 rfl (lv_at hl 0 rfl) ?_
        refine lv_iload hx hb dL_law_258 (lv_at hl 4 rfl) ?_
        refine lv_iconst (v := (nI 4)) hx hb dL_law_260 (by decide) ?_
        refine lv_iadd hx hb dL_law_261 ?_
        refine lv_rei (x' := (nI (i + 4))) (nI_add _ _) ?_
        refine va_sld hx hb hXs hbl hbA hS (vp_in_nI (by omega) (by omega)) dL_law_262 ?_
        refine lv_rei (x' := (xs (i + 4))) (congrArg xs (nI_clamp (by omega))) ?_
        refine lv_i2l hx hb dL_law_263 rfl ?_
        refine lv_bipush (v := (nI 32)) hx hb dL_law_264 (by decide) ?_
        refine lv_lshl hx hb dL_law_266 rfl ?_
        refine lv_aload_n hx hb dL_law_267 rfl (lv_at hl 0 rfl) ?_
        refine lv_iload hx hb dL_law_268 (lv_at hl 4 rfl) ?_
        refine lv_iconst (v := (nI 5)) hx hb dL_law_270 (by decide) ?_
        refine lv_iadd hx hb dL_law_271 ?_
        refine lv_rei (x' := (nI (i + 5))) (nI_add _ _) ?_
        refine va_sld hx hb hXs hbl hbA hS (vp_in_nI (by omega) (by omega)) dL_law_272 ?_
        refine lv_rei (x' := (xs (i + 5))) (congrArg xs (nI_clamp (by omega))) ?_
        refine lv_i2l hx hb dL_law_273 rfl ?_
        refine lv_ldc2 (v := (lN 4294967295)) hx hb hown (hts (.constantLong RL 19 (lN 4294967295)) (by decide +kernel)) dL_law_274 ?_
        refine lv_land hx hb dL_law_277 ?_
        refine lv_lor hx hb dL_law_278 ?_
        refine lv_rel (x' := D) (eD.symm) ?_
        refine cVi (rest := []) ⟨hx, hb, hml, hown, hts⟩ [.int (nI j), .int x2, .int x3, .long D] (c_X4_make_state l g (s0 := s0) (ks := ks) (lt := lt) (ty := ty) (lg := lg) (dg := dg) (kn := kn) (mn := mn) (tn := tn) (cc := cc) (sp := sp) (fk := fk) (i := j) (k := k) (kb := kb) (fr := (kf j)) (un := (ku j)) (cn := (nI nz)) (cl := (fus j)) (xv := x2) (xk := x3) (xd := D) hj hkn hk hd hst) (cwV 4 hts gL_law_X4_make rfl rfl rfl (by decide +kernel) ⟨Nat.le_of_ble_eq_true rfl, Nat.le_of_ble_eq_true rfl⟩) hK hZ hS (subP hP [0, 1, 2 * j + 28] (by simp only [List.map_cons, List.map_nil, List.getElem?_cons_succ, List.getElem?_cons_zero, kyW_0 hKL])) (va_recv hK.1 hP (ci := 5) (q0 := 0) rfl rfl) rfl hl.1 rfl (Nat.le_of_ble_eq_true rfl) dL_law_279 ⟨show cells ≤ 603072 by omega, show slots ≤ 7219306 by omega⟩ (fun r_296 hr_296 => ?_)
        refine lv_rei (x' := (-23)) (hr_296) ?_
        refine lv_aload_n hx hb dL_law_282 rfl (lv_at hl 2 rfl) ?_
        refine lv_aload_n hx hb dL_law_283 rfl (lv_at hl 0 rfl) ?_
        refine lv_iload hx hb dL_law_284 (lv_at hl 4 rfl) ?_
        refine lv_iconst (v := (nI 1)) hx hb dL_law_286 (by decide) ?_
        refine lv_iadd hx hb dL_law_287 ?_
        refine lv_rei (x' := (nI (i + 1))) (nI_add _ _) ?_
        refine va_sld hx hb hXs hbl hbA hS (vp_in_nI (by omega) (by omega)) dL_law_288 ?_
        refine lv_rei (x' := (nI j)) ((congrArg xs (nI_clamp (by omega))).trans ex1.symm) ?_
        refine lv_aload_n hx hb dL_law_289 rfl (lv_at hl 0 rfl) ?_
        refine lv_iload hx hb dL_law_290 (lv_at hl 4 rfl) ?_
        refine lv_iconst (v := (nI 2)) hx hb dL_law_292 (by decide) ?_
        refine lv_iadd hx hb dL_law_293 ?_
        refine lv_rei (x' := (nI (i + 2))) (nI_add _ _) ?_
        refine va_sld hx hb hXs hbl hbA hS (vp_in_nI (by omega) (by omega)) dL_law_294 ?_
        refine lv_rei (x' := x2) ((congrArg xs (nI_clamp (by omega))).trans ex2.symm) ?_
        refine lv_aload_n hx hb dL_law_295 rfl (lv_at hl 0 rfl) ?_
        refine lv_iload hx hb dL_law_296 (lv_at hl 4 rfl) ?_
        refine lv_iconst (v := (nI 3)) hx hb dL_law_298 (by decide) ?_
        refine lv_iadd hx hb dL_law_299 ?_
        refine lv_rei (x' := (nI (i + 3))) (nI_add _ _) ?_
        refine va_sld hx hb hXs hbl hbA hS (vp_in_nI (by omega) (by omega)) dL_law_300 ?_
        refine lv_rei (x' := x3) ((congrArg xs (nI_clamp (by omega))).trans ex3.symm) ?_
        refine lv_aload_n hx hb dL_law_301 rfl (lv_at hl 0 rfl) ?_
        refine lv_iload hx hb dL_law_302 (lv_at hl 4 rfl) ?_
        refine lv_iconst (v := (nI 4)) hx hb dL_law_304 (by decide) ?_
        refine lv_iadd hx hb dL_law_305 ?_
        refine lv_rei (x' := (nI (i + 4))) (nI_add _ _) ?_
        refine va_sld hx hb hXs hbl hbA hS (vp_in_nI (by omega) (by omega)) dL_law_306 ?_
        refine lv_rei (x' := (xs (i + 4))) (congrArg xs (nI_clamp (by omega))) ?_
        refine lv_i2l hx hb dL_law_307 rfl ?_
        refine lv_bipush (v := (nI 32)) hx hb dL_law_308 (by decide) ?_
        refine lv_lshl hx hb dL_law_310 rfl ?_
        refine lv_aload_n hx hb dL_law_311 rfl (lv_at hl 0 rfl) ?_
        refine lv_iload hx hb dL_law_312 (lv_at hl 4 rfl) ?_
        refine lv_iconst (v := (nI 5)) hx hb dL_law_314 (by decide) ?_
        refine lv_iadd hx hb dL_law_315 ?_
        refine lv_rei (x' := (nI (i + 5))) (nI_add _ _) ?_
        refine va_sld hx hb hXs hbl hbA hS (vp_in_nI (by omega) (by omega)) dL_law_316 ?_
        refine lv_rei (x' := (xs (i + 5))) (congrArg xs (nI_clamp (by omega))) ?_
        refine lv_i2l hx hb dL_law_317 rfl ?_
        refine lv_ldc2 (v := (lN 4294967295)) hx hb hown (hts (.constantLong RL 19 (lN 4294967295)) (by decide +kernel)) dL_law_318 ?_
        refine lv_land hx hb dL_law_321 ?_
        refine lv_lor hx hb dL_law_322 ?_
        refine lv_rel (x' := D) (eD.symm) ?_
        refine wVi (rest := [.int (-23)]) ⟨hx, hb, hml, hown, hts⟩ [.int (nI j), .int x2, .int x3, .long D] [11, 12, 13] (c_X5_make_state l g H.size (m0 := m0) (kn := kn) (mn := mn) (tn := tn) (qf := qf) (qu := qu) (qz := qz) (qd := qd) (qx := qx) (ql := ql) (qg := qg) (qb := qb) (qy := qy) (qc := qc) (qe := qe) (qw := qw) (qt := qt) (qr := qr) (qi := qi) (th := th) (has := has) (cc := cc) (sp := sp) (rk := rk) (kf := kf) (ku := ku) (i := j) (xv := x2) (xk := x3) (xd := D) hj hkn hd hst) (cwV 4 hts gL_law_X5_make rfl rfl rfl (by decide +kernel) ⟨Nat.le_of_ble_eq_true rfl, Nat.le_of_ble_eq_true rfl⟩) hK hZ hS hP hD hA rfl (by decide) (fun _ => Nat.le_of_ble_eq_true rfl) (fun _ => rfl) (va_recv hK.1 hP (ci := 6) (q0 := 11) rfl rfl) rfl hl.1 rfl (Nat.le_of_ble_eq_true rfl) dL_law_323 ⟨show cells + 0 ≤ 603072 by omega, show slots + 0 ≤ 7219306 by omega⟩ (fun r_297 u H locs hr_297 hP hD hS => ?_)
        have hP : va_P g.1 vwCl ((s0, .inr (5, [.ref ks, .int (nI kn), .int (nI mn), .ref lt, .ref ty, .int (nI tn), .int cc, .int sp, .ref lg, .ref dg])) :: (ks, .inl (g.2.1 4, 15, .inr (.inr (.inr (.inr fk))))) :: (lt, .inl (g.2.1 0, 16, .inl fl)) :: (ty, .inl (g.2.1 0, 40, .inl ft)) :: (lg, .inr (4, [.ref fa, .ref da, .ref ch])) :: (fa, .inl (g.2.1 1, 16384, .inl ff)) :: (da, .inl (g.2.1 0, 16384, .inl fd)) :: (ch, .inl (g.2.1 0, 16384, .inl fc)) :: (dg, .inr (2, [.ref wa, .ref st, .int rk])) :: (wa, .inl (g.2.1 0, 64, .inl fw)) :: (st, .inl (g.2.1 0, 8, .inl fs)) :: (m0, .inr (6, [.int (nI 0), .int (nI kn), .ref qf, .ref qu, .ref qz, .ref qd, .ref qx, .int (nI mn), .int has, .ref ql, .int (nI tn), .ref qg, .int cc, .ref qb, .ref qy, .ref qc, .int sp, .int rk, .ref qe, .ref qw, .ref qt, .ref qr, .ref qi])) :: (qf, .inl (g.2.1 0, 15, .inl kf)) :: (qu, .inl (g.2.1 0, 15, .inl ku)) :: (qz, .inl (g.2.1 0, 15, .inl fz)) :: (qd, .inl (g.2.1 2, 15, .inl fus)) :: (qx, .inl (g.2.1 1, 480, .inl fx)) :: (ql, .inl (g.2.1 0, 16, .inl fl2)) :: (qg, .inl (g.2.1 0, 40, .inl ft)) :: (qb, .inl (g.2.1 1, 16384, .inl ff)) :: (qy, .inl (g.2.1 0, 16384, .inl fd)) :: (qc, .inl (g.2.1 0, 16384, .inl fc)) :: (qe, .inl (g.2.1 1, 32, .inl fe)) :: (qw, .inl (g.2.1 0, 64, .inl fw2)) :: (qt, .inl (g.2.1 0, 8, .inl fs2)) :: (qr, .inl (g.2.1 0, 64, .inl fr9)) :: (qi, .inl (g.2.1 0, 8, .inl fb9)) :: (ao, .inl (g.2.1 3, 1, .inr (.inl fo))) :: kyW g KL) H := hP
        have hD : va_D A ((s0, .inr (5, [.ref ks, .int (nI kn), .int (nI mn), .ref lt, .ref ty, .int (nI tn), .int cc, .int sp, .ref lg, .ref dg])) :: (ks, .inl (g.2.1 4, 15, .inr (.inr (.inr (.inr fk))))) :: (lt, .inl (g.2.1 0, 16, .inl fl)) :: (ty, .inl (g.2.1 0, 40, .inl ft)) :: (lg, .inr (4, [.ref fa, .ref da, .ref ch])) :: (fa, .inl (g.2.1 1, 16384, .inl ff)) :: (da, .inl (g.2.1 0, 16384, .inl fd)) :: (ch, .inl (g.2.1 0, 16384, .inl fc)) :: (dg, .inr (2, [.ref wa, .ref st, .int rk])) :: (wa, .inl (g.2.1 0, 64, .inl fw)) :: (st, .inl (g.2.1 0, 8, .inl fs)) :: (m0, .inr (6, [.int (nI 0), .int (nI kn), .ref qf, .ref qu, .ref qz, .ref qd, .ref qx, .int (nI mn), .int has, .ref ql, .int (nI tn), .ref qg, .int cc, .ref qb, .ref qy, .ref qc, .int sp, .int rk, .ref qe, .ref qw, .ref qt, .ref qr, .ref qi])) :: (qf, .inl (g.2.1 0, 15, .inl kf)) :: (qu, .inl (g.2.1 0, 15, .inl ku)) :: (qz, .inl (g.2.1 0, 15, .inl fz)) :: (qd, .inl (g.2.1 2, 15, .inl fus)) :: (qx, .inl (g.2.1 1, 480, .inl fx)) :: (ql, .inl (g.2.1 0, 16, .inl fl2)) :: (qg, .inl (g.2.1 0, 40, .inl ft)) :: (qb, .inl (g.2.1 1, 16384, .inl ff)) :: (qy, .inl (g.2.1 0, 16384, .inl fd)) :: (qc, .inl (g.2.1 0, 16384, .inl fc)) :: (qe, .inl (g.2.1 1, 32, .inl fe)) :: (qw, .inl (g.2.1 0, 64, .inl fw2)) :: (qt, .inl (g.2.1 0, 8, .inl fs2)) :: (qr, .inl (g.2.1 0, 64, .inl fr9)) :: (qi, .inl (g.2.1 0, 8, .inl fb9)) :: (ao, .inl (g.2.1 3, 1, .inr (.inl fo))) :: kyW g KL) := hD
        refine lv_rei (x' := (-23)) (hr_297) ?_
        refine lv_icmp_eq (tgt := 645) hx hb dL_law_326 (by decide) (fun _ => ?_) (fun c9 => absurd (rfl) c9)
        refine W.widen (k := cells + 2) (n := slots + 40) (by omega) (by omega) ?_
        exact kk _ _ ⟨kn, mn, tn, cc, sp, rk, (nI 0), has, fk, fl, ft, ff, fd, fc, fw, fs, kf, ku, fz, fus, fx, fl2, fe, fw2, fs2, fr9, fb9, fo, KL, hP, hD, ⟨hkn, hlen, hKs, hfree, by omega, htn, hsp, hff, hlt, hrk, hr9, hb9⟩⟩ hS ls (lv_sub hl [0, 1, 2, 3, 4] rfl)
    · refine lv_aload_n hx hb dL_law_238 rfl (lv_at hl 1 rfl) ?_
      refine lv_aload_n hx hb dL_law_239 rfl (lv_at hl 0 rfl) ?_
      refine lv_iload hx hb dL_law_240 (lv_at hl 4 rfl) ?_
      refine lv_iconst (v := (nI 1)) hx hb dL_law_242 (by decide) ?_
      refine lv_iadd hx hb dL_law_243 ?_
      refine lv_rei (x' := (nI (i + 1))) (nI_add _ _) ?_
      refine va_sld hx hb hXs hbl hbA hS (vp_in_nI (by omega) (by omega)) dL_law_244 ?_
      refine lv_rei (x' := (nI j)) ((congrArg xs (nI_clamp (by omega))).trans ex1.symm) ?_
      refine lv_aload_n hx hb dL_law_245 rfl (lv_at hl 0 rfl) ?_
      refine lv_iload hx hb dL_law_246 (lv_at hl 4 rfl) ?_
      refine lv_iconst (v := (nI 2)) hx hb dL_law_248 (by decide) ?_
      refine lv_iadd hx hb dL_law_249 ?_
      refine lv_rei (x' := (nI (i + 2))) (nI_add _ _) ?_
      refine va_sld hx hb hXs hbl hbA hS (vp_in_nI (by omega) (by omega)) dL_law_250 ?_
      refine lv_rei (x' := x2) ((congrArg xs (nI_clamp (by omega))).trans ex2.symm) ?_
      refine lv_aload_n hx hb dL_law_251 rfl (lv_at hl 0 rfl) ?_
      refine lv_iload hx hb dL_law_252 (lv_at hl 4 rfl) ?_
      refine lv_iconst (v := (nI 3)) hx hb dL_law_254 (by decide) ?_
      refine lv_iadd hx hb dL_law_255 ?_
      refine lv_rei (x' := (nI (i + 3))) (nI_add _ _) ?_
      refine va_sld hx hb hXs hbl hbA hS (vp_in_nI (by omega) (by omega)) dL_law_256 ?_
      refine lv_rei (x' := x3) ((congrArg xs (nI_clamp (by omega))).trans ex3.symm) ?_
      refine lv_aload_n hx hb dL_law_257 rfl (lv_at hl 0 rfl) ?_
      refine lv_iload hx hb dL_law_258 (lv_at hl 4 rfl) ?_
      refine lv_iconst (v := (nI 4)) hx hb dL_law_260 (by decide) ?_
      refine lv_iadd hx hb dL_law_261 ?_
      refine lv_rei (x' := (nI (i + 4))) (nI_add _ _) ?_
      refine va_sld hx hb hXs hbl hbA hS (vp_in_nI (by omega) (by omega)) dL_law_262 ?_
      refine lv_rei (x' := (xs (i + 4))) (congrArg xs (nI_clamp (by omega))) ?_
      refine lv_i2l hx hb dL_law_263 rfl ?_
      refine lv_bipush (v := (nI 32)) hx hb dL_law_264 (by decide) ?_
      refine lv_lshl hx hb dL_law_266 rfl ?_
      refine lv_aload_n hx hb dL_law_267 rfl (lv_at hl 0 rfl) ?_
      refine lv_iload hx hb dL_law_268 (lv_at hl 4 rfl) ?_
      refine lv_iconst (v := (nI 5)) hx hb dL_law_270 (by decide) ?_
      refine lv_iadd hx hb dL_law_271 ?_
      refine lv_rei (x' := (nI (i + 5))) (nI_add _ _) ?_
      refine va_sld hx hb hXs hbl hbA hS (vp_in_nI (by omega) (by omega)) dL_law_272 ?_
      refine lv_rei (x' := (xs (i + 5))) (congrArg xs (nI_clamp (by omega))) ?_
      refine lv_i2l hx hb dL_law_273 rfl ?_
      refine lv_ldc2 (v := (lN 4294967295)) hx hb hown (hts (.constantLong RL 19 (lN 4294967295)) (by decide +kernel)) dL_law_274 ?_
      refine lv_land hx hb dL_law_277 ?_
      refine lv_lor hx hb dL_law_278 ?_
      refine lv_rel (x' := D) (eD.symm) ?_
      refine cVi (rest := []) ⟨hx, hb, hml, hown, hts⟩ [.int (nI j), .int x2, .int x3, .long D] (c_X4_make_dom l g (s0 := s0) (ks := ks) (lt := lt) (ty := ty) (lg := lg) (dg := dg) (kn := kn) (mn := mn) (tn := tn) (cc := cc) (sp := sp) (fk := fk) (i := j) (k := k) (xv := x2) (xk := x3) (xd := D) hj hkn hk hd) (cwV 4 hts gL_law_X4_make rfl rfl rfl (by decide +kernel) ⟨Nat.le_of_ble_eq_true rfl, Nat.le_of_ble_eq_true rfl⟩) hK hZ hS (subP hP [0, 1] rfl) (va_recv hK.1 hP (ci := 5) (q0 := 0) rfl rfl) rfl hl.1 rfl (Nat.le_of_ble_eq_true rfl) dL_law_279 ⟨show cells ≤ 603072 by omega, show slots ≤ 7219306 by omega⟩ (fun r_298 hr_298 => ?_)
      refine lv_rei (x' := (-22)) (hr_298) ?_
      refine lv_aload_n hx hb dL_law_282 rfl (lv_at hl 2 rfl) ?_
      refine lv_aload_n hx hb dL_law_283 rfl (lv_at hl 0 rfl) ?_
      refine lv_iload hx hb dL_law_284 (lv_at hl 4 rfl) ?_
      refine lv_iconst (v := (nI 1)) hx hb dL_law_286 (by decide) ?_
      refine lv_iadd hx hb dL_law_287 ?_
      refine lv_rei (x' := (nI (i + 1))) (nI_add _ _) ?_
      refine va_sld hx hb hXs hbl hbA hS (vp_in_nI (by omega) (by omega)) dL_law_288 ?_
      refine lv_rei (x' := (nI j)) ((congrArg xs (nI_clamp (by omega))).trans ex1.symm) ?_
      refine lv_aload_n hx hb dL_law_289 rfl (lv_at hl 0 rfl) ?_
      refine lv_iload hx hb dL_law_290 (lv_at hl 4 rfl) ?_
      refine lv_iconst (v := (nI 2)) hx hb dL_law_292 (by decide) ?_
      refine lv_iadd hx hb dL_law_293 ?_
      refine lv_rei (x' := (nI (i + 2))) (nI_add _ _) ?_
      refine va_sld hx hb hXs hbl hbA hS (vp_in_nI (by omega) (by omega)) dL_law_294 ?_
      refine lv_rei (x' := x2) ((congrArg xs (nI_clamp (by omega))).trans ex2.symm) ?_
      refine lv_aload_n hx hb dL_law_295 rfl (lv_at hl 0 rfl) ?_
      refine lv_iload hx hb dL_law_296 (lv_at hl 4 rfl) ?_
      refine lv_iconst (v := (nI 3)) hx hb dL_law_298 (by decide) ?_
      refine lv_iadd hx hb dL_law_299 ?_
      refine lv_rei (x' := (nI (i + 3))) (nI_add _ _) ?_
      refine va_sld hx hb hXs hbl hbA hS (vp_in_nI (by omega) (by omega)) dL_law_300 ?_
      refine lv_rei (x' := x3) ((congrArg xs (nI_clamp (by omega))).trans ex3.symm) ?_
      refine lv_aload_n hx hb dL_law_301 rfl (lv_at hl 0 rfl) ?_
      refine lv_iload hx hb dL_law_302 (lv_at hl 4 rfl) ?_
      refine lv_iconst (v := (nI 4)) hx hb dL_law_304 (by decide) ?_
      refine lv_iadd hx hb dL_law_305 ?_
      refine lv_rei (x' := (nI (i + 4))) (nI_add _ _) ?_
      refine va_sld hx hb hXs hbl hbA hS (vp_in_nI (by omega) (by omega)) dL_law_306 ?_
      refine lv_rei (x' := (xs (i + 4))) (congrArg xs (nI_clamp (by omega))) ?_
      refine lv_i2l hx hb dL_law_307 rfl ?_
      refine lv_bipush (v := (nI 32)) hx hb dL_law_308 (by decide) ?_
      refine lv_lshl hx hb dL_law_310 rfl ?_
      refine lv_aload_n hx hb dL_law_311 rfl (lv_at hl 0 rfl) ?_
      refine lv_iload hx hb dL_law_312 (lv_at hl 4 rfl) ?_
      refine lv_iconst (v := (nI 5)) hx hb dL_law_314 (by decide) ?_
      refine lv_iadd hx hb dL_law_315 ?_
      refine lv_rei (x' := (nI (i + 5))) (nI_add _ _) ?_
      refine va_sld hx hb hXs hbl hbA hS (vp_in_nI (by omega) (by omega)) dL_law_316 ?_
      refine lv_rei (x' := (xs (i + 5))) (congrArg xs (nI_clamp (by omega))) ?_
      refine lv_i2l hx hb dL_law_317 rfl ?_
      refine lv_ldc2 (v := (lN 4294967295)) hx hb hown (hts (.constantLong RL 19 (lN 4294967295)) (by decide +kernel)) dL_law_318 ?_
      refine lv_land hx hb dL_law_321 ?_
      refine lv_lor hx hb dL_law_322 ?_
      refine lv_rel (x' := D) (eD.symm) ?_
      refine wVi (rest := [.int (-22)]) ⟨hx, hb, hml, hown, hts⟩ [.int (nI j), .int x2, .int x3, .long D] [11] (c_X5_make_dom l g H.size (m0 := m0) (kn := kn) (mn := mn) (tn := tn) (qf := qf) (qu := qu) (qz := qz) (qd := qd) (qx := qx) (ql := ql) (qg := qg) (qb := qb) (qy := qy) (qc := qc) (qe := qe) (qw := qw) (qt := qt) (qr := qr) (qi := qi) (th := th) (has := has) (cc := cc) (sp := sp) (rk := rk) (i := j) (xv := x2) (xk := x3) (xd := D) hj hkn hd) (cwV 4 hts gL_law_X5_make rfl rfl rfl (by decide +kernel) ⟨Nat.le_of_ble_eq_true rfl, Nat.le_of_ble_eq_true rfl⟩) hK hZ hS hP hD hA rfl (by decide) (fun _ => Nat.le_of_ble_eq_true rfl) (fun _ => rfl) (va_recv hK.1 hP (ci := 6) (q0 := 11) rfl rfl) rfl hl.1 rfl (Nat.le_of_ble_eq_true rfl) dL_law_323 ⟨show cells + 0 ≤ 603072 by omega, show slots + 0 ≤ 7219306 by omega⟩ (fun r_299 u H locs hr_299 hP hD hS => ?_)
      have hP : va_P g.1 vwCl ((s0, .inr (5, [.ref ks, .int (nI kn), .int (nI mn), .ref lt, .ref ty, .int (nI tn), .int cc, .int sp, .ref lg, .ref dg])) :: (ks, .inl (g.2.1 4, 15, .inr (.inr (.inr (.inr fk))))) :: (lt, .inl (g.2.1 0, 16, .inl fl)) :: (ty, .inl (g.2.1 0, 40, .inl ft)) :: (lg, .inr (4, [.ref fa, .ref da, .ref ch])) :: (fa, .inl (g.2.1 1, 16384, .inl ff)) :: (da, .inl (g.2.1 0, 16384, .inl fd)) :: (ch, .inl (g.2.1 0, 16384, .inl fc)) :: (dg, .inr (2, [.ref wa, .ref st, .int rk])) :: (wa, .inl (g.2.1 0, 64, .inl fw)) :: (st, .inl (g.2.1 0, 8, .inl fs)) :: (m0, .inr (6, [.int (nI 0), .int (nI kn), .ref qf, .ref qu, .ref qz, .ref qd, .ref qx, .int (nI mn), .int has, .ref ql, .int (nI tn), .ref qg, .int cc, .ref qb, .ref qy, .ref qc, .int sp, .int rk, .ref qe, .ref qw, .ref qt, .ref qr, .ref qi])) :: (qf, .inl (g.2.1 0, 15, .inl kf)) :: (qu, .inl (g.2.1 0, 15, .inl ku)) :: (qz, .inl (g.2.1 0, 15, .inl fz)) :: (qd, .inl (g.2.1 2, 15, .inl fus)) :: (qx, .inl (g.2.1 1, 480, .inl fx)) :: (ql, .inl (g.2.1 0, 16, .inl fl2)) :: (qg, .inl (g.2.1 0, 40, .inl ft)) :: (qb, .inl (g.2.1 1, 16384, .inl ff)) :: (qy, .inl (g.2.1 0, 16384, .inl fd)) :: (qc, .inl (g.2.1 0, 16384, .inl fc)) :: (qe, .inl (g.2.1 1, 32, .inl fe)) :: (qw, .inl (g.2.1 0, 64, .inl fw2)) :: (qt, .inl (g.2.1 0, 8, .inl fs2)) :: (qr, .inl (g.2.1 0, 64, .inl fr9)) :: (qi, .inl (g.2.1 0, 8, .inl fb9)) :: (ao, .inl (g.2.1 3, 1, .inr (.inl fo))) :: kyW g KL) H := hP
      have hD : va_D A ((s0, .inr (5, [.ref ks, .int (nI kn), .int (nI mn), .ref lt, .ref ty, .int (nI tn), .int cc, .int sp, .ref lg, .ref dg])) :: (ks, .inl (g.2.1 4, 15, .inr (.inr (.inr (.inr fk))))) :: (lt, .inl (g.2.1 0, 16, .inl fl)) :: (ty, .inl (g.2.1 0, 40, .inl ft)) :: (lg, .inr (4, [.ref fa, .ref da, .ref ch])) :: (fa, .inl (g.2.1 1, 16384, .inl ff)) :: (da, .inl (g.2.1 0, 16384, .inl fd)) :: (ch, .inl (g.2.1 0, 16384, .inl fc)) :: (dg, .inr (2, [.ref wa, .ref st, .int rk])) :: (wa, .inl (g.2.1 0, 64, .inl fw)) :: (st, .inl (g.2.1 0, 8, .inl fs)) :: (m0, .inr (6, [.int (nI 0), .int (nI kn), .ref qf, .ref qu, .ref qz, .ref qd, .ref qx, .int (nI mn), .int has, .ref ql, .int (nI tn), .ref qg, .int cc, .ref qb, .ref qy, .ref qc, .int sp, .int rk, .ref qe, .ref qw, .ref qt, .ref qr, .ref qi])) :: (qf, .inl (g.2.1 0, 15, .inl kf)) :: (qu, .inl (g.2.1 0, 15, .inl ku)) :: (qz, .inl (g.2.1 0, 15, .inl fz)) :: (qd, .inl (g.2.1 2, 15, .inl fus)) :: (qx, .inl (g.2.1 1, 480, .inl fx)) :: (ql, .inl (g.2.1 0, 16, .inl fl2)) :: (qg, .inl (g.2.1 0, 40, .inl ft)) :: (qb, .inl (g.2.1 1, 16384, .inl ff)) :: (qy, .inl (g.2.1 0, 16384, .inl fd)) :: (qc, .inl (g.2.1 0, 16384, .inl fc)) :: (qe, .inl (g.2.1 1, 32, .inl fe)) :: (qw, .inl (g.2.1 0, 64, .inl fw2)) :: (qt, .inl (g.2.1 0, 8, .inl fs2)) :: (qr, .inl (g.2.1 0, 64, .inl fr9)) :: (qi, .inl (g.2.1 0, 8, .inl fb9)) :: (ao, .inl (g.2.1 3, 1, .inr (.inl fo))) :: kyW g KL) := hD
      refine lv_rei (x' := (-22)) (hr_299) ?_
      refine lv_icmp_eq (tgt := 645) hx hb dL_law_326 (by decide) (fun _ => ?_) (fun c9 => absurd (rfl) c9)
      refine W.widen (k := cells + 2) (n := slots + 40) (by omega) (by omega) ?_
      exact kk _ _ ⟨kn, mn, tn, cc, sp, rk, (nI 0), has, fk, fl, ft, ff, fd, fc, fw, fs, kf, ku, fz, fus, fx, fl2, fe, fw2, fs2, fr9, fb9, fo, KL, hP, hD, ⟨hkn, hlen, hKs, hfree, by omega, htn, hsp, hff, hlt, hrk, hr9, hb9⟩⟩ hS ls (lv_sub hl [0, 1, 2, 3, 4] rfl)
  · refine lv_aload_n hx hb dL_law_238 rfl (lv_at hl 1 rfl) ?_
    refine lv_aload_n hx hb dL_law_239 rfl (lv_at hl 0 rfl) ?_
    refine lv_iload hx hb dL_law_240 (lv_at hl 4 rfl) ?_
    refine lv_iconst (v := (nI 1)) hx hb dL_law_242 (by decide) ?_
    refine lv_iadd hx hb dL_law_243 ?_
    refine lv_rei (x' := (nI (i + 1))) (nI_add _ _) ?_
    refine va_sld hx hb hXs hbl hbA hS (vp_in_nI (by omega) (by omega)) dL_law_244 ?_
    refine lv_rei (x' := x1) ((congrArg xs (nI_clamp (by omega))).trans ex1.symm) ?_
    refine lv_aload_n hx hb dL_law_245 rfl (lv_at hl 0 rfl) ?_
    refine lv_iload hx hb dL_law_246 (lv_at hl 4 rfl) ?_
    refine lv_iconst (v := (nI 2)) hx hb dL_law_248 (by decide) ?_
    refine lv_iadd hx hb dL_law_249 ?_
    refine lv_rei (x' := (nI (i + 2))) (nI_add _ _) ?_
    refine va_sld hx hb hXs hbl hbA hS (vp_in_nI (by omega) (by omega)) dL_law_250 ?_
    refine lv_rei (x' := x2) ((congrArg xs (nI_clamp (by omega))).trans ex2.symm) ?_
    refine lv_aload_n hx hb dL_law_251 rfl (lv_at hl 0 rfl) ?_
    refine lv_iload hx hb dL_law_252 (lv_at hl 4 rfl) ?_
    refine lv_iconst (v := (nI 3)) hx hb dL_law_254 (by decide) ?_
    refine lv_iadd hx hb dL_law_255 ?_
    refine lv_rei (x' := (nI (i + 3))) (nI_add _ _) ?_
    refine va_sld hx hb hXs hbl hbA hS (vp_in_nI (by omega) (by omega)) dL_law_256 ?_
    refine lv_rei (x' := x3) ((congrArg xs (nI_clamp (by omega))).trans ex3.symm) ?_
    refine lv_aload_n hx hb dL_law_257 rfl (lv_at hl 0 rfl) ?_
    refine lv_iload hx hb dL_law_258 (lv_at hl 4 rfl) ?_
    refine lv_iconst (v := (nI 4)) hx hb dL_law_260 (by decide) ?_
    refine lv_iadd hx hb dL_law_261 ?_
    refine lv_rei (x' := (nI (i + 4))) (nI_add _ _) ?_
    refine va_sld hx hb hXs hbl hbA hS (vp_in_nI (by omega) (by omega)) dL_law_262 ?_
    refine lv_rei (x' := (xs (i + 4))) (congrArg xs (nI_clamp (by omega))) ?_
    refine lv_i2l hx hb dL_law_263 rfl ?_
    refine lv_bipush (v := (nI 32)) hx hb dL_law_264 (by decide) ?_
    refine lv_lshl hx hb dL_law_266 rfl ?_
    refine lv_aload_n hx hb dL_law_267 rfl (lv_at hl 0 rfl) ?_
    refine lv_iload hx hb dL_law_268 (lv_at hl 4 rfl) ?_
    refine lv_iconst (v := (nI 5)) hx hb dL_law_270 (by decide) ?_
    refine lv_iadd hx hb dL_law_271 ?_
    refine lv_rei (x' := (nI (i + 5))) (nI_add _ _) ?_
    refine va_sld hx hb hXs hbl hbA hS (vp_in_nI (by omega) (by omega)) dL_law_272 ?_
    refine lv_rei (x' := (xs (i + 5))) (congrArg xs (nI_clamp (by omega))) ?_
    refine lv_i2l hx hb dL_law_273 rfl ?_
    refine lv_ldc2 (v := (lN 4294967295)) hx hb hown (hts (.constantLong RL 19 (lN 4294967295)) (by decide +kernel)) dL_law_274 ?_
    refine lv_land hx hb dL_law_277 ?_
    refine lv_lor hx hb dL_law_278 ?_
    refine lv_rel (x' := D) (eD.symm) ?_
    refine cVi (rest := []) ⟨hx, hb, hml, hown, hts⟩ [.int x1, .int x2, .int x3, .long D] (c_X4_make_out l g (s0 := s0) (ks := ks) (lt := lt) (ty := ty) (lg := lg) (dg := dg) (kn := kn) (mn := mn) (tn := tn) (cc := cc) (sp := sp) (fk := fk) (x := x1) (xv := x2) (xk := x3) (xd := D) h0 hkn) (cwV 4 hts gL_law_X4_make rfl rfl rfl (by decide +kernel) ⟨Nat.le_of_ble_eq_true rfl, Nat.le_of_ble_eq_true rfl⟩) hK hZ hS (subP hP [0, 1] rfl) (va_recv hK.1 hP (ci := 5) (q0 := 0) rfl rfl) rfl hl.1 rfl (Nat.le_of_ble_eq_true rfl) dL_law_279 ⟨show cells ≤ 603072 by omega, show slots ≤ 7219306 by omega⟩ (fun r_300 hr_300 => ?_)
    refine lv_rei (x' := (-21)) (hr_300) ?_
    refine lv_aload_n hx hb dL_law_282 rfl (lv_at hl 2 rfl) ?_
    refine lv_aload_n hx hb dL_law_283 rfl (lv_at hl 0 rfl) ?_
    refine lv_iload hx hb dL_law_284 (lv_at hl 4 rfl) ?_
    refine lv_iconst (v := (nI 1)) hx hb dL_law_286 (by decide) ?_
    refine lv_iadd hx hb dL_law_287 ?_
    refine lv_rei (x' := (nI (i + 1))) (nI_add _ _) ?_
    refine va_sld hx hb hXs hbl hbA hS (vp_in_nI (by omega) (by omega)) dL_law_288 ?_
    refine lv_rei (x' := x1) ((congrArg xs (nI_clamp (by omega))).trans ex1.symm) ?_
    refine lv_aload_n hx hb dL_law_289 rfl (lv_at hl 0 rfl) ?_
    refine lv_iload hx hb dL_law_290 (lv_at hl 4 rfl) ?_
    refine lv_iconst (v := (nI 2)) hx hb dL_law_292 (by decide) ?_
    refine lv_iadd hx hb dL_law_293 ?_
    refine lv_rei (x' := (nI (i + 2))) (nI_add _ _) ?_
    refine va_sld hx hb hXs hbl hbA hS (vp_in_nI (by omega) (by omega)) dL_law_294 ?_
    refine lv_rei (x' := x2) ((congrArg xs (nI_clamp (by omega))).trans ex2.symm) ?_
    refine lv_aload_n hx hb dL_law_295 rfl (lv_at hl 0 rfl) ?_
    refine lv_iload hx hb dL_law_296 (lv_at hl 4 rfl) ?_
    refine lv_iconst (v := (nI 3)) hx hb dL_law_298 (by decide) ?_
    refine lv_iadd hx hb dL_law_299 ?_
    refine lv_rei (x' := (nI (i + 3))) (nI_add _ _) ?_
    refine va_sld hx hb hXs hbl hbA hS (vp_in_nI (by omega) (by omega)) dL_law_300 ?_
    refine lv_rei (x' := x3) ((congrArg xs (nI_clamp (by omega))).trans ex3.symm) ?_
    refine lv_aload_n hx hb dL_law_301 rfl (lv_at hl 0 rfl) ?_
    refine lv_iload hx hb dL_law_302 (lv_at hl 4 rfl) ?_
    refine lv_iconst (v := (nI 4)) hx hb dL_law_304 (by decide) ?_
    refine lv_iadd hx hb dL_law_305 ?_
    refine lv_rei (x' := (nI (i + 4))) (nI_add _ _) ?_
    refine va_sld hx hb hXs hbl hbA hS (vp_in_nI (by omega) (by omega)) dL_law_306 ?_
    refine lv_rei (x' := (xs (i + 4))) (congrArg xs (nI_clamp (by omega))) ?_
    refine lv_i2l hx hb dL_law_307 rfl ?_
    refine lv_bipush (v := (nI 32)) hx hb dL_law_308 (by decide) ?_
    refine lv_lshl hx hb dL_law_310 rfl ?_
    refine lv_aload_n hx hb dL_law_311 rfl (lv_at hl 0 rfl) ?_
    refine lv_iload hx hb dL_law_312 (lv_at hl 4 rfl) ?_
    refine lv_iconst (v := (nI 5)) hx hb dL_law_314 (by decide) ?_
    refine lv_iadd hx hb dL_law_315 ?_
    refine lv_rei (x' := (nI (i + 5))) (nI_add _ _) ?_
    refine va_sld hx hb hXs hbl hbA hS (vp_in_nI (by omega) (by omega)) dL_law_316 ?_
    refine lv_rei (x' := (xs (i + 5))) (congrArg xs (nI_clamp (by omega))) ?_
    refine lv_i2l hx hb dL_law_317 rfl ?_
    refine lv_ldc2 (v := (lN 4294967295)) hx hb hown (hts (.constantLong RL 19 (lN 4294967295)) (by decide +kernel)) dL_law_318 ?_
    refine lv_land hx hb dL_law_321 ?_
    refine lv_lor hx hb dL_law_322 ?_
    refine lv_rel (x' := D) (eD.symm) ?_
    refine wVi (rest := [.int (-21)]) ⟨hx, hb, hml, hown, hts⟩ [.int x1, .int x2, .int x3, .long D] [11] (c_X5_make_out l g H.size (m0 := m0) (kn := kn) (mn := mn) (tn := tn) (qf := qf) (qu := qu) (qz := qz) (qd := qd) (qx := qx) (ql := ql) (qg := qg) (qb := qb) (qy := qy) (qc := qc) (qe := qe) (qw := qw) (qt := qt) (qr := qr) (qi := qi) (th := th) (has := has) (cc := cc) (sp := sp) (rk := rk) (x := x1) (xv := x2) (xk := x3) (xd := D) h0 hkn) (cwV 4 hts gL_law_X5_make rfl rfl rfl (by decide +kernel) ⟨Nat.le_of_ble_eq_true rfl, Nat.le_of_ble_eq_true rfl⟩) hK hZ hS hP hD hA rfl (by decide) (fun _ => Nat.le_of_ble_eq_true rfl) (fun _ => rfl) (va_recv hK.1 hP (ci := 6) (q0 := 11) rfl rfl) rfl hl.1 rfl (Nat.le_of_ble_eq_true rfl) dL_law_323 ⟨show cells + 0 ≤ 603072 by omega, show slots + 0 ≤ 7219306 by omega⟩ (fun r_301 u H locs hr_301 hP hD hS => ?_)
    have hP : va_P g.1 vwCl ((s0, .inr (5, [.ref ks, .int (nI kn), .int (nI mn), .ref lt, .ref ty, .int (nI tn), .int cc, .int sp, .ref lg, .ref dg])) :: (ks, .inl (g.2.1 4, 15, .inr (.inr (.inr (.inr fk))))) :: (lt, .inl (g.2.1 0, 16, .inl fl)) :: (ty, .inl (g.2.1 0, 40, .inl ft)) :: (lg, .inr (4, [.ref fa, .ref da, .ref ch])) :: (fa, .inl (g.2.1 1, 16384, .inl ff)) :: (da, .inl (g.2.1 0, 16384, .inl fd)) :: (ch, .inl (g.2.1 0, 16384, .inl fc)) :: (dg, .inr (2, [.ref wa, .ref st, .int rk])) :: (wa, .inl (g.2.1 0, 64, .inl fw)) :: (st, .inl (g.2.1 0, 8, .inl fs)) :: (m0, .inr (6, [.int (nI 0), .int (nI kn), .ref qf, .ref qu, .ref qz, .ref qd, .ref qx, .int (nI mn), .int has, .ref ql, .int (nI tn), .ref qg, .int cc, .ref qb, .ref qy, .ref qc, .int sp, .int rk, .ref qe, .ref qw, .ref qt, .ref qr, .ref qi])) :: (qf, .inl (g.2.1 0, 15, .inl kf)) :: (qu, .inl (g.2.1 0, 15, .inl ku)) :: (qz, .inl (g.2.1 0, 15, .inl fz)) :: (qd, .inl (g.2.1 2, 15, .inl fus)) :: (qx, .inl (g.2.1 1, 480, .inl fx)) :: (ql, .inl (g.2.1 0, 16, .inl fl2)) :: (qg, .inl (g.2.1 0, 40, .inl ft)) :: (qb, .inl (g.2.1 1, 16384, .inl ff)) :: (qy, .inl (g.2.1 0, 16384, .inl fd)) :: (qc, .inl (g.2.1 0, 16384, .inl fc)) :: (qe, .inl (g.2.1 1, 32, .inl fe)) :: (qw, .inl (g.2.1 0, 64, .inl fw2)) :: (qt, .inl (g.2.1 0, 8, .inl fs2)) :: (qr, .inl (g.2.1 0, 64, .inl fr9)) :: (qi, .inl (g.2.1 0, 8, .inl fb9)) :: (ao, .inl (g.2.1 3, 1, .inr (.inl fo))) :: kyW g KL) H := hP
    have hD : va_D A ((s0, .inr (5, [.ref ks, .int (nI kn), .int (nI mn), .ref lt, .ref ty, .int (nI tn), .int cc, .int sp, .ref lg, .ref dg])) :: (ks, .inl (g.2.1 4, 15, .inr (.inr (.inr (.inr fk))))) :: (lt, .inl (g.2.1 0, 16, .inl fl)) :: (ty, .inl (g.2.1 0, 40, .inl ft)) :: (lg, .inr (4, [.ref fa, .ref da, .ref ch])) :: (fa, .inl (g.2.1 1, 16384, .inl ff)) :: (da, .inl (g.2.1 0, 16384, .inl fd)) :: (ch, .inl (g.2.1 0, 16384, .inl fc)) :: (dg, .inr (2, [.ref wa, .ref st, .int rk])) :: (wa, .inl (g.2.1 0, 64, .inl fw)) :: (st, .inl (g.2.1 0, 8, .inl fs)) :: (m0, .inr (6, [.int (nI 0), .int (nI kn), .ref qf, .ref qu, .ref qz, .ref qd, .ref qx, .int (nI mn), .int has, .ref ql, .int (nI tn), .ref qg, .int cc, .ref qb, .ref qy, .ref qc, .int sp, .int rk, .ref qe, .ref qw, .ref qt, .ref qr, .ref qi])) :: (qf, .inl (g.2.1 0, 15, .inl kf)) :: (qu, .inl (g.2.1 0, 15, .inl ku)) :: (qz, .inl (g.2.1 0, 15, .inl fz)) :: (qd, .inl (g.2.1 2, 15, .inl fus)) :: (qx, .inl (g.2.1 1, 480, .inl fx)) :: (ql, .inl (g.2.1 0, 16, .inl fl2)) :: (qg, .inl (g.2.1 0, 40, .inl ft)) :: (qb, .inl (g.2.1 1, 16384, .inl ff)) :: (qy, .inl (g.2.1 0, 16384, .inl fd)) :: (qc, .inl (g.2.1 0, 16384, .inl fc)) :: (qe, .inl (g.2.1 1, 32, .inl fe)) :: (qw, .inl (g.2.1 0, 64, .inl fw2)) :: (qt, .inl (g.2.1 0, 8, .inl fs2)) :: (qr, .inl (g.2.1 0, 64, .inl fr9)) :: (qi, .inl (g.2.1 0, 8, .inl fb9)) :: (ao, .inl (g.2.1 3, 1, .inr (.inl fo))) :: kyW g KL) := hD
    refine lv_rei (x' := (-21)) (hr_301) ?_
    refine lv_icmp_eq (tgt := 645) hx hb dL_law_326 (by decide) (fun _ => ?_) (fun c9 => absurd (rfl) c9)
    refine W.widen (k := cells + 2) (n := slots + 40) (by omega) (by omega) ?_
    exact kk _ _ ⟨kn, mn, tn, cc, sp, rk, (nI 0), has, fk, fl, ft, ff, fd, fc, fw, fs, kf, ku, fz, fus, fx, fl2, fe, fw2, fs2, fr9, fb9, fo, KL, hP, hD, ⟨hkn, hlen, hKs, hfree, by omega, htn, hsp, hff, hlt, hrk, hr9, hb9⟩⟩ hS ls (lv_sub hl [0, 1, 2, 3, 4] rfl)
