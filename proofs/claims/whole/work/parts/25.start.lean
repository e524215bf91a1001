/-! the start: what the Statement gives of the classes, the statics and the constant text -/
def gwL : List Cond := flatC (Jvm.Cond.and given_1 narrow_1)
set_option maxRecDepth 20000 in
theorem gw_b : ∀ j, j < 8 → gwL[7 + j]? = some (Cond.eq (.elem (.static "StampMaker$Digest" "START" "[I") (.int (Int32.ofNat j))) (.int (sBeg j))) := by decide +kernel
set_option maxRecDepth 20000 in
theorem gw_k : ∀ j, j < 64 → gwL[18 + j]? = some (Cond.eq (.elem (.static "StampMaker$Digest" "ROUND_NUMBERS" "[I") (.int (Int32.ofNat j))) (.int (sK j))) := by decide +kernel
set_option maxRecDepth 20000 in
theorem gw_s : ∀ j, j < 32 → gwL[98 + j]? = some (Cond.eq (.elem (.field (.string RX4 148) "java/lang/String" "value" "[B") (.int (Int32.ofNat j))) (.int (aBL.getD j 0))) := by decide +kernel
theorem arr_of {args : Array Value} {s : State} {ty : FieldType} (h : (Cond.arrayClass ty).before args s = true) (hty : ∀ C, ty ≠ .object C) : ∃ cA, ArrOfT s cA ty ∧ va_RA s cA ty := by
  obtain ⟨cA, kA, comp, f1, f2, f3⟩ := Cond.arrayClass_spec (show (Cond.arrayClass ty).holds args s none s [] = true from h)
  refine ⟨cA, fun n z => ⟨fun k h => (by cases h), kA, f2, comp, f3⟩, ?_⟩
  cases ty with
  | object C => exact absurd rfl (hty C)
  | _ => exact f1
theorem arr_ofQ {args : Array Value} {s : State} {C : String} (h : (Cond.arrayOver (.object C)).before args s = true) : ∃ cA, ArrOfT s cA (.object C) ∧ va_RA s cA (.object C) := by
  obtain ⟨comp, c, k, f1, -, f2, f3, f4⟩ := Cond.arrayOver_spec (show (Cond.arrayOver (.object C)).holds args s none s [] = true from h)
  exact ⟨c, fun n z => ⟨fun k h => (by cases h), k, f2, comp, f3⟩, k, comp, f2, f3, f1, f4⟩
theorem eqR {args : Array Value} {s : State} {t u : Term} {a : Nat} (h : (Cond.eq t u).before args s = true) (ht : t.eval args s none [] s = some (.ref a)) : u.eval args s none [] s = some (.ref a) := by
  obtain ⟨w, h1, h2⟩ := Cond.eq_one (show (Cond.eq t u).holds args s none s [] = true from h)
  cases ht.symm.trans h1
  exact h2
set_option maxHeartbeats 4000000 in
set_option maxRecDepth 20000 in
theorem st_env {s : State} {b : Nat} {A : Nat → Prop} (hts : ∀ w ∈ lw_tbl, w.before #[Value.ref b] s = true) (hg : ∀ w ∈ gwL, w.before #[Value.ref b] s = true) (hA : ∀ a : Nat, a < s.heap.size → ¬ A a) : ∃ g : gE, gK g s ∧ gZ g A s s.heap := by
  obtain ⟨c0, i0, k0⟩ := u_known (C := RJ0) (T := TJ0) (N := 2) (n := 4) hts inJ0 (hts (.instantiable RJ0 4) (by decide +kernel))
  obtain ⟨c1, i1, k1⟩ := u_known (C := RJx00060) (T := TJx00060) (N := 6) (n := 6) hts inJx00060 (hts (.instantiable RJx00060 6) (by decide +kernel))
  obtain ⟨c2, i2, k2⟩ := u_known (C := RX0) (T := TX0) (N := 3) (n := 3) hts inX0 (hts (.instantiable RX0 3) (by decide +kernel))
  obtain ⟨c3, i3, k3⟩ := u_known (C := RX2) (T := TX2) (N := 5) (n := 5) hts inX2 (hts (.instantiable RX2 5) (by decide +kernel))
  obtain ⟨c4, i4, k4⟩ := u_known (C := RX3) (T := TX3) (N := 3) (n := 3) hts inX3 (hts (.instantiable RX3 3) (by decide +kernel))
  obtain ⟨c5, i5, k5⟩ := u_known (C := RX4) (T := TX4) (N := 10) (n := 10) hts inX4 (hts (.instantiable RX4 10) (by decide +kernel))
  obtain ⟨c6, i6, k6⟩ := u_known (C := RX5) (T := TX5) (N := 23) (n := 23) hts inX5 (hts (.instantiable RX5 23) (by decide +kernel))
  obtain ⟨a0, p0⟩ := arr_of (hts (.arrayClass .int) (by decide +kernel)) (fun _ h => by cases h)
  obtain ⟨a1, p1⟩ := arr_of (hts (.arrayClass .byte) (by decide +kernel)) (fun _ h => by cases h)
  obtain ⟨a2, p2⟩ := arr_of (hts (.arrayClass .boolean) (by decide +kernel)) (fun _ h => by cases h)
  obtain ⟨a3, p3⟩ := arr_of (hts (.arrayClass .long) (by decide +kernel)) (fun _ h => by cases h)
  have hov := hts (.arrayOver (.object "StampMaker$Key")) (by decide +kernel)
  obtain ⟨a4, p4⟩ := arr_ofQ hov
  obtain ⟨tb, eb, hTb⟩ := va_Tof (tm := .static "StampMaker$Digest" "START" "[I") (ty := .int) (N := 8) (f := fun j => .int (sBeg j)) (A := A) (by decide) (hg _ (List.mem_of_getElem? (i := 5) (by decide +kernel))) (va_eqt (hg _ (List.mem_of_getElem? (i := 6) (by decide +kernel)))) (fun j hj => va_eqt (hg _ (List.mem_of_getElem? (gw_b j hj)))) hA
  obtain ⟨tk, ek, hTk⟩ := va_Tof (tm := .static "StampMaker$Digest" "ROUND_NUMBERS" "[I") (ty := .int) (N := 64) (f := fun j => .int (sK j)) (A := A) (by decide) (hg _ (List.mem_of_getElem? (i := 16) (by decide +kernel))) (va_eqt (hg _ (List.mem_of_getElem? (i := 17) (by decide +kernel)))) (fun j hj => va_eqt (hg _ (List.mem_of_getElem? (gw_k j hj)))) hA
  obtain ⟨adK, adV, hStr, hev⟩ := vk_Sof (args := #[Value.ref b]) (s := s) (N := 1) (tm := fun _ => .string RX4 148) (len := [32]) (byt := [aBL]) (A := A)
    (fun i hi => by obtain rfl : i = 0 := by omega
                    decide)
    (fun _ _ => hg _ (List.mem_of_getElem? (i := 94) (by decide +kernel))) (fun _ _ => hg _ (List.mem_of_getElem? (i := 95) (by decide +kernel)))
    (fun _ _ => hg _ (List.mem_of_getElem? (i := 96) (by decide +kernel)))
    (fun i hi => by obtain rfl : i = 0 := by omega
                    exact hg _ (List.mem_of_getElem? (i := 97) (by decide +kernel)))
    (fun i hi j hj => by obtain rfl : i = 0 := by omega
                         exact hg _ (List.mem_of_getElem? (gw_s j hj)))
    (fun i j hi hj h => absurd (show i = j by omega) h) hA
  have hS1 : vk_S 1 [32] [aBL] (fun _ => adK 0) (fun _ => adV 0) A s s.heap := by
    refine ⟨fun i hi => ?_, fun i j hi hj _ => by omega⟩
    obtain rfl : i = 0 := by omega
    exact hStr.1 0 (by decide)
  have he4 := hev 0 (by decide)
  have he5 : (Term.string RX5 161).eval #[Value.ref b] s none [] s = some (.ref (adK 0)) := eqR (hg (Cond.eq (.string RX4 148) (.string RX5 161)) (by decide +kernel)) he4
  refine ⟨((fun k => [c0, c1, c2, c3, c4, c5, c6].getD k c0, fun k => [i0, i1, i2, i3, i4, i5, i6].getD k i0), (fun k => [a0, a1, a2, a3, a4].getD k a0, fun k => [tb, tk, adK 0, adV 0].getD k 0)), ⟨⟨?_, ?_⟩, va_AO.of hov, va_Nw.of rfl (hts (.methodLinkNest RX4 28 yX3_init RX4) (by decide +kernel)), va_Nw.of rfl (hts (.methodLinkNest RX4 35 yX0_init RX4) (by decide +kernel)), vk_R.of (hts (.stringRef RX4 148 rsT) (by decide +kernel)) he4, vk_R.of (hts (.stringRef RX5 161 rsT) (by decide +kernel)) he5⟩, ?_⟩
  · intro k q hq
    match k, hq with
    | 0, hq => cases hq; exact k0
    | 1, hq => cases hq; exact k1
    | 2, hq => cases hq; exact k2
    | 3, hq => cases hq; exact k3
    | 4, hq => cases hq; exact k4
    | 5, hq => cases hq; exact k5
    | 6, hq => cases hq; exact k6
    | k + 7, hq => simp [vwCl] at hq
  · intro k q hq
    match k, hq with
    | 0, hq => cases hq; exact p0
    | 1, hq => cases hq; exact p1
    | 2, hq => cases hq; exact p2
    | 3, hq => cases hq; exact p3
    | 4, hq => cases hq; exact p4
    | k + 5, hq => simp [gT] at hq
  · exact ⟨va_Zof (hts (.laysStatic "StampMaker$Digest" "START" "[I") (by decide +kernel)) (hts (.initialized "StampMaker$Digest") (by decide +kernel)) eb hA, hTb,
      va_Zof (hts (.laysStatic "StampMaker$Digest" "ROUND_NUMBERS" "[I") (by decide +kernel)) (hts (.initialized "StampMaker$Digest") (by decide +kernel)) ek hA, hTk,
      va_Zof (hts (.laysStatic "java/lang/String" "COMPACT_STRINGS" "Z") (by decide +kernel)) (hts (.initialized "java/lang/String") (by decide +kernel)) (va_eqi (hg _ (List.mem_of_getElem? (i := 82) (by decide +kernel)))) hA,
      va_Zqof (hts (.laysStatic "jdk/internal/util/Preconditions" "SIOOBE_FORMATTER" "Ljava/util/function/BiFunction;") (by decide +kernel)) (hts (.initialized "jdk/internal/util/Preconditions") (by decide +kernel)) (hg _ (List.mem_of_getElem? (i := 83) (by decide +kernel))) hA, hS1,
      vx_Zqof (hts (.laysStatic Bundle.tN "UNASSIGNED_STACK" Bundle.steD) (by decide +kernel)) (hts (.initialized Bundle.tN) (by decide +kernel)) (hg _ (List.mem_of_getElem? (i := 87) (by decide +kernel))) hA,
      vx_Zqof (hts (.laysStatic Bundle.tN "SUPPRESSED_SENTINEL" Bundle.listD) (by decide +kernel)) (hts (.initialized Bundle.tN) (by decide +kernel)) (hg _ (List.mem_of_getElem? (i := 88) (by decide +kernel))) hA⟩
theorem PI.mono {n kn mn tn : Nat} {sp rk has : Int32} {fk : Nat → Option Nat} {fl ff fs kf ku fz fus fx fl2 fe fr9 fb9 : Nat → Int32} {KL : List KT} (h : PI n kn mn tn sp rk has fk fl ff fs kf ku fz fus fx fl2 fe fr9 fb9 KL) : PI (n + 1) kn mn tn sp rk has fk fl ff fs kf ku fz fus fx fl2 fe fr9 fb9 KL := by
  obtain ⟨hkn, hlen, hKs, hfree, hmn, htn, hsp, hff, hlt, hrk, hr9, hb9⟩ := h
  exact ⟨hkn, hlen, hKs, hfree, by omega, htn, hsp, hff, hlt, hrk, hr9, hb9⟩
theorem LI.mono {g : gE} {s0 ks lt ty lg fa da ch dg wa st m0 qf qu qz qd qx ql qg qb qy qc qe qw qt qr qi ao : Nat} {A : Nat → Prop} {n : Nat} {H : Heap} (h : LI g s0 ks lt ty lg fa da ch dg wa st m0 qf qu qz qd qx ql qg qb qy qc qe qw qt qr qi ao A n H) : LI g s0 ks lt ty lg fa da ch dg wa st m0 qf qu qz qd qx ql qg qb qy qc qe qw qt qr qi ao A (n + 1) H := by
  obtain ⟨kn, mn, tn, cc, sp, rk, th, has, fk, fl, ft, ff, fd, fc, fw, fs, kf, ku, fz, fus, fx, fl2, fe, fw2, fs2, fr9, fb9, fo, KL, hP, hD, hI⟩ := h
  exact ⟨kn, mn, tn, cc, sp, rk, th, has, fk, fl, ft, ff, fd, fc, fw, fs, kf, ku, fz, fus, fx, fl2, fe, fw2, fs2, fr9, fb9, fo, KL, hP, hD, hI.mono⟩
