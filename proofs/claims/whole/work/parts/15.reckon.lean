theorem nI_nle2 {a b : Nat} (h : b < a) (ha : a < 2147483648) : ¬ nI a ≤ nI b := nI_ge h (by omega)
set_option maxHeartbeats 4000000 in
set_option maxRecDepth 100000 in
/-- the digest reckoned -/
theorem c_X5_reckon (l : Launch) (g : gE) (hsz : Nat) (m0 kn mn tn qf qu qz qd qx ql qg qb qy qc qe qw qt qr qi : Nat) (th has cc sp rk : Int32) (fz fx fw fs fe fr9 fb9 f : Nat → Int32) (i nz N : Nat) (hi : i < 15) (hfz : fz i = nI nz) (hz : nz ≤ 32) (hN : N < 36028797018963968) (hf : ∀ j, j < nz → f j = fx (32 * i + j)) (hr9 : ∀ j, j < 64 → fr9 j = sK j) (hb9 : ∀ j, j < 8 → fb9 j = sBeg j) : Met l yX5_reckon wsX5_reckon ({ frames := 1, cells := 0, slots := 0, locals := 25 }) (va_Pc [.ref m0, .int (nI i), .long (lN N)] (wr g [(m0, .inr (6, [.int th, .int (nI kn), .ref qf, .ref qu, .ref qz, .ref qd, .ref qx, .int (nI mn), .int has, .ref ql, .int (nI tn), .ref qg, .int cc, .ref qb, .ref qy, .ref qc, .int sp, .int rk, .ref qe, .ref qw, .ref qt, .ref qr, .ref qi])), (qz, .inl (g.2.1 0, 15, .inl fz)), (qx, .inl (g.2.1 1, 480, .inl fx)), (qw, .inl (g.2.1 0, 64, .inl fw)), (qt, .inl (g.2.1 0, 8, .inl fs)), (qe, .inl (g.2.1 1, 32, .inl fe)), (qr, .inl (g.2.1 0, 64, .inl fr9)), (qi, .inl (g.2.1 0, 8, .inl fb9))] hsz)) (va_Qv (fun (u : ((Nat → Int32) × (Nat → Int32) × (Nat → Int32))) => ∀ j, j < 32 → u.2.2 j = oB (dG f nz N (j / 4)) (24 - 8 * (j % 4))) (wB g (va_A [(m0, .inr (6, [.int th, .int (nI kn), .ref qf, .ref qu, .ref qz, .ref qd, .ref qx, .int (nI mn), .int has, .ref ql, .int (nI tn), .ref qg, .int cc, .ref qb, .ref qy, .ref qc, .int sp, .int rk, .ref qe, .ref qw, .ref qt, .ref qr, .ref qi])), (qz, .inl (g.2.1 0, 15, .inl fz)), (qx, .inl (g.2.1 1, 480, .inl fx)), (qw, .inl (g.2.1 0, 64, .inl fw)), (qt, .inl (g.2.1 0, 8, .inl fs)), (qe, .inl (g.2.1 1, 32, .inl fe)), (qr, .inl (g.2.1 0, 64, .inl fr9)), (qi, .inl (g.2.1 0, 8, .inl fb9))] hsz) (fun u : ((Nat → Int32) × (Nat → Int32) × (Nat → Int32)) => [(m0, .inr (6, [.int th, .int (nI kn), .ref qf, .ref qu, .ref qz, .ref qd, .ref qx, .int (nI mn), .int has, .ref ql, .int (nI tn), .ref qg, .int cc, .ref qb, .ref qy, .ref qc, .int sp, .int (nI 1), .ref qe, .ref qw, .ref qt, .ref qr, .ref qi])), (qz, .inl (g.2.1 0, 15, .inl fz)), (qx, .inl (g.2.1 1, 480, .inl fx)), (qw, .inl (g.2.1 0, 64, .inl u.1)), (qt, .inl (g.2.1 0, 8, .inl u.2.1)), (qe, .inl (g.2.1 1, 32, .inl u.2.2)), (qr, .inl (g.2.1 0, 64, .inl fr9)), (qi, .inl (g.2.1 0, 8, .inl fb9))])) (va_A [(m0, .inr (6, [.int th, .int (nI kn), .ref qf, .ref qu, .ref qz, .ref qd, .ref qx, .int (nI mn), .int has, .ref ql, .int (nI tn), .ref qg, .int cc, .ref qb, .ref qy, .ref qc, .int sp, .int rk, .ref qe, .ref qw, .ref qt, .ref qr, .ref qi])), (qz, .inl (g.2.1 0, 15, .inl fz)), (qx, .inl (g.2.1 1, 480, .inl fx)), (qw, .inl (g.2.1 0, 64, .inl fw)), (qt, .inl (g.2.1 0, 8, .inl fs)), (qe, .inl (g.2.1 1, 32, .inl fe)), (qr, .inl (g.2.1 0, 64, .inl fr9)), (qi, .inl (g.2.1 0, 8, .inl fb9))] hsz)) 0 0 (va_A [(m0, .inr (6, [.int th, .int (nI kn), .ref qf, .ref qu, .ref qz, .ref qd, .ref qx, .int (nI mn), .int has, .ref ql, .int (nI tn), .ref qg, .int cc, .ref qb, .ref qy, .ref qc, .int sp, .int rk, .ref qe, .ref qw, .ref qt, .ref qr, .ref qi])), (qz, .inl (g.2.1 0, 15, .inl fz)), (qx, .inl (g.2.1 1, 480, .inl fx)), (qw, .inl (g.2.1 0, 64, .inl fw)), (qt, .inl (g.2.1 0, 8, .inl fs)), (qe, .inl (g.2.1 1, 32, .inl fe)), (qr, .inl (g.2.1 0, 64, .inl fr9)), (qi, .inl (g.2.1 0, 8, .inl fb9))] hsz) := by
  refine ofWv (cc := cX5_reckon) (maxL := 10) (ret := none) (by decide) rfl (Nat.le_of_ble_eq_true rfl) (fun p e s m below meth c hx hb hr hml hts hown hlocks hnm A H hH hA hP hD hK hZ hS ls hl => ?_)
  have hown : s.vm.findClass RX5 = some m.cls := hown
  have hl : lv_has ls 10 [(0, .ref m0), (1, .int (nI i)), (2, .long (lN N))] := hl
  have hiX5 : ∀ w ∈ wsX50, w ∈ wsX5_reckon := by decide +kernel
  obtain ⟨Wd, eWd⟩ : ∃ z, z = wF (mW f nz N) 48 := ⟨_, rfl⟩
  have hWl : ∀ j, j < 16 → Wd j = mW f nz N j := by rw [eWd]; exact fun j hj => wF_low _ hj 48
  have hWv : ∀ t, 16 ≤ t → t < 64 → Wd t = stE Wd t := by rw [eWd]; exact fun t h1 h2 => wF_val _ h1 h2
  refine lv_iconst (v := (nI 0)) hx hb dX5_reckon_0 (by decide) ?_
  refine lv_istore (lv' := [(4, .int (nI 0)), (0, .ref m0), (1, .int (nI i)), (2, .long (lN N))]) hx hb dX5_reckon_1 hl (by decide) rfl (fun ls hl => ?_)
  have L1 : ∀ (fu : Nat) (t : Nat) (F : Nat → Int32), (65 ≤ t + fu) → (t ≤ 64) → (∀ j, j < t → F j = Wd j) → ∀ (H : Heap) (locs : List Loc), va_P g.1 vwCl [(m0, .inr (6, [.int th, .int (nI kn), .ref qf, .ref qu, .ref qz, .ref qd, .ref qx, .int (nI mn), .int has, .ref ql, .int (nI tn), .ref qg, .int cc, .ref qb, .ref qy, .ref qc, .int sp, .int rk, .ref qe, .ref qw, .ref qt, .ref qr, .ref qi])), (qz, .inl (g.2.1 0, 15, .inl fz)), (qx, .inl (g.2.1 1, 480, .inl fx)), (qw, .inl (g.2.1 0, 64, .inl F)), (qt, .inl (g.2.1 0, 8, .inl fs)), (qe, .inl (g.2.1 1, 32, .inl fe)), (qr, .inl (g.2.1 0, 64, .inl fr9)), (qi, .inl (g.2.1 0, 8, .inl fb9))] H → va_D A [(m0, .inr (6, [.int th, .int (nI kn), .ref qf, .ref qu, .ref qz, .ref qd, .ref qx, .int (nI mn), .int has, .ref ql, .int (nI tn), .ref qg, .int cc, .ref qb, .ref qy, .ref qc, .int sp, .int rk, .ref qe, .ref qw, .ref qt, .ref qr, .ref qi])), (qz, .inl (g.2.1 0, 15, .inl fz)), (qx, .inl (g.2.1 1, 480, .inl fx)), (qw, .inl (g.2.1 0, 64, .inl F)), (qt, .inl (g.2.1 0, 8, .inl fs)), (qe, .inl (g.2.1 1, 32, .inl fe)), (qr, .inl (g.2.1 0, 64, .inl fr9)), (qi, .inl (g.2.1 0, 8, .inl fb9))] → va_S A s.heap H locs → ∀ ls : Array Slot, lv_has ls 10 [(0, .ref m0), (1, .int (nI i)), (2, .long (lN N)), (4, .int (nI t))] → W p l e (headSpec wsX5_reckon ({ frames := 1, cells := 0, slots := 0, locals := 25 } : Room)).room s m ([.ref m0, .int (nI i), .long (lN N)] : List Value).toArray below meth c H locs 0 0 (MQ below (va_Qv (fun (u : ((Nat → Int32) × (Nat → Int32) × (Nat → Int32))) => ∀ j, j < 32 → u.2.2 j = oB (dG f nz N (j / 4)) (24 - 8 * (j % 4))) (wB g A (fun u : ((Nat → Int32) × (Nat → Int32) × (Nat → Int32)) => [(m0, .inr (6, [.int th, .int (nI kn), .ref qf, .ref qu, .ref qz, .ref qd, .ref qx, .int (nI mn), .int has, .ref ql, .int (nI tn), .ref qg, .int cc, .ref qb, .ref qy, .ref qc, .int sp, .int (nI 1), .ref qe, .ref qw, .ref qt, .ref qr, .ref qi])), (qz, .inl (g.2.1 0, 15, .inl fz)), (qx, .inl (g.2.1 1, 480, .inl fx)), (qw, .inl (g.2.1 0, 64, .inl u.1)), (qt, .inl (g.2.1 0, 8, .inl u.2.1)), (qe, .inl (g.2.1 1, 32, .inl u.2.2)), (qr, .inl (g.2.1 0, 64, .inl fr9)), (qi, .inl (g.2.1 0, 8, .inl fb9))])) A) ([.ref m0, .int (nI i), .long (lN N)] : List Value).toArray s 0 0 A) (F0 m 3 ls []) := by
    intro fu
    induction fu with
    | zero => intro t F h1 h2 h3 H locs hP hD hS ls hl; exact absurd h1 (by omega)
    | succ fu ihL1 =>
      intro t F h1 h2 h3 H locs hP hD hS ls hl
      refine lv_iload hx hb dX5_reckon_3 (lv_at hl 3 rfl) ?_
      refine lv_bipush (v := (nI 64)) hx hb dX5_reckon_5 (by decide) ?_
      rcases Nat.lt_or_ge t 64 with q | q
      · refine lv_icmp_ge (tgt := 179) hx hb dX5_reckon_7 (by decide) (fun c9 => absurd c9 (nI_ge (by omega) (by omega))) (fun _ => ?_)
        refine lv_aload_n hx hb dX5_reckon_10 rfl (lv_at hl 0 rfl) ?_
        refine va_get (D := g.1) (ci := 6) (v := .ref qw) (C := RX5) (T := TX5) (N := 23) hx hb hts hiX5 hown hK.1 hP 0 rfl rfl 19 (by decide) (hts (.fieldLink RX5 49 "StampMakerModel" "w" "[I") (by decide +kernel)) (fun _ h9 => h9) rfl dX5_reckon_11 ?_
        refine lv_iload hx hb dX5_reckon_14 (lv_at hl 3 rfl) ?_
        refine lv_iconst (v := (nI 0)) hx hb dX5_reckon_16 (by decide) ?_
        refine va_iast hx hb hK.1 hP hD hS 3 0 rfl rfl (vp_in_nI (by omega) (by omega)) dX5_reckon_17 (fun H locs hP hD hS => ?_)
        rw [nI_clamp (by omega)] at hP hD
        have hP : va_P g.1 vwCl [(m0, .inr (6, [.int th, .int (nI kn), .ref qf, .ref qu, .ref qz, .ref qd, .ref qx, .int (nI mn), .int has, .ref ql, .int (nI tn), .ref qg, .int cc, .ref qb, .ref qy, .ref qc, .int sp, .int rk, .ref qe, .ref qw, .ref qt, .ref qr, .ref qi])), (qz, .inl (g.2.1 0, 15, .inl fz)), (qx, .inl (g.2.1 1, 480, .inl fx)), (qw, .inl (g.2.1 0, 64, .inl (upd F t (nI 0)))), (qt, .inl (g.2.1 0, 8, .inl fs)), (qe, .inl (g.2.1 1, 32, .inl fe)), (qr, .inl (g.2.1 0, 64, .inl fr9)), (qi, .inl (g.2.1 0, 8, .inl fb9))] H := hP
        have hD : va_D A [(m0, .inr (6, [.int th, .int (nI kn), .ref qf, .ref qu, .ref qz, .ref qd, .ref qx, .int (nI mn), .int has, .ref ql, .int (nI tn), .ref qg, .int cc, .ref qb, .ref qy, .ref qc, .int sp, .int rk, .ref qe, .ref qw, .ref qt, .ref qr, .ref qi])), (qz, .inl (g.2.1 0, 15, .inl fz)), (qx, .inl (g.2.1 1, 480, .inl fx)), (qw, .inl (g.2.1 0, 64, .inl (upd F t (nI 0)))), (qt, .inl (g.2.1 0, 8, .inl fs)), (qe, .inl (g.2.1 1, 32, .inl fe)), (qr, .inl (g.2.1 0, 64, .inl fr9)), (qi, .inl (g.2.1 0, 8, .inl fb9))] := hD
        obtain ⟨F1, eF1⟩ : ∃ z, z = upd F t (nI 0) := ⟨_, rfl⟩
        rw [← eF1] at hP hD
        have hF1 : ∀ j, j < t → F1 j = Wd j := by rw [eF1]; intro j hj; unfold upd; rw [if_neg (by omega)]; exact h3 j hj
        have hF0 : F1 t = nI 0 := by rw [eF1]; unfold upd; rw [if_pos rfl]
        rcases Nat.lt_or_ge t 16 with q1 | q1
        · refine lv_iconst (v := (nI 0)) hx hb dX5_reckon_18 (by decide) ?_
          refine lv_istore (lv' := [(5, .int (nI 0)), (0, .ref m0), (1, .int (nI i)), (2, .long (lN N)), (4, .int (nI t))]) hx hb dX5_reckon_19 hl (by decide) rfl (fun ls hl => ?_)
          have L2 : ∀ (fu : Nat) (n : Nat) (F2 : Nat → Int32), (33 ≤ n + fu) → (n ≤ 32) → (∀ j, j < t → F2 j = Wd j) → (F2 t = nI (mF f nz N t n)) → ∀ (H : Heap) (locs : List Loc), va_P g.1 vwCl [(m0, .inr (6, [.int th, .int (nI kn), .ref qf, .ref qu, .ref qz, .ref qd, .ref qx, .int (nI mn), .int has, .ref ql, .int (nI tn), .ref qg, .int cc, .ref qb, .ref qy, .ref qc, .int sp, .int rk, .ref qe, .ref qw, .ref qt, .ref qr, .ref qi])), (qz, .inl (g.2.1 0, 15, .inl fz)), (qx, .inl (g.2.1 1, 480, .inl fx)), (qw, .inl (g.2.1 0, 64, .inl F2)), (qt, .inl (g.2.1 0, 8, .inl fs)), (qe, .inl (g.2.1 1, 32, .inl fe)), (qr, .inl (g.2.1 0, 64, .inl fr9)), (qi, .inl (g.2.1 0, 8, .inl fb9))] H → va_D A [(m0, .inr (6, [.int th, .int (nI kn), .ref qf, .ref qu, .ref qz, .ref qd, .ref qx, .int (nI mn), .int has, .ref ql, .int (nI tn), .ref qg, .int cc, .ref qb, .ref qy, .ref qc, .int sp, .int rk, .ref qe, .ref qw, .ref qt, .ref qr, .ref qi])), (qz, .inl (g.2.1 0, 15, .inl fz)), (qx, .inl (g.2.1 1, 480, .inl fx)), (qw, .inl (g.2.1 0, 64, .inl F2)), (qt, .inl (g.2.1 0, 8, .inl fs)), (qe, .inl (g.2.1 1, 32, .inl fe)), (qr, .inl (g.2.1 0, 64, .inl fr9)), (qi, .inl (g.2.1 0, 8, .inl fb9))] → va_S A s.heap H locs → ∀ ls : Array Slot, lv_has ls 10 [(0, .ref m0), (1, .int (nI i)), (2, .long (lN N)), (4, .int (nI t)), (5, .int (nI n))] → W p l e (headSpec wsX5_reckon ({ frames := 1, cells := 0, slots := 0, locals := 25 } : Room)).room s m ([.ref m0, .int (nI i), .long (lN N)] : List Value).toArray below meth c H locs 0 0 (MQ below (va_Qv (fun (u : ((Nat → Int32) × (Nat → Int32) × (Nat → Int32))) => ∀ j, j < 32 → u.2.2 j = oB (dG f nz N (j / 4)) (24 - 8 * (j % 4))) (wB g A (fun u : ((Nat → Int32) × (Nat → Int32) × (Nat → Int32)) => [(m0, .inr (6, [.int th, .int (nI kn), .ref qf, .ref qu, .ref qz, .ref qd, .ref qx, .int (nI mn), .int has, .ref ql, .int (nI tn), .ref qg, .int cc, .ref qb, .ref qy, .ref qc, .int sp, .int (nI 1), .ref qe, .ref qw, .ref qt, .ref qr, .ref qi])), (qz, .inl (g.2.1 0, 15, .inl fz)), (qx, .inl (g.2.1 1, 480, .inl fx)), (qw, .inl (g.2.1 0, 64, .inl u.1)), (qt, .inl (g.2.1 0, 8, .inl u.2.1)), (qe, .inl (g.2.1 1, 32, .inl u.2.2)), (qr, .inl (g.2.1 0, 64, .inl fr9)), (qi, .inl (g.2.1 0, 8, .inl fb9))])) A) ([.ref m0, .int (nI i), .long (lN N)] : List Value).toArray s 0 0 A) (F0 m 21 ls []) := by
            intro fu
            induction fu with
            | zero => intro n F2 k1 k2 k3 k4 H locs hP hD hS ls hl; exact absurd k1 (by omega)
            | succ fu ihL2 =>
              intro n F2 k1 k2 k3 k4 H locs hP hD hS ls hl
              refine lv_iload hx hb dX5_reckon_21 (lv_at hl 4 rfl) ?_
              refine lv_bipush (v := (nI 32)) hx hb dX5_reckon_23 (by decide) ?_
              rcases Nat.lt_or_ge n 32 with q2 | q2
              · refine lv_icmp_ge (tgt := 72) hx hb dX5_reckon_25 (by decide) (fun c9 => absurd c9 (nI_ge q2 (by omega))) (fun _ => ?_)
                refine lv_iload hx hb dX5_reckon_28 (lv_at hl 3 rfl) ?_
                refine lv_bipush (v := (nI 16)) hx hb dX5_reckon_30 (by decide) ?_
                refine lv_icmp_ge (tgt := 72) hx hb dX5_reckon_32 (by decide) (fun c9 => absurd c9 (nI_ge q1 (by omega))) (fun _ => ?_)
                refine lv_aload_n hx hb dX5_reckon_35 rfl (lv_at hl 0 rfl) ?_
                refine va_get (D := g.1) (ci := 6) (v := .ref qw) (C := RX5) (T := TX5) (N := 23) hx hb hts hiX5 hown hK.1 hP 0 rfl rfl 19 (by decide) (hts (.fieldLink RX5 49 "StampMakerModel" "w" "[I") (by decide +kernel)) (fun _ h9 => h9) rfl dX5_reckon_36 ?_
                refine lv_iload hx hb dX5_reckon_39 (lv_at hl 3 rfl) ?_
                refine lv_iconst (v := (nI 2)) hx hb dX5_reckon_41 (by decide) ?_
                refine lv_aload_n hx hb dX5_reckon_42 rfl (lv_at hl 0 rfl) ?_
                refine va_get (D := g.1) (ci := 6) (v := .ref qw) (C := RX5) (T := TX5) (N := 23) hx hb hts hiX5 hown hK.1 hP 0 rfl rfl 19 (by decide) (hts (.fieldLink RX5 49 "StampMakerModel" "w" "[I") (by decide +kernel)) (fun _ h9 => h9) rfl dX5_reckon_43 ?_
                refine lv_iload hx hb dX5_reckon_46 (lv_at hl 3 rfl) ?_
                refine va_iald hx hb hK.1 hP 3 0 rfl rfl (vp_in_nI (by omega) (by omega)) dX5_reckon_48 ?_
                refine lv_rei (x' := F2 t) (congrArg F2 (nI_clamp (by omega))) ?_
                refine lv_rei (x' := (nI (mF f nz N t n))) (k4) ?_
                refine lv_imul hx hb dX5_reckon_49 ?_
                refine lv_aload_n hx hb dX5_reckon_50 rfl (lv_at hl 0 rfl) ?_
                refine lv_iload_n hx hb dX5_reckon_51 rfl (lv_at hl 1 rfl) ?_
                refine lv_lload_n hx hb dX5_reckon_52 rfl (lv_at hl 2 rfl) ?_
                refine lv_bipush (v := (nI 32)) hx hb dX5_reckon_53 (by decide) ?_
                refine lv_iload hx hb dX5_reckon_55 (lv_at hl 3 rfl) ?_
                refine lv_imul hx hb dX5_reckon_57 ?_
                refine lv_rei (x' := (nI (32 * t))) (pk_mul _ _) ?_
                refine lv_iload hx hb dX5_reckon_58 (lv_at hl 4 rfl) ?_
                refine lv_iadd hx hb dX5_reckon_60 ?_
                refine lv_rei (x' := (nI (32 * t + n))) (nI_add _ _) ?_
                refine cVi (rest := [.int ((nI 2) * (nI (mF f nz N t n))), .int (nI t), .ref qw]) ⟨hx, hb, hml, hown, hts⟩ [.int (nI i), .long (lN N), .int (nI (32 * t + n))] (c_X5_bitAt l g (m0 := m0) (kn := kn) (mn := mn) (tn := tn) (qf := qf) (qu := qu) (qz := qz) (qd := qd) (qx := qx) (ql := ql) (qg := qg) (qb := qb) (qy := qy) (qc := qc) (qe := qe) (qw := qw) (qt := qt) (qr := qr) (qi := qi) (th := th) (has := has) (cc := cc) (sp := sp) (rk := rk) (fz := fz) (fx := fx) (f := f) (i := i) (nz := nz) (N := N) (b := (32 * t + n)) hi hfz hz hN hf (by omega)) (cwV 3 hts gX5_reckon_X5_bitAt rfl rfl rfl (by decide +kernel) ⟨Nat.le_of_ble_eq_true rfl, Nat.le_of_ble_eq_true rfl⟩) hK hZ hS (subP hP [0, 1, 2] rfl) (va_recv hK.1 hP (ci := 6) (q0 := 0) rfl rfl) rfl hl.1 rfl (Nat.le_of_ble_eq_true rfl) dX5_reckon_61 ⟨Nat.zero_le _, Nat.zero_le _⟩ (fun r_190 hr_190 => ?_)
                obtain rfl : r_190 = (nI (mbit f nz N (32 * t + n))) := hr_190
                refine lv_iadd hx hb dX5_reckon_64 ?_
                refine lv_rei (x' := (nI (mF f nz N t (n + 1)))) (mF_step) ?_
                refine va_iast hx hb hK.1 hP hD hS 3 0 rfl rfl (vp_in_nI (by omega) (by omega)) dX5_reckon_65 (fun H locs hP hD hS => ?_)
                rw [nI_clamp (by omega)] at hP hD
                have hP : va_P g.1 vwCl [(m0, .inr (6, [.int th, .int (nI kn), .ref qf, .ref qu, .ref qz, .ref qd, .ref qx, .int (nI mn), .int has, .ref ql, .int (nI tn), .ref qg, .int cc, .ref qb, .ref qy, .ref qc, .int sp, .int rk, .ref qe, .ref qw, .ref qt, .ref qr, .ref qi])), (qz, .inl (g.2.1 0, 15, .inl fz)), (qx, .inl (g.2.1 1, 480, .inl fx)), (qw, .inl (g.2.1 0, 64, .inl (upd F2 t (nI (mF f nz N t (n + 1)))))), (qt, .inl (g.2.1 0, 8, .inl fs)), (qe, .inl (g.2.1 1, 32, .inl fe)), (qr, .inl (g.2.1 0, 64, .inl fr9)), (qi, .inl (g.2.1 0, 8, .inl fb9))] H := hP
                have hD : va_D A [(m0, .inr (6, [.int th, .int (nI kn), .ref qf, .ref qu, .ref qz, .ref qd, .ref qx, .int (nI mn), .int has, .ref ql, .int (nI tn), .ref qg, .int cc, .ref qb, .ref qy, .ref qc, .int sp, .int rk, .ref qe, .ref qw, .ref qt, .ref qr, .ref qi])), (qz, .inl (g.2.1 0, 15, .inl fz)), (qx, .inl (g.2.1 1, 480, .inl fx)), (qw, .inl (g.2.1 0, 64, .inl (upd F2 t (nI (mF f nz N t (n + 1)))))), (qt, .inl (g.2.1 0, 8, .inl fs)), (qe, .inl (g.2.1 1, 32, .inl fe)), (qr, .inl (g.2.1 0, 64, .inl fr9)), (qi, .inl (g.2.1 0, 8, .inl fb9))] := hD
                refine lv_iinc (v := (nI (n + 1))) (lv' := [(5, .int (nI (n + 1))), (0, .ref m0), (1, .int (nI i)), (2, .long (lN N)), (4, .int (nI t))]) hx hb dX5_reckon_66 hl (k := 4) rfl (nI_1 _) (by decide) rfl (fun ls hl => ?_)
                refine lv_goto (tgt := 21) hx hb dX5_reckon_69 (by decide) ?_
                exact ihL2 (n + 1) (upd F2 t (nI (mF f nz N t (n + 1)))) (by omega) (by omega) (fun j hj => by unfold upd; rw [if_neg (by omega)]; exact k3 j hj) (by unfold upd; rw [if_pos rfl]) _ _ hP hD hS ls (lv_sub hl [1, 2, 3, 4, 0] rfl)
              · refine lv_icmp_ge (tgt := 72) hx hb dX5_reckon_25 (by decide) (fun _ => ?_) (fun c9 => absurd (nI_le q2 (by omega)) c9)
                refine lv_iload hx hb dX5_reckon_72 (lv_at hl 3 rfl) ?_
                refine lv_bipush (v := (nI 15)) hx hb dX5_reckon_74 (by decide) ?_
                refine lv_icmp_le (tgt := 173) hx hb dX5_reckon_76 (by decide) (fun _ => ?_) (fun c9 => absurd (nI_le (by omega) (by omega)) c9)
                refine lv_iinc (v := (nI (t + 1))) (lv' := [(4, .int (nI (t + 1))), (0, .ref m0), (1, .int (nI i)), (2, .long (lN N)), (5, .int (nI n))]) hx hb dX5_reckon_173 hl (k := 3) rfl (nI_1 _) (by decide) rfl (fun ls hl => ?_)
                refine lv_goto (tgt := 3) hx hb dX5_reckon_176 (by decide) ?_
                exact ihL1 (t + 1) F2 (by omega) (by omega) (fun j hj => by
                                  rcases Nat.lt_or_ge j t with z | z
                                  · exact k3 j z
                                  · rw [show j = t by omega, k4, show n = 32 by omega, mF_W q1 hz, hWl t q1]) _ _ hP hD hS ls (lv_sub hl [1, 2, 3, 0] rfl)
          exact L2 33 0 F1 (by omega) (by omega) (hF1) (hF0) _ _ hP hD hS ls (lv_sub hl [1, 2, 3, 4, 0] rfl)
        · refine lv_iconst (v := (nI 0)) hx hb dX5_reckon_18 (by decide) ?_
          refine lv_istore (lv' := [(5, .int (nI 0)), (0, .ref m0), (1, .int (nI i)), (2, .long (lN N)), (4, .int (nI t))]) hx hb dX5_reckon_19 hl (by decide) rfl (fun ls hl => ?_)
          refine lv_iload hx hb dX5_reckon_21 (lv_at hl 0 rfl) ?_
          refine lv_bipush (v := (nI 32)) hx hb dX5_reckon_23 (by decide) ?_
          refine lv_icmp_ge (tgt := 72) hx hb dX5_reckon_25 (by decide) (fun c9 => absurd c9 (by decide)) (fun _ => ?_)
          refine lv_iload hx hb dX5_reckon_28 (lv_at hl 4 rfl) ?_
          refine lv_bipush (v := (nI 16)) hx hb dX5_reckon_30 (by decide) ?_
          refine lv_icmp_ge (tgt := 72) hx hb dX5_reckon_32 (by decide) (fun _ => ?_) (fun c9 => absurd (nI_le q1 (by omega)) c9)
          refine lv_iload hx hb dX5_reckon_72 (lv_at hl 4 rfl) ?_
          refine lv_bipush (v := (nI 15)) hx hb dX5_reckon_74 (by decide) ?_
          refine lv_icmp_le (tgt := 173) hx hb dX5_reckon_76 (by decide) (fun c9 => absurd c9 (nI_nle2 (by omega) (by omega))) (fun _ => ?_)
          refine lv_aload_n hx hb dX5_reckon_79 rfl (lv_at hl 1 rfl) ?_
          refine va_get (D := g.1) (ci := 6) (v := .ref qw) (C := RX5) (T := TX5) (N := 23) hx hb hts hiX5 hown hK.1 hP 0 rfl rfl 19 (by decide) (hts (.fieldLink RX5 49 "StampMakerModel" "w" "[I") (by decide +kernel)) (fun _ h9 => h9) rfl dX5_reckon_80 ?_
          refine lv_iload hx hb dX5_reckon_83 (lv_at hl 4 rfl) ?_
          refine lv_bipush (v := (nI 15)) hx hb dX5_reckon_85 (by decide) ?_
          refine lv_isub hx hb dX5_reckon_87 ?_
          refine lv_rei (x' := (nI (t - 15))) (pk_sub (by omega)) ?_
          refine va_iald hx hb hK.1 hP 3 0 rfl rfl (vp_in_nI (by omega) (by omega)) dX5_reckon_88 ?_
          refine lv_rei (x' := F1 (t - 15)) (congrArg F1 (nI_clamp (by omega))) ?_
          refine lv_istore (lv' := [(5, .int (F1 (t - 15))), (0, .ref m0), (1, .int (nI i)), (2, .long (lN N)), (4, .int (nI t))]) hx hb dX5_reckon_89 hl (by decide) rfl (fun ls hl => ?_)
          refine lv_aload_n hx hb dX5_reckon_91 rfl (lv_at hl 1 rfl) ?_
          refine va_get (D := g.1) (ci := 6) (v := .ref qw) (C := RX5) (T := TX5) (N := 23) hx hb hts hiX5 hown hK.1 hP 0 rfl rfl 19 (by decide) (hts (.fieldLink RX5 49 "StampMakerModel" "w" "[I") (by decide +kernel)) (fun _ h9 => h9) rfl dX5_reckon_92 ?_
          refine lv_iload hx hb dX5_reckon_95 (lv_at hl 4 rfl) ?_
          refine lv_iconst (v := (nI 2)) hx hb dX5_reckon_97 (by decide) ?_
          refine lv_isub hx hb dX5_reckon_98 ?_
          refine lv_rei (x' := (nI (t - 2))) (pk_sub (by omega)) ?_
          refine va_iald hx hb hK.1 hP 3 0 rfl rfl (vp_in_nI (by omega) (by omega)) dX5_reckon_99 ?_
          refine lv_rei (x' := F1 (t - 2)) (congrArg F1 (nI_clamp (by omega))) ?_
          refine lv_istore (lv' := [(6, .int (F1 (t - 2))), (5, .int (F1 (t - 15))), (0, .ref m0), (1, .int (nI i)), (2, .long (lN N)), (4, .int (nI t))]) hx hb dX5_reckon_100 hl (by decide) rfl (fun ls hl => ?_)
          refine lv_aload_n hx hb dX5_reckon_102 rfl (lv_at hl 2 rfl) ?_
          refine va_get (D := g.1) (ci := 6) (v := .ref qw) (C := RX5) (T := TX5) (N := 23) hx hb hts hiX5 hown hK.1 hP 0 rfl rfl 19 (by decide) (hts (.fieldLink RX5 49 "StampMakerModel" "w" "[I") (by decide +kernel)) (fun _ h9 => h9) rfl dX5_reckon_103 ?_
          refine lv_iload hx hb dX5_reckon_106 (lv_at hl 5 rfl) ?_
          refine lv_aload_n hx hb dX5_reckon_108 rfl (lv_at hl 2 rfl) ?_
          refine va_get (D := g.1) (ci := 6) (v := .ref qw) (C := RX5) (T := TX5) (N := 23) hx hb hts hiX5 hown hK.1 hP 0 rfl rfl 19 (by decide) (hts (.fieldLink RX5 49 "StampMakerModel" "w" "[I") (by decide +kernel)) (fun _ h9 => h9) rfl dX5_reckon_109 ?_
          refine lv_iload hx hb dX5_reckon_112 (lv_at hl 5 rfl) ?_
          refine lv_bipush (v := (nI 16)) hx hb dX5_reckon_114 (by decide) ?_
          refine lv_isub hx hb dX5_reckon_116 ?_
          refine lv_rei (x' := (nI (t - 16))) (pk_sub (by omega)) ?_
          refine va_iald hx hb hK.1 hP 3 0 rfl rfl (vp_in_nI (by omega) (by omega)) dX5_reckon_117 ?_
          refine lv_rei (x' := F1 (t - 16)) (congrArg F1 (nI_clamp (by omega))) ?_
          refine lv_iload hx hb dX5_reckon_118 (lv_at hl 1 rfl) ?_
          refine lv_bipush (v := (nI 7)) hx hb dX5_reckon_120 (by decide) ?_
          refine cSi (rest := [.int (F1 (t - 16)), .int (nI t), .ref qw]) ⟨hx, hb, hml, hown, hts⟩ [.int (F1 (t - 15)), .int (nI 7)] (c_X5_turn l g (x := (F1 (t - 15))) (n := (nI 7))) (va_cwS 2 hts gX5_reckon_X5_turn rfl rfl rfl (by decide +kernel) ⟨Nat.le_of_ble_eq_true rfl, Nat.le_of_ble_eq_true rfl⟩) hK hZ hS (subP hP [] rfl) rfl hl.1 rfl (Nat.le_of_ble_eq_true rfl) dX5_reckon_122 ⟨Nat.zero_le _, Nat.zero_le _⟩ (fun r_191 hr_191 => ?_)
          obtain rfl : r_191 = (rorE (F1 (t - 15)) (nI 7)) := hr_191
          refine lv_iload hx hb dX5_reckon_125 (lv_at hl 1 rfl) ?_
          refine lv_bipush (v := (nI 18)) hx hb dX5_reckon_127 (by decide) ?_
          refine cSi (rest := [.int (rorE (F1 (t - 15)) (nI 7)), .int (F1 (t - 16)), .int (nI t), .ref qw]) ⟨hx, hb, hml, hown, hts⟩ [.int (F1 (t - 15)), .int (nI 18)] (c_X5_turn l g (x := (F1 (t - 15))) (n := (nI 18))) (va_cwS 2 hts gX5_reckon_X5_turn rfl rfl rfl (by decide +kernel) ⟨Nat.le_of_ble_eq_true rfl, Nat.le_of_ble_eq_true rfl⟩) hK hZ hS (subP hP [] rfl) rfl hl.1 rfl (Nat.le_of_ble_eq_true rfl) dX5_reckon_129 ⟨Nat.zero_le _, Nat.zero_le _⟩ (fun r_192 hr_192 => ?_)
          obtain rfl : r_192 = (rorE (F1 (t - 15)) (nI 18)) := hr_192
          refine lv_ixor hx hb dX5_reckon_132 ?_
          refine lv_iload hx hb dX5_reckon_133 (lv_at hl 1 rfl) ?_
          refine lv_iconst (v := (nI 3)) hx hb dX5_reckon_135 (by decide) ?_
          refine lv_iushr hx hb dX5_reckon_136 rfl ?_
          refine lv_ixor hx hb dX5_reckon_137 ?_
          refine lv_iadd hx hb dX5_reckon_138 ?_
          refine lv_aload_n hx hb dX5_reckon_139 rfl (lv_at hl 2 rfl) ?_
          refine va_get (D := g.1) (ci := 6) (v := .ref qw) (C := RX5) (T := TX5) (N := 23) hx hb hts hiX5 hown hK.1 hP 0 rfl rfl 19 (by decide) (hts (.fieldLink RX5 49 "StampMakerModel" "w" "[I") (by decide +kernel)) (fun _ h9 => h9) rfl dX5_reckon_140 ?_
          refine lv_iload hx hb dX5_reckon_143 (lv_at hl 5 rfl) ?_
          refine lv_bipush (v := (nI 7)) hx hb dX5_reckon_145 (by decide) ?_
          refine lv_isub hx hb dX5_reckon_147 ?_
          refine lv_rei (x' := (nI (t - 7))) (pk_sub (by omega)) ?_
          refine va_iald hx hb hK.1 hP 3 0 rfl rfl (vp_in_nI (by omega) (by omega)) dX5_reckon_148 ?_
          refine lv_rei (x' := F1 (t - 7)) (congrArg F1 (nI_clamp (by omega))) ?_
          refine lv_iadd hx hb dX5_reckon_149 ?_
          refine lv_iload hx hb dX5_reckon_150 (lv_at hl 0 rfl) ?_
          refine lv_bipush (v := (nI 17)) hx hb dX5_reckon_152 (by decide) ?_
          refine cSi (rest := [.int (((F1 (t - 16)) + (((rorE (F1 (t - 15)) (nI 7)) ^^^ (rorE (F1 (t - 15)) (nI 18))) ^^^ ((((F1 (t - 15))).toUInt32 >>> (((nI 3)).toUInt32 &&& Int32.toUInt32 31)).toInt32))) + (F1 (t - 7))), .int (nI t), .ref qw]) ⟨hx, hb, hml, hown, hts⟩ [.int (F1 (t - 2)), .int (nI 17)] (c_X5_turn l g (x := (F1 (t - 2))) (n := (nI 17))) (va_cwS 2 hts gX5_reckon_X5_turn rfl rfl rfl (by decide +kernel) ⟨Nat.le_of_ble_eq_true rfl, Nat.le_of_ble_eq_true rfl⟩) hK hZ hS (subP hP [] rfl) rfl hl.1 rfl (Nat.le_of_ble_eq_true rfl) dX5_reckon_154 ⟨Nat.zero_le _, Nat.zero_le _⟩ (fun r_193 hr_193 => ?_)
          obtain rfl : r_193 = (rorE (F1 (t - 2)) (nI 17)) := hr_193
          refine lv_iload hx hb dX5_reckon_157 (lv_at hl 0 rfl) ?_
          refine lv_bipush (v := (nI 19)) hx hb dX5_reckon_159 (by decide) ?_
          refine cSi (rest := [.int (rorE (F1 (t - 2)) (nI 17)), .int (((F1 (t - 16)) + (((rorE (F1 (t - 15)) (nI 7)) ^^^ (rorE (F1 (t - 15)) (nI 18))) ^^^ ((((F1 (t - 15))).toUInt32 >>> (((nI 3)).toUInt32 &&& Int32.toUInt32 31)).toInt32))) + (F1 (t - 7))), .int (nI t), .ref qw]) ⟨hx, hb, hml, hown, hts⟩ [.int (F1 (t - 2)), .int (nI 19)] (c_X5_turn l g (x := (F1 (t - 2))) (n := (nI 19))) (va_cwS 2 hts gX5_reckon_X5_turn rfl rfl rfl (by decide +kernel) ⟨Nat.le_of_ble_eq_true rfl, Nat.le_of_ble_eq_true rfl⟩) hK hZ hS (subP hP [] rfl) rfl hl.1 rfl (Nat.le_of_ble_eq_true rfl) dX5_reckon_161 ⟨Nat.zero_le _, Nat.zero_le _⟩ (fun r_194 hr_194 => ?_)
          obtain rfl : r_194 = (rorE (F1 (t - 2)) (nI 19)) := hr_194
          refine lv_ixor hx hb dX5_reckon_164 ?_
          refine lv_iload hx hb dX5_reckon_165 (lv_at hl 0 rfl) ?_
          refine lv_bipush (v := (nI 10)) hx hb dX5_reckon_167 (by decide) ?_
          refine lv_iushr hx hb dX5_reckon_169 rfl ?_
          refine lv_ixor hx hb dX5_reckon_170 ?_
          refine lv_iadd hx hb dX5_reckon_171 ?_
          refine lv_rei (x' := (stE F1 t)) (rfl) ?_
          refine va_iast hx hb hK.1 hP hD hS 3 0 rfl rfl (vp_in_nI (by omega) (by omega)) dX5_reckon_172 (fun H locs hP hD hS => ?_)
          rw [nI_clamp (by omega)] at hP hD
          have hP : va_P g.1 vwCl [(m0, .inr (6, [.int th, .int (nI kn), .ref qf, .ref qu, .ref qz, .ref qd, .ref qx, .int (nI mn), .int has, .ref ql, .int (nI tn), .ref qg, .int cc, .ref qb, .ref qy, .ref qc, .int sp, .int rk, .ref qe, .ref qw, .ref qt, .ref qr, .ref qi])), (qz, .inl (g.2.1 0, 15, .inl fz)), (qx, .inl (g.2.1 1, 480, .inl fx)), (qw, .inl (g.2.1 0, 64, .inl (upd F1 t (stE F1 t)))), (qt, .inl (g.2.1 0, 8, .inl fs)), (qe, .inl (g.2.1 1, 32, .inl fe)), (qr, .inl (g.2.1 0, 64, .inl fr9)), (qi, .inl (g.2.1 0, 8, .inl fb9))] H := hP
          have hD : va_D A [(m0, .inr (6, [.int th, .int (nI kn), .ref qf, .ref qu, .ref qz, .ref qd, .ref qx, .int (nI mn), .int has, .ref ql, .int (nI tn), .ref qg, .int cc, .ref qb, .ref qy, .ref qc, .int sp, .int rk, .ref qe, .ref qw, .ref qt, .ref qr, .ref qi])), (qz, .inl (g.2.1 0, 15, .inl fz)), (qx, .inl (g.2.1 1, 480, .inl fx)), (qw, .inl (g.2.1 0, 64, .inl (upd F1 t (stE F1 t)))), (qt, .inl (g.2.1 0, 8, .inl fs)), (qe, .inl (g.2.1 1, 32, .inl fe)), (qr, .inl (g.2.1 0, 64, .inl fr9)), (qi, .inl (g.2.1 0, 8, .inl fb9))] := hD
          refine lv_iinc (v := (nI (t + 1))) (lv' := [(4, .int (nI (t + 1))), (6, .int (F1 (t - 2))), (5, .int (F1 (t - 15))), (0, .ref m0), (1, .int (nI i)), (2, .long (lN N))]) hx hb dX5_reckon_173 hl (k := 5) rfl (nI_1 _) (by decide) rfl (fun ls hl => ?_)
          refine lv_goto (tgt := 3) hx hb dX5_reckon_176 (by decide) ?_
          exact ihL1 (t + 1) (upd F1 t (stE F1 t)) (by omega) (by omega) (fillS hF1 (by rw [hWv t q1 q]; exact stE_cong q1 hF1)) _ _ hP hD hS ls (lv_sub hl [3, 4, 5, 0] rfl)
      · refine lv_icmp_ge (tgt := 179) hx hb dX5_reckon_7 (by decide) (fun _ => ?_) (fun c9 => absurd (nI_le q (by omega)) c9)
        have hF : ∀ j, j < 64 → F j = Wd j := fun j hj => h3 j (by omega)
        refine lv_iconst (v := (nI 0)) hx hb dX5_reckon_179 (by decide) ?_
        refine lv_istore (lv' := [(4, .int (nI 0)), (0, .ref m0), (1, .int (nI i)), (2, .long (lN N))]) hx hb dX5_reckon_180 hl (by decide) rfl (fun ls hl => ?_)
        have L3 : ∀ (fu : Nat) (n : Nat) (S : Nat → Int32), (9 ≤ n + fu) → (n ≤ 8) → (∀ j, j < n → S j = sBeg j) → ∀ (H : Heap) (locs : List Loc), va_P g.1 vwCl [(m0, .inr (6, [.int th, .int (nI kn), .ref qf, .ref qu, .ref qz, .ref qd, .ref qx, .int (nI mn), .int has, .ref ql, .int (nI tn), .ref qg, .int cc, .ref qb, .ref qy, .ref qc, .int sp, .int rk, .ref qe, .ref qw, .ref qt, .ref qr, .ref qi])), (qz, .inl (g.2.1 0, 15, .inl fz)), (qx, .inl (g.2.1 1, 480, .inl fx)), (qw, .inl (g.2.1 0, 64, .inl F)), (qt, .inl (g.2.1 0, 8, .inl S)), (qe, .inl (g.2.1 1, 32, .inl fe)), (qr, .inl (g.2.1 0, 64, .inl fr9)), (qi, .inl (g.2.1 0, 8, .inl fb9))] H → va_D A [(m0, .inr (6, [.int th, .int (nI kn), .ref qf, .ref qu, .ref qz, .ref qd, .ref qx, .int (nI mn), .int has, .ref ql, .int (nI tn), .ref qg, .int cc, .ref qb, .ref qy, .ref qc, .int sp, .int rk, .ref qe, .ref qw, .ref qt, .ref qr, .ref qi])), (qz, .inl (g.2.1 0, 15, .inl fz)), (qx, .inl (g.2.1 1, 480, .inl fx)), (qw, .inl (g.2.1 0, 64, .inl F)), (qt, .inl (g.2.1 0, 8, .inl S)), (qe, .inl (g.2.1 1, 32, .inl fe)), (qr, .inl (g.2.1 0, 64, .inl fr9)), (qi, .inl (g.2.1 0, 8, .inl fb9))] → va_S A s.heap H locs → ∀ ls : Array Slot, lv_has ls 10 [(0, .ref m0), (1, .int (nI i)), (2, .long (lN N)), (4, .int (nI n))] → W p l e (headSpec wsX5_reckon ({ frames := 1, cells := 0, slots := 0, locals := 25 } : Room)).room s m ([.ref m0, .int (nI i), .long (lN N)] : List Value).toArray below meth c H locs 0 0 (MQ below (va_Qv (fun (u : ((Nat → Int32) × (Nat → Int32) × (Nat → Int32))) => ∀ j, j < 32 → u.2.2 j = oB (dG f nz N (j / 4)) (24 - 8 * (j % 4))) (wB g A (fun u : ((Nat → Int32) × (Nat → Int32) × (Nat → Int32)) => [(m0, .inr (6, [.int th, .int (nI kn), .ref qf, .ref qu, .ref qz, .ref qd, .ref qx, .int (nI mn), .int has, .ref ql, .int (nI tn), .ref qg, .int cc, .ref qb, .ref qy, .ref qc, .int sp, .int (nI 1), .ref qe, .ref qw, .ref qt, .ref qr, .ref qi])), (qz, .inl (g.2.1 0, 15, .inl fz)), (qx, .inl (g.2.1 1, 480, .inl fx)), (qw, .inl (g.2.1 0, 64, .inl u.1)), (qt, .inl (g.2.1 0, 8, .inl u.2.1)), (qe, .inl (g.2.1 1, 32, .inl u.2.2)), (qr, .inl (g.2.1 0, 64, .inl fr9)), (qi, .inl (g.2.1 0, 8, .inl fb9))])) A) ([.ref m0, .int (nI i), .long (lN N)] : List Value).toArray s 0 0 A) (F0 m 182 ls []) := by
          intro fu
          induction fu with
          | zero => intro n S k1 k2 k3 H locs hP hD hS ls hl; exact absurd k1 (by omega)
          | succ fu ihL3 =>
            intro n S k1 k2 k3 H locs hP hD hS ls hl
            refine lv_iload hx hb dX5_reckon_182 (lv_at hl 3 rfl) ?_
            refine lv_bipush (v := (nI 8)) hx hb dX5_reckon_184 (by decide) ?_
            rcases Nat.lt_or_ge n 8 with q2 | q2
            · refine lv_icmp_ge (tgt := 209) hx hb dX5_reckon_186 (by decide) (fun c9 => absurd c9 (nI_ge q2 (by omega))) (fun _ => ?_)
              refine lv_aload_n hx hb dX5_reckon_189 rfl (lv_at hl 0 rfl) ?_
              refine va_get (D := g.1) (ci := 6) (v := .ref qt) (C := RX5) (T := TX5) (N := 23) hx hb hts hiX5 hown hK.1 hP 0 rfl rfl 20 (by decide) (hts (.fieldLink RX5 52 "StampMakerModel" "state" "[I") (by decide +kernel)) (fun _ h9 => h9) rfl dX5_reckon_190 ?_
              refine lv_iload hx hb dX5_reckon_193 (lv_at hl 3 rfl) ?_
              refine lv_aload_n hx hb dX5_reckon_195 rfl (lv_at hl 0 rfl) ?_
              refine va_get (D := g.1) (ci := 6) (v := .ref qi) (C := RX5) (T := TX5) (N := 23) hx hb hts hiX5 hown hK.1 hP 0 rfl rfl 22 (by decide) (hts (.fieldLink RX5 130 "StampMakerModel" "begins" "[I") (by decide +kernel)) (fun _ h9 => h9) rfl dX5_reckon_196 ?_
              refine lv_iload hx hb dX5_reckon_199 (lv_at hl 3 rfl) ?_
              refine va_iald hx hb hK.1 hP 7 0 rfl rfl (vp_in_nI (by omega) (by omega)) dX5_reckon_201 ?_
              refine lv_rei (x' := fb9 n) (congrArg fb9 (nI_clamp (by omega))) ?_
              refine lv_rei (x' := (sBeg n)) (hb9 n q2) ?_
              refine va_iast hx hb hK.1 hP hD hS 4 0 rfl rfl (vp_in_nI (by omega) (by omega)) dX5_reckon_202 (fun H locs hP hD hS => ?_)
              rw [nI_clamp (by omega)] at hP hD
              have hP : va_P g.1 vwCl [(m0, .inr (6, [.int th, .int (nI kn), .ref qf, .ref qu, .ref qz, .ref qd, .ref qx, .int (nI mn), .int has, .ref ql, .int (nI tn), .ref qg, .int cc, .ref qb, .ref qy, .ref qc, .int sp, .int rk, .ref qe, .ref qw, .ref qt, .ref qr, .ref qi])), (qz, .inl (g.2.1 0, 15, .inl fz)), (qx, .inl (g.2.1 1, 480, .inl fx)), (qw, .inl (g.2.1 0, 64, .inl F)), (qt, .inl (g.2.1 0, 8, .inl (upd S n (sBeg n)))), (qe, .inl (g.2.1 1, 32, .inl fe)), (qr, .inl (g.2.1 0, 64, .inl fr9)), (qi, .inl (g.2.1 0, 8, .inl fb9))] H := hP
              have hD : va_D A [(m0, .inr (6, [.int th, .int (nI kn), .ref qf, .ref qu, .ref qz, .ref qd, .ref qx, .int (nI mn), .int has, .ref ql, .int (nI tn), .ref qg, .int cc, .ref qb, .ref qy, .ref qc, .int sp, .int rk, .ref qe, .ref qw, .ref qt, .ref qr, .ref qi])), (qz, .inl (g.2.1 0, 15, .inl fz)), (qx, .inl (g.2.1 1, 480, .inl fx)), (qw, .inl (g.2.1 0, 64, .inl F)), (qt, .inl (g.2.1 0, 8, .inl (upd S n (sBeg n)))), (qe, .inl (g.2.1 1, 32, .inl fe)), (qr, .inl (g.2.1 0, 64, .inl fr9)), (qi, .inl (g.2.1 0, 8, .inl fb9))] := hD
              refine lv_iinc (v := (nI (n + 1))) (lv' := [(4, .int (nI (n + 1))), (0, .ref m0), (1, .int (nI i)), (2, .long (lN N))]) hx hb dX5_reckon_203 hl (k := 3) rfl (nI_1 _) (by decide) rfl (fun ls hl => ?_)
              refine lv_goto (tgt := 182) hx hb dX5_reckon_206 (by decide) ?_
              exact ihL3 (n + 1) (upd S n (sBeg n)) (by omega) (by omega) (fillS k3 rfl) _ _ hP hD hS ls (lv_sub hl [1, 2, 3, 0] rfl)
            · refine lv_icmp_ge (tgt := 209) hx hb dX5_reckon_186 (by decide) (fun _ => ?_) (fun c9 => absurd (nI_le q2 (by omega)) c9)
              have hS0 : ∀ j, j < 8 → S j = rN Wd 0 j := fun j hj => k3 j (by omega)
              refine lv_iconst (v := (nI 0)) hx hb dX5_reckon_209 (by decide) ?_
              refine lv_istore (lv' := [(4, .int (nI 0)), (0, .ref m0), (1, .int (nI i)), (2, .long (lN N))]) hx hb dX5_reckon_210 hl (by decide) rfl (fun ls hl => ?_)
              have L4 : ∀ (fu : Nat) (r : Nat) (S4 : Nat → Int32), (65 ≤ r + fu) → (r ≤ 64) → (∀ j, j < 8 → S4 j = rN Wd r j) → ∀ (H : Heap) (locs : List Loc), va_P g.1 vwCl [(m0, .inr (6, [.int th, .int (nI kn), .ref qf, .ref qu, .ref qz, .ref qd, .ref qx, .int (nI mn), .int has, .ref ql, .int (nI tn), .ref qg, .int cc, .ref qb, .ref qy, .ref qc, .int sp, .int rk, .ref qe, .ref qw, .ref qt, .ref qr, .ref qi])), (qz, .inl (g.2.1 0, 15, .inl fz)), (qx, .inl (g.2.1 1, 480, .inl fx)), (qw, .inl (g.2.1 0, 64, .inl F)), (qt, .inl (g.2.1 0, 8, .inl S4)), (qe, .inl (g.2.1 1, 32, .inl fe)), (qr, .inl (g.2.1 0, 64, .inl fr9)), (qi, .inl (g.2.1 0, 8, .inl fb9))] H → va_D A [(m0, .inr (6, [.int th, .int (nI kn), .ref qf, .ref qu, .ref qz, .ref qd, .ref qx, .int (nI mn), .int has, .ref ql, .int (nI tn), .ref qg, .int cc, .ref qb, .ref qy, .ref qc, .int sp, .int rk, .ref qe, .ref qw, .ref qt, .ref qr, .ref qi])), (qz, .inl (g.2.1 0, 15, .inl fz)), (qx, .inl (g.2.1 1, 480, .inl fx)), (qw, .inl (g.2.1 0, 64, .inl F)), (qt, .inl (g.2.1 0, 8, .inl S4)), (qe, .inl (g.2.1 1, 32, .inl fe)), (qr, .inl (g.2.1 0, 64, .inl fr9)), (qi, .inl (g.2.1 0, 8, .inl fb9))] → va_S A s.heap H locs → ∀ ls : Array Slot, lv_has ls 10 [(0, .ref m0), (1, .int (nI i)), (2, .long (lN N)), (4, .int (nI r))] → W p l e (headSpec wsX5_reckon ({ frames := 1, cells := 0, slots := 0, locals := 25 } : Room)).room s m ([.ref m0, .int (nI i), .long (lN N)] : List Value).toArray below meth c H locs 0 0 (MQ below (va_Qv (fun (u : ((Nat → Int32) × (Nat → Int32) × (Nat → Int32))) => ∀ j, j < 32 → u.2.2 j = oB (dG f nz N (j / 4)) (24 - 8 * (j % 4))) (wB g A (fun u : ((Nat → Int32) × (Nat → Int32) × (Nat → Int32)) => [(m0, .inr (6, [.int th, .int (nI kn), .ref qf, .ref qu, .ref qz, .ref qd, .ref qx, .int (nI mn), .int has, .ref ql, .int (nI tn), .ref qg, .int cc, .ref qb, .ref qy, .ref qc, .int sp, .int (nI 1), .ref qe, .ref qw, .ref qt, .ref qr, .ref qi])), (qz, .inl (g.2.1 0, 15, .inl fz)), (qx, .inl (g.2.1 1, 480, .inl fx)), (qw, .inl (g.2.1 0, 64, .inl u.1)), (qt, .inl (g.2.1 0, 8, .inl u.2.1)), (qe, .inl (g.2.1 1, 32, .inl u.2.2)), (qr, .inl (g.2.1 0, 64, .inl fr9)), (qi, .inl (g.2.1 0, 8, .inl fb9))])) A) ([.ref m0, .int (nI i), .long (lN N)] : List Value).toArray s 0 0 A) (F0 m 212 ls []) := by
                intro fu
                induction fu with
                | zero => intro r S4 j1 j2 j3 H locs hP hD hS ls hl; exact absurd j1 (by omega)
                | succ fu ihL4 =>
                  intro r S4 j1 j2 j3 H locs hP hD hS ls hl
                  refine lv_iload hx hb dX5_reckon_212 (lv_at hl 3 rfl) ?_
                  refine lv_bipush (v := (nI 64)) hx hb dX5_reckon_214 (by decide) ?_
                  rcases Nat.lt_or_ge r 64 with q4 | q4
                  · refine lv_icmp_ge (tgt := 428) hx hb dX5_reckon_216 (by decide) (fun c9 => absurd c9 (nI_ge q4 (by omega))) (fun _ => ?_)
                    refine lv_aload_n hx hb dX5_reckon_219 rfl (lv_at hl 0 rfl) ?_
                    refine va_get (D := g.1) (ci := 6) (v := .ref qt) (C := RX5) (T := TX5) (N := 23) hx hb hts hiX5 hown hK.1 hP 0 rfl rfl 20 (by decide) (hts (.fieldLink RX5 52 "StampMakerModel" "state" "[I") (by decide +kernel)) (fun _ h9 => h9) rfl dX5_reckon_220 ?_
                    refine lv_iconst (v := (nI 4)) hx hb dX5_reckon_223 (by decide) ?_
                    refine va_iald hx hb hK.1 hP 4 0 rfl rfl (vp_in_nI (by omega) (by omega)) dX5_reckon_224 ?_
                    refine lv_rei (x' := S4 4) (congrArg S4 (nI_clamp (by omega))) ?_
                    refine lv_rei (x' := (rN Wd r 4)) (j3 4 (by decide)) ?_
                    refine lv_istore (lv' := [(5, .int (rN Wd r 4)), (0, .ref m0), (1, .int (nI i)), (2, .long (lN N)), (4, .int (nI r))]) hx hb dX5_reckon_225 hl (by decide) rfl (fun ls hl => ?_)
                    refine lv_aload_n hx hb dX5_reckon_227 rfl (lv_at hl 1 rfl) ?_
                    refine va_get (D := g.1) (ci := 6) (v := .ref qt) (C := RX5) (T := TX5) (N := 23) hx hb hts hiX5 hown hK.1 hP 0 rfl rfl 20 (by decide) (hts (.fieldLink RX5 52 "StampMakerModel" "state" "[I") (by decide +kernel)) (fun _ h9 => h9) rfl dX5_reckon_228 ?_
                    refine lv_iconst (v := (nI 0)) hx hb dX5_reckon_231 (by decide) ?_
                    refine va_iald hx hb hK.1 hP 4 0 rfl rfl (vp_in_nI (by omega) (by omega)) dX5_reckon_232 ?_
                    refine lv_rei (x' := S4 0) (congrArg S4 (nI_clamp (by omega))) ?_
                    refine lv_rei (x' := (rN Wd r 0)) (j3 0 (by decide)) ?_
                    refine lv_istore (lv' := [(6, .int (rN Wd r 0)), (5, .int (rN Wd r 4)), (0, .ref m0), (1, .int (nI i)), (2, .long (lN N)), (4, .int (nI r))]) hx hb dX5_reckon_233 hl (by decide) rfl (fun ls hl => ?_)
                    refine lv_aload_n hx hb dX5_reckon_235 rfl (lv_at hl 2 rfl) ?_
                    refine va_get (D := g.1) (ci := 6) (v := .ref qt) (C := RX5) (T := TX5) (N := 23) hx hb hts hiX5 hown hK.1 hP 0 rfl rfl 20 (by decide) (hts (.fieldLink RX5 52 "StampMakerModel" "state" "[I") (by decide +kernel)) (fun _ h9 => h9) rfl dX5_reckon_236 ?_
                    refine lv_bipush (v := (nI 7)) hx hb dX5_reckon_239 (by decide) ?_
                    refine va_iald hx hb hK.1 hP 4 0 rfl rfl (vp_in_nI (by omega) (by omega)) dX5_reckon_241 ?_
                    refine lv_rei (x' := S4 7) (congrArg S4 (nI_clamp (by omega))) ?_
                    refine lv_rei (x' := (rN Wd r 7)) (j3 7 (by decide)) ?_
                    refine lv_iload hx hb dX5_reckon_242 (lv_at hl 1 rfl) ?_
                    refine lv_bipush (v := (nI 6)) hx hb dX5_reckon_244 (by decide) ?_
                    refine cSi (rest := [.int (rN Wd r 7)]) ⟨hx, hb, hml, hown, hts⟩ [.int (rN Wd r 4), .int (nI 6)] (c_X5_turn l g (x := (rN Wd r 4)) (n := (nI 6))) (va_cwS 2 hts gX5_reckon_X5_turn rfl rfl rfl (by decide +kernel) ⟨Nat.le_of_ble_eq_true rfl, Nat.le_of_ble_eq_true rfl⟩) hK hZ hS (subP hP [] rfl) rfl hl.1 rfl (Nat.le_of_ble_eq_true rfl) dX5_reckon_246 ⟨Nat.zero_le _, Nat.zero_le _⟩ (fun r_195 hr_195 => ?_)
                    obtain rfl : r_195 = (rorE (rN Wd r 4) (nI 6)) := hr_195
                    refine lv_iload hx hb dX5_reckon_249 (lv_at hl 1 rfl) ?_
                    refine lv_bipush (v := (nI 11)) hx hb dX5_reckon_251 (by decide) ?_
                    refine cSi (rest := [.int (rorE (rN Wd r 4) (nI 6)), .int (rN Wd r 7)]) ⟨hx, hb, hml, hown, hts⟩ [.int (rN Wd r 4), .int (nI 11)] (c_X5_turn l g (x := (rN Wd r 4)) (n := (nI 11))) (va_cwS 2 hts gX5_reckon_X5_turn rfl rfl rfl (by decide +kernel) ⟨Nat.le_of_ble_eq_true rfl, Nat.le_of_ble_eq_true rfl⟩) hK hZ hS (subP hP [] rfl) rfl hl.1 rfl (Nat.le_of_ble_eq_true rfl) dX5_reckon_253 ⟨Nat.zero_le _, Nat.zero_le _⟩ (fun r_196 hr_196 => ?_)
                    obtain rfl : r_196 = (rorE (rN Wd r 4) (nI 11)) := hr_196
                    refine lv_ixor hx hb dX5_reckon_256 ?_
                    refine lv_iload hx hb dX5_reckon_257 (lv_at hl 1 rfl) ?_
                    refine lv_bipush (v := (nI 25)) hx hb dX5_reckon_259 (by decide) ?_
                    refine cSi (rest := [.int ((rorE (rN Wd r 4) (nI 6)) ^^^ (rorE (rN Wd r 4) (nI 11))), .int (rN Wd r 7)]) ⟨hx, hb, hml, hown, hts⟩ [.int (rN Wd r 4), .int (nI 25)] (c_X5_turn l g (x := (rN Wd r 4)) (n := (nI 25))) (va_cwS 2 hts gX5_reckon_X5_turn rfl rfl rfl (by decide +kernel) ⟨Nat.le_of_ble_eq_true rfl, Nat.le_of_ble_eq_true rfl⟩) hK hZ hS (subP hP [] rfl) rfl hl.1 rfl (Nat.le_of_ble_eq_true rfl) dX5_reckon_261 ⟨Nat.zero_le _, Nat.zero_le _⟩ (fun r_197 hr_197 => ?_)
                    obtain rfl : r_197 = (rorE (rN Wd r 4) (nI 25)) := hr_197
                    refine lv_ixor hx hb dX5_reckon_264 ?_
                    refine lv_iadd hx hb dX5_reckon_265 ?_
                    refine lv_iload hx hb dX5_reckon_266 (lv_at hl 1 rfl) ?_
                    refine lv_aload_n hx hb dX5_reckon_268 rfl (lv_at hl 2 rfl) ?_
                    refine va_get (D := g.1) (ci := 6) (v := .ref qt) (C := RX5) (T := TX5) (N := 23) hx hb hts hiX5 hown hK.1 hP 0 rfl rfl 20 (by decide) (hts (.fieldLink RX5 52 "StampMakerModel" "state" "[I") (by decide +kernel)) (fun _ h9 => h9) rfl dX5_reckon_269 ?_
                    refine lv_iconst (v := (nI 5)) hx hb dX5_reckon_272 (by decide) ?_
                    refine va_iald hx hb hK.1 hP 4 0 rfl rfl (vp_in_nI (by omega) (by omega)) dX5_reckon_273 ?_
                    refine lv_rei (x' := S4 5) (congrArg S4 (nI_clamp (by omega))) ?_
                    refine lv_rei (x' := (rN Wd r 5)) (j3 5 (by decide)) ?_
                    refine lv_iand hx hb dX5_reckon_274 ?_
                    refine lv_iload hx hb dX5_reckon_275 (lv_at hl 1 rfl) ?_
                    refine lv_iconst (v := (-1)) hx hb dX5_reckon_277 (by decide) ?_
                    refine lv_ixor hx hb dX5_reckon_278 ?_
                    refine lv_aload_n hx hb dX5_reckon_279 rfl (lv_at hl 2 rfl) ?_
                    refine va_get (D := g.1) (ci := 6) (v := .ref qt) (C := RX5) (T := TX5) (N := 23) hx hb hts hiX5 hown hK.1 hP 0 rfl rfl 20 (by decide) (hts (.fieldLink RX5 52 "StampMakerModel" "state" "[I") (by decide +kernel)) (fun _ h9 => h9) rfl dX5_reckon_280 ?_
                    refine lv_bipush (v := (nI 6)) hx hb dX5_reckon_283 (by decide) ?_
                    refine va_iald hx hb hK.1 hP 4 0 rfl rfl (vp_in_nI (by omega) (by omega)) dX5_reckon_285 ?_
                    refine lv_rei (x' := S4 6) (congrArg S4 (nI_clamp (by omega))) ?_
                    refine lv_rei (x' := (rN Wd r 6)) (j3 6 (by decide)) ?_
                    refine lv_iand hx hb dX5_reckon_286 ?_
                    refine lv_ixor hx hb dX5_reckon_287 ?_
                    refine lv_iadd hx hb dX5_reckon_288 ?_
                    refine lv_aload_n hx hb dX5_reckon_289 rfl (lv_at hl 2 rfl) ?_
                    refine va_get (D := g.1) (ci := 6) (v := .ref qr) (C := RX5) (T := TX5) (N := 23) hx hb hts hiX5 hown hK.1 hP 0 rfl rfl 21 (by decide) (hts (.fieldLink RX5 119 "StampMakerModel" "roots" "[I") (by decide +kernel)) (fun _ h9 => h9) rfl dX5_reckon_290 ?_
                    refine lv_iload hx hb dX5_reckon_293 (lv_at hl 5 rfl) ?_
                    refine va_iald hx hb hK.1 hP 6 0 rfl rfl (vp_in_nI (by omega) (by omega)) dX5_reckon_295 ?_
                    refine lv_rei (x' := fr9 r) (congrArg fr9 (nI_clamp (by omega))) ?_
                    refine lv_rei (x' := (sK r)) (hr9 r q4) ?_
                    refine lv_iadd hx hb dX5_reckon_296 ?_
                    refine lv_aload_n hx hb dX5_reckon_297 rfl (lv_at hl 2 rfl) ?_
                    refine va_get (D := g.1) (ci := 6) (v := .ref qw) (C := RX5) (T := TX5) (N := 23) hx hb hts hiX5 hown hK.1 hP 0 rfl rfl 19 (by decide) (hts (.fieldLink RX5 49 "StampMakerModel" "w" "[I") (by decide +kernel)) (fun _ h9 => h9) rfl dX5_reckon_298 ?_
                    refine lv_iload hx hb dX5_reckon_301 (lv_at hl 5 rfl) ?_
                    refine va_iald hx hb hK.1 hP 3 0 rfl rfl (vp_in_nI (by omega) (by omega)) dX5_reckon_303 ?_
                    refine lv_rei (x' := F r) (congrArg F (nI_clamp (by omega))) ?_
                    refine lv_rei (x' := (Wd r)) (hF r q4) ?_
                    refine lv_iadd hx hb dX5_reckon_304 ?_
                    refine lv_rei (x' := (rU (sK r) (Wd r) (rN Wd r))) (rfl) ?_
                    refine lv_istore (lv' := [(7, .int (rU (sK r) (Wd r) (rN Wd r))), (6, .int (rN Wd r 0)), (5, .int (rN Wd r 4)), (0, .ref m0), (1, .int (nI i)), (2, .long (lN N)), (4, .int (nI r))]) hx hb dX5_reckon_305 hl (by decide) rfl (fun ls hl => ?_)
                    refine lv_iload hx hb dX5_reckon_307 (lv_at hl 1 rfl) ?_
                    refine lv_iconst (v := (nI 2)) hx hb dX5_reckon_309 (by decide) ?_
                    refine cSi (rest := []) ⟨hx, hb, hml, hown, hts⟩ [.int (rN Wd r 0), .int (nI 2)] (c_X5_turn l g (x := (rN Wd r 0)) (n := (nI 2))) (va_cwS 2 hts gX5_reckon_X5_turn rfl rfl rfl (by decide +kernel) ⟨Nat.le_of_ble_eq_true rfl, Nat.le_of_ble_eq_true rfl⟩) hK hZ hS (subP hP [] rfl) rfl hl.1 rfl (Nat.le_of_ble_eq_true rfl) dX5_reckon_310 ⟨Nat.zero_le _, Nat.zero_le _⟩ (fun r_198 hr_198 => ?_)
                    obtain rfl : r_198 = (rorE (rN Wd r 0) (nI 2)) := hr_198
                    refine lv_iload hx hb dX5_reckon_313 (lv_at hl 1 rfl) ?_
                    refine lv_bipush (v := (nI 13)) hx hb dX5_reckon_315 (by decide) ?_
                    refine cSi (rest := [.int (rorE (rN Wd r 0) (nI 2))]) ⟨hx, hb, hml, hown, hts⟩ [.int (rN Wd r 0), .int (nI 13)] (c_X5_turn l g (x := (rN Wd r 0)) (n := (nI 13))) (va_cwS 2 hts gX5_reckon_X5_turn rfl rfl rfl (by decide +kernel) ⟨Nat.le_of_ble_eq_true rfl, Nat.le_of_ble_eq_true rfl⟩) hK hZ hS (subP hP [] rfl) rfl hl.1 rfl (Nat.le_of_ble_eq_true rfl) dX5_reckon_317 ⟨Nat.zero_le _, Nat.zero_le _⟩ (fun r_199 hr_199 => ?_)
                    obtain rfl : r_199 = (rorE (rN Wd r 0) (nI 13)) := hr_199
                    refine lv_ixor hx hb dX5_reckon_320 ?_
                    refine lv_iload hx hb dX5_reckon_321 (lv_at hl 1 rfl) ?_
                    refine lv_bipush (v := (nI 22)) hx hb dX5_reckon_323 (by decide) ?_
                    refine cSi (rest := [.int ((rorE (rN Wd r 0) (nI 2)) ^^^ (rorE (rN Wd r 0) (nI 13)))]) ⟨hx, hb, hml, hown, hts⟩ [.int (rN Wd r 0), .int (nI 22)] (c_X5_turn l g (x := (rN Wd r 0)) (n := (nI 22))) (va_cwS 2 hts gX5_reckon_X5_turn rfl rfl rfl (by decide +kernel) ⟨Nat.le_of_ble_eq_true rfl, Nat.le_of_ble_eq_true rfl⟩) hK hZ hS (subP hP [] rfl) rfl hl.1 rfl (Nat.le_of_ble_eq_true rfl) dX5_reckon_325 ⟨Nat.zero_le _, Nat.zero_le _⟩ (fun r_200 hr_200 => ?_)
                    obtain rfl : r_200 = (rorE (rN Wd r 0) (nI 22)) := hr_200
                    have hG8 : ∀ e, e < 8 → S4 e = if 8 ≤ e then rN Wd r (e - 1) else rN Wd r e := fun e he => by rw [if_neg (by omega)]; exact j3 e he
                    refine lv_ixor hx hb dX5_reckon_328 ?_
                    refine lv_iload hx hb dX5_reckon_329 (lv_at hl 1 rfl) ?_
                    refine lv_aload_n hx hb dX5_reckon_331 rfl (lv_at hl 3 rfl) ?_
                    refine va_get (D := g.1) (ci := 6) (v := .ref qt) (C := RX5) (T := TX5) (N := 23) hx hb hts hiX5 hown hK.1 hP 0 rfl rfl 20 (by decide) (hts (.fieldLink RX5 52 "StampMakerModel" "state" "[I") (by decide +kernel)) (fun _ h9 => h9) rfl dX5_reckon_332 ?_
                    refine lv_iconst (v := (nI 1)) hx hb dX5_reckon_335 (by decide) ?_
                    refine va_iald hx hb hK.1 hP 4 0 rfl rfl (vp_in_nI (by omega) (by omega)) dX5_reckon_336 ?_
                    refine lv_rei (x' := S4 1) (congrArg S4 (nI_clamp (by omega))) ?_
                    refine lv_rei (x' := (rN Wd r 1)) (j3 1 (by decide)) ?_
                    refine lv_iand hx hb dX5_reckon_337 ?_
                    refine lv_iload hx hb dX5_reckon_338 (lv_at hl 1 rfl) ?_
                    refine lv_aload_n hx hb dX5_reckon_340 rfl (lv_at hl 3 rfl) ?_
                    refine va_get (D := g.1) (ci := 6) (v := .ref qt) (C := RX5) (T := TX5) (N := 23) hx hb hts hiX5 hown hK.1 hP 0 rfl rfl 20 (by decide) (hts (.fieldLink RX5 52 "StampMakerModel" "state" "[I") (by decide +kernel)) (fun _ h9 => h9) rfl dX5_reckon_341 ?_
                    refine lv_iconst (v := (nI 2)) hx hb dX5_reckon_344 (by decide) ?_
                    refine va_iald hx hb hK.1 hP 4 0 rfl rfl (vp_in_nI (by omega) (by omega)) dX5_reckon_345 ?_
                    refine lv_rei (x' := S4 2) (congrArg S4 (nI_clamp (by omega))) ?_
                    refine lv_rei (x' := (rN Wd r 2)) (j3 2 (by decide)) ?_
                    refine lv_iand hx hb dX5_reckon_346 ?_
                    refine lv_ixor hx hb dX5_reckon_347 ?_
                    refine lv_aload_n hx hb dX5_reckon_348 rfl (lv_at hl 3 rfl) ?_
                    refine va_get (D := g.1) (ci := 6) (v := .ref qt) (C := RX5) (T := TX5) (N := 23) hx hb hts hiX5 hown hK.1 hP 0 rfl rfl 20 (by decide) (hts (.fieldLink RX5 52 "StampMakerModel" "state" "[I") (by decide +kernel)) (fun _ h9 => h9) rfl dX5_reckon_349 ?_
                    refine lv_iconst (v := (nI 1)) hx hb dX5_reckon_352 (by decide) ?_
                    refine va_iald hx hb hK.1 hP 4 0 rfl rfl (vp_in_nI (by omega) (by omega)) dX5_reckon_353 ?_
                    refine lv_rei (x' := S4 1) (congrArg S4 (nI_clamp (by omega))) ?_
                    refine lv_rei (x' := (rN Wd r 1)) (j3 1 (by decide)) ?_
                    refine lv_aload_n hx hb dX5_reckon_354 rfl (lv_at hl 3 rfl) ?_
                    refine va_get (D := g.1) (ci := 6) (v := .ref qt) (C := RX5) (T := TX5) (N := 23) hx hb hts hiX5 hown hK.1 hP 0 rfl rfl 20 (by decide) (hts (.fieldLink RX5 52 "StampMakerModel" "state" "[I") (by decide +kernel)) (fun _ h9 => h9) rfl dX5_reckon_355 ?_
                    refine lv_iconst (v := (nI 2)) hx hb dX5_reckon_358 (by decide) ?_
                    refine va_iald hx hb hK.1 hP 4 0 rfl rfl (vp_in_nI (by omega) (by omega)) dX5_reckon_359 ?_
                    refine lv_rei (x' := S4 2) (congrArg S4 (nI_clamp (by omega))) ?_
                    refine lv_rei (x' := (rN Wd r 2)) (j3 2 (by decide)) ?_
                    refine lv_iand hx hb dX5_reckon_360 ?_
                    refine lv_ixor hx hb dX5_reckon_361 ?_
                    refine lv_iadd hx hb dX5_reckon_362 ?_
                    refine lv_rei (x' := (rV (rN Wd r))) (rfl) ?_
                    refine lv_istore (lv' := [(8, .int (rV (rN Wd r))), (7, .int (rU (sK r) (Wd r) (rN Wd r))), (6, .int (rN Wd r 0)), (5, .int (rN Wd r 4)), (0, .ref m0), (1, .int (nI i)), (2, .long (lN N)), (4, .int (nI r))]) hx hb dX5_reckon_363 hl (by decide) rfl (fun ls hl => ?_)
                    refine lv_bipush (v := (nI 7)) hx hb dX5_reckon_365 (by decide) ?_
                    refine lv_istore (lv' := [(9, .int (nI 7)), (8, .int (rV (rN Wd r))), (7, .int (rU (sK r) (Wd r) (rN Wd r))), (6, .int (rN Wd r 0)), (5, .int (rN Wd r 4)), (0, .ref m0), (1, .int (nI i)), (2, .long (lN N)), (4, .int (nI r))]) hx hb dX5_reckon_367 hl (by decide) rfl (fun ls hl => ?_)
                    refine lv_iload hx hb dX5_reckon_369 (lv_at hl 0 rfl) ?_
                    refine lv_if_le (tgt := 396) hx hb dX5_reckon_371 (by decide) (fun c9 => absurd c9 (by decide)) (fun _ => ?_)
                    refine lv_aload_n hx hb dX5_reckon_374 rfl (lv_at hl 5 rfl) ?_
                    refine va_get (D := g.1) (ci := 6) (v := .ref qt) (C := RX5) (T := TX5) (N := 23) hx hb hts hiX5 hown hK.1 hP 0 rfl rfl 20 (by decide) (hts (.fieldLink RX5 52 "StampMakerModel" "state" "[I") (by decide +kernel)) (fun _ h9 => h9) rfl dX5_reckon_375 ?_
                    refine lv_iload hx hb dX5_reckon_378 (lv_at hl 0 rfl) ?_
                    refine lv_aload_n hx hb dX5_reckon_380 rfl (lv_at hl 5 rfl) ?_
                    refine va_get (D := g.1) (ci := 6) (v := .ref qt) (C := RX5) (T := TX5) (N := 23) hx hb hts hiX5 hown hK.1 hP 0 rfl rfl 20 (by decide) (hts (.fieldLink RX5 52 "StampMakerModel" "state" "[I") (by decide +kernel)) (fun _ h9 => h9) rfl dX5_reckon_381 ?_
                    refine lv_iload hx hb dX5_reckon_384 (lv_at hl 0 rfl) ?_
                    refine lv_iconst (v := (nI 1)) hx hb dX5_reckon_386 (by decide) ?_
                    refine lv_isub hx hb dX5_reckon_387 ?_
                    refine lv_rei (x' := (nI 6)) (by decide) ?_
                    refine va_iald hx hb hK.1 hP 4 0 rfl rfl (vp_in_nI (by omega) (by omega)) dX5_reckon_388 ?_
                    refine lv_rei (x' := S4 6) (congrArg S4 (nI_clamp (by omega))) ?_
                    refine lv_rei (x' := (rN Wd r 6)) (by rw [hG8 6 (by decide), if_neg (by decide)]) ?_
                    refine va_iast hx hb hK.1 hP hD hS 4 0 rfl rfl (vp_in_nI (by omega) (by omega)) dX5_reckon_389 (fun H locs hP hD hS => ?_)
                    rw [nI_clamp (by omega)] at hP hD
                    have hP : va_P g.1 vwCl [(m0, .inr (6, [.int th, .int (nI kn), .ref qf, .ref qu, .ref qz, .ref qd, .ref qx, .int (nI mn), .int has, .ref ql, .int (nI tn), .ref qg, .int cc, .ref qb, .ref qy, .ref qc, .int sp, .int rk, .ref qe, .ref qw, .ref qt, .ref qr, .ref qi])), (qz, .inl (g.2.1 0, 15, .inl fz)), (qx, .inl (g.2.1 1, 480, .inl fx)), (qw, .inl (g.2.1 0, 64, .inl F)), (qt, .inl (g.2.1 0, 8, .inl (upd S4 7 (rN Wd r 6)))), (qe, .inl (g.2.1 1, 32, .inl fe)), (qr, .inl (g.2.1 0, 64, .inl fr9)), (qi, .inl (g.2.1 0, 8, .inl fb9))] H := hP
                    have hD : va_D A [(m0, .inr (6, [.int th, .int (nI kn), .ref qf, .ref qu, .ref qz, .ref qd, .ref qx, .int (nI mn), .int has, .ref ql, .int (nI tn), .ref qg, .int cc, .ref qb, .ref qy, .ref qc, .int sp, .int rk, .ref qe, .ref qw, .ref qt, .ref qr, .ref qi])), (qz, .inl (g.2.1 0, 15, .inl fz)), (qx, .inl (g.2.1 1, 480, .inl fx)), (qw, .inl (g.2.1 0, 64, .inl F)), (qt, .inl (g.2.1 0, 8, .inl (upd S4 7 (rN Wd r 6)))), (qe, .inl (g.2.1 1, 32, .inl fe)), (qr, .inl (g.2.1 0, 64, .inl fr9)), (qi, .inl (g.2.1 0, 8, .inl fb9))] := hD
                    obtain ⟨G7, eG7⟩ : ∃ z, z = upd S4 7 (rN Wd r 6) := ⟨_, rfl⟩
                    rw [← eG7] at hP hD
                    have hG7 : ∀ e, e < 8 → G7 e = if 7 ≤ e then rN Wd r (e - 1) else rN Wd r e := by rw [eG7]; exact shS hG8 rfl
                    refine lv_iinc (v := (nI 6)) (lv' := [(9, .int (nI 6)), (8, .int (rV (rN Wd r))), (7, .int (rU (sK r) (Wd r) (rN Wd r))), (6, .int (rN Wd r 0)), (5, .int (rN Wd r 4)), (0, .ref m0), (1, .int (nI i)), (2, .long (lN N)), (4, .int (nI r))]) hx hb dX5_reckon_390 hl (k := 0) rfl (by decide) (by decide) rfl (fun ls hl => ?_)
                    refine lv_goto (tgt := 369) hx hb dX5_reckon_393 (by decide) ?_
                    refine lv_iload hx hb dX5_reckon_369 (lv_at hl 0 rfl) ?_
                    refine lv_if_le (tgt := 396) hx hb dX5_reckon_371 (by decide) (fun c9 => absurd c9 (by decide)) (fun _ => ?_)
                    refine lv_aload_n hx hb dX5_reckon_374 rfl (lv_at hl 5 rfl) ?_
                    refine va_get (D := g.1) (ci := 6) (v := .ref qt) (C := RX5) (T := TX5) (N := 23) hx hb hts hiX5 hown hK.1 hP 0 rfl rfl 20 (by decide) (hts (.fieldLink RX5 52 "StampMakerModel" "state" "[I") (by decide +kernel)) (fun _ h9 => h9) rfl dX5_reckon_375 ?_
                    refine lv_iload hx hb dX5_reckon_378 (lv_at hl 0 rfl) ?_
                    refine lv_aload_n hx hb dX5_reckon_380 rfl (lv_at hl 5 rfl) ?_
                    refine va_get (D := g.1) (ci := 6) (v := .ref qt) (C := RX5) (T := TX5) (N := 23) hx hb hts hiX5 hown hK.1 hP 0 rfl rfl 20 (by decide) (hts (.fieldLink RX5 52 "StampMakerModel" "state" "[I") (by decide +kernel)) (fun _ h9 => h9) rfl dX5_reckon_381 ?_
                    refine lv_iload hx hb dX5_reckon_384 (lv_at hl 0 rfl) ?_
                    refine lv_iconst (v := (nI 1)) hx hb dX5_reckon_386 (by decide) ?_
                    refine lv_isub hx hb dX5_reckon_387 ?_
                    refine lv_rei (x' := (nI 5)) (by decide) ?_
                    refine va_iald hx hb hK.1 hP 4 0 rfl rfl (vp_in_nI (by omega) (by omega)) dX5_reckon_388 ?_
                    refine lv_rei (x' := G7 5) (congrArg G7 (nI_clamp (by omega))) ?_
                    refine lv_rei (x' := (rN Wd r 5)) (by rw [hG7 5 (by decide), if_neg (by decide)]) ?_
                    refine va_iast hx hb hK.1 hP hD hS 4 0 rfl rfl (vp_in_nI (by omega) (by omega)) dX5_reckon_389 (fun H locs hP hD hS => ?_)
                    rw [nI_clamp (by omega)] at hP hD
                    have hP : va_P g.1 vwCl [(m0, .inr (6, [.int th, .int (nI kn), .ref qf, .ref qu, .ref qz, .ref qd, .ref qx, .int (nI mn), .int has, .ref ql, .int (nI tn), .ref qg, .int cc, .ref qb, .ref qy, .ref qc, .int sp, .int rk, .ref qe, .ref qw, .ref qt, .ref qr, .ref qi])), (qz, .inl (g.2.1 0, 15, .inl fz)), (qx, .inl (g.2.1 1, 480, .inl fx)), (qw, .inl (g.2.1 0, 64, .inl F)), (qt, .inl (g.2.1 0, 8, .inl (upd G7 6 (rN Wd r 5)))), (qe, .inl (g.2.1 1, 32, .inl fe)), (qr, .inl (g.2.1 0, 64, .inl fr9)), (qi, .inl (g.2.1 0, 8, .inl fb9))] H := hP
                    have hD : va_D A [(m0, .inr (6, [.int th, .int (nI kn), .ref qf, .ref qu, .ref qz, .ref qd, .ref qx, .int (nI mn), .int has, .ref ql, .int (nI tn), .ref qg, .int cc, .ref qb, .ref qy, .ref qc, .int sp, .int rk, .ref qe, .ref qw, .ref qt, .ref qr, .ref qi])), (qz, .inl (g.2.1 0, 15, .inl fz)), (qx, .inl (g.2.1 1, 480, .inl fx)), (qw, .inl (g.2.1 0, 64, .inl F)), (qt, .inl (g.2.1 0, 8, .inl (upd G7 6 (rN Wd r 5)))), (qe, .inl (g.2.1 1, 32, .inl fe)), (qr, .inl (g.2.1 0, 64, .inl fr9)), (qi, .inl (g.2.1 0, 8, .inl fb9))] := hD
                    obtain ⟨G6, eG6⟩ : ∃ z, z = upd G7 6 (rN Wd r 5) := ⟨_, rfl⟩
                    rw [← eG6] at hP hD
                    have hG6 : ∀ e, e < 8 → G6 e = if 6 ≤ e then rN Wd r (e - 1) else rN Wd r e := by rw [eG6]; exact shS hG7 rfl
                    refine lv_iinc (v := (nI 5)) (lv' := [(9, .int (nI 5)), (8, .int (rV (rN Wd r))), (7, .int (rU (sK r) (Wd r) (rN Wd r))), (6, .int (rN Wd r 0)), (5, .int (rN Wd r 4)), (0, .ref m0), (1, .int (nI i)), (2, .long (lN N)), (4, .int (nI r))]) hx hb dX5_reckon_390 hl (k := 0) rfl (by decide) (by decide) rfl (fun ls hl => ?_)
                    refine lv_goto (tgt := 369) hx hb dX5_reckon_393 (by decide) ?_
                    refine lv_iload hx hb dX5_reckon_369 (lv_at hl 0 rfl) ?_
                    refine lv_if_le (tgt := 396) hx hb dX5_reckon_371 (by decide) (fun c9 => absurd c9 (by decide)) (fun _ => ?_)
                    refine lv_aload_n hx hb dX5_reckon_374 rfl (lv_at hl 5 rfl) ?_
                    refine va_get (D := g.1) (ci := 6) (v := .ref qt) (C := RX5) (T := TX5) (N := 23) hx hb hts hiX5 hown hK.1 hP 0 rfl rfl 20 (by decide) (hts (.fieldLink RX5 52 "StampMakerModel" "state" "[I") (by decide +kernel)) (fun _ h9 => h9) rfl dX5_reckon_375 ?_
                    refine lv_iload hx hb dX5_reckon_378 (lv_at hl 0 rfl) ?_
                    refine lv_aload_n hx hb dX5_reckon_380 rfl (lv_at hl 5 rfl) ?_
                    refine va_get (D := g.1) (ci := 6) (v := .ref qt) (C := RX5) (T := TX5) (N := 23) hx hb hts hiX5 hown hK.1 hP 0 rfl rfl 20 (by decide) (hts (.fieldLink RX5 52 "StampMakerModel" "state" "[I") (by decide +kernel)) (fun _ h9 => h9) rfl dX5_reckon_381 ?_
                    refine lv_iload hx hb dX5_reckon_384 (lv_at hl 0 rfl) ?_
                    refine lv_iconst (v := (nI 1)) hx hb dX5_reckon_386 (by decide) ?_
                    refine lv_isub hx hb dX5_reckon_387 ?_
                    refine lv_rei (x' := (nI 4)) (by decide) ?_
                    refine va_iald hx hb hK.1 hP 4 0 rfl rfl (vp_in_nI (by omega) (by omega)) dX5_reckon_388 ?_
                    refine lv_rei (x' := G6 4) (congrArg G6 (nI_clamp (by omega))) ?_
                    refine lv_rei (x' := (rN Wd r 4)) (by rw [hG6 4 (by decide), if_neg (by decide)]) ?_
                    refine va_iast hx hb hK.1 hP hD hS 4 0 rfl rfl (vp_in_nI (by omega) (by omega)) dX5_reckon_389 (fun H locs hP hD hS => ?_)
                    rw [nI_clamp (by omega)] at hP hD
                    have hP : va_P g.1 vwCl [(m0, .inr (6, [.int th, .int (nI kn), .ref qf, .ref qu, .ref qz, .ref qd, .ref qx, .int (nI mn), .int has, .ref ql, .int (nI tn), .ref qg, .int cc, .ref qb, .ref qy, .ref qc, .int sp, .int rk, .ref qe, .ref qw, .ref qt, .ref qr, .ref qi])), (qz, .inl (g.2.1 0, 15, .inl fz)), (qx, .inl (g.2.1 1, 480, .inl fx)), (qw, .inl (g.2.1 0, 64, .inl F)), (qt, .inl (g.2.1 0, 8, .inl (upd G6 5 (rN Wd r 4)))), (qe, .inl (g.2.1 1, 32, .inl fe)), (qr, .inl (g.2.1 0, 64, .inl fr9)), (qi, .inl (g.2.1 0, 8, .inl fb9))] H := hP
                    have hD : va_D A [(m0, .inr (6, [.int th, .int (nI kn), .ref qf, .ref qu, .ref qz, .ref qd, .ref qx, .int (nI mn), .int has, .ref ql, .int (nI tn), .ref qg, .int cc, .ref qb, .ref qy, .ref qc, .int sp, .int rk, .ref qe, .ref qw, .ref qt, .ref qr, .ref qi])), (qz, .inl (g.2.1 0, 15, .inl fz)), (qx, .inl (g.2.1 1, 480, .inl fx)), (qw, .inl (g.2.1 0, 64, .inl F)), (qt, .inl (g.2.1 0, 8, .inl (upd G6 5 (rN Wd r 4)))), (qe, .inl (g.2.1 1, 32, .inl fe)), (qr, .inl (g.2.1 0, 64, .inl fr9)), (qi, .inl (g.2.1 0, 8, .inl fb9))] := hD
                    obtain ⟨G5, eG5⟩ : ∃ z, z = upd G6 5 (rN Wd r 4) := ⟨_, rfl⟩
                    rw [← eG5] at hP hD
                    have hG5 : ∀ e, e < 8 → G5 e = if 5 ≤ e then rN Wd r (e - 1) else rN Wd r e := by rw [eG5]; exact shS hG6 rfl
                    refine lv_iinc (v := (nI 4)) (lv' := [(9, .int (nI 4)), (8, .int (rV (rN Wd r))), (7, .int (rU (sK r) (Wd r) (rN Wd r))), (6, .int (rN Wd r 0)), (5, .int (rN Wd r 4)), (0, .ref m0), (1, .int (nI i)), (2, .long (lN N)), (4, .int (nI r))]) hx hb dX5_reckon_390 hl (k := 0) rfl (by decide) (by decide) rfl (fun ls hl => ?_)
                    refine lv_goto (tgt := 369) hx hb dX5_reckon_393 (by decide) ?_
                    refine lv_iload hx hb dX5_reckon_369 (lv_at hl 0 rfl) ?_
                    refine lv_if_le (tgt := 396) hx hb dX5_reckon_371 (by decide) (fun c9 => absurd c9 (by decide)) (fun _ => ?_)
                    refine lv_aload_n hx hb dX5_reckon_374 rfl (lv_at hl 5 rfl) ?_
                    refine va_get (D := g.1) (ci := 6) (v := .ref qt) (C := RX5) (T := TX5) (N := 23) hx hb hts hiX5 hown hK.1 hP 0 rfl rfl 20 (by decide) (hts (.fieldLink RX5 52 "StampMakerModel" "state" "[I") (by decide +kernel)) (fun _ h9 => h9) rfl dX5_reckon_375 ?_
                    refine lv_iload hx hb dX5_reckon_378 (lv_at hl 0 rfl) ?_
                    refine lv_aload_n hx hb dX5_reckon_380 rfl (lv_at hl 5 rfl) ?_
                    refine va_get (D := g.1) (ci := 6) (v := .ref qt) (C := RX5) (T := TX5) (N := 23) hx hb hts hiX5 hown hK.1 hP 0 rfl rfl 20 (by decide) (hts (.fieldLink RX5 52 "StampMakerModel" "state" "[I") (by decide +kernel)) (fun _ h9 => h9) rfl dX5_reckon_381 ?_
                    refine lv_iload hx hb dX5_reckon_384 (lv_at hl 0 rfl) ?_
                    refine lv_iconst (v := (nI 1)) hx hb dX5_reckon_386 (by decide) ?_
                    refine lv_isub hx hb dX5_reckon_387 ?_
                    refine lv_rei (x' := (nI 3)) (by decide) ?_
                    refine va_iald hx hb hK.1 hP 4 0 rfl rfl (vp_in_nI (by omega) (by omega)) dX5_reckon_388 ?_
                    refine lv_rei (x' := G5 3) (congrArg G5 (nI_clamp (by omega))) ?_
                    refine lv_rei (x' := (rN Wd r 3)) (by rw [hG5 3 (by decide), if_neg (by decide)]) ?_
                    refine va_iast hx hb hK.1 hP hD hS 4 0 rfl rfl (vp_in_nI (by omega) (by omega)) dX5_reckon_389 (fun H locs hP hD hS => ?_)
                    rw [nI_clamp (by omega)] at hP hD
                    have hP : va_P g.1 vwCl [(m0, .inr (6, [.int th, .int (nI kn), .ref qf, .ref qu, .ref qz, .ref qd, .ref qx, .int (nI mn), .int has, .ref ql, .int (nI tn), .ref qg, .int cc, .ref qb, .ref qy, .ref qc, .int sp, .int rk, .ref qe, .ref qw, .ref qt, .ref qr, .ref qi])), (qz, .inl (g.2.1 0, 15, .inl fz)), (qx, .inl (g.2.1 1, 480, .inl fx)), (qw, .inl (g.2.1 0, 64, .inl F)), (qt, .inl (g.2.1 0, 8, .inl (upd G5 4 (rN Wd r 3)))), (qe, .inl (g.2.1 1, 32, .inl fe)), (qr, .inl (g.2.1 0, 64, .inl fr9)), (qi, .inl (g.2.1 0, 8, .inl fb9))] H := hP
                    have hD : va_D A [(m0, .inr (6, [.int th, .int (nI kn), .ref qf, .ref qu, .ref qz, .ref qd, .ref qx, .int (nI mn), .int has, .ref ql, .int (nI tn), .ref qg, .int cc, .ref qb, .ref qy, .ref qc, .int sp, .int rk, .ref qe, .ref qw, .ref qt, .ref qr, .ref qi])), (qz, .inl (g.2.1 0, 15, .inl fz)), (qx, .inl (g.2.1 1, 480, .inl fx)), (qw, .inl (g.2.1 0, 64, .inl F)), (qt, .inl (g.2.1 0, 8, .inl (upd G5 4 (rN Wd r 3)))), (qe, .inl (g.2.1 1, 32, .inl fe)), (qr, .inl (g.2.1 0, 64, .inl fr9)), (qi, .inl (g.2.1 0, 8, .inl fb9))] := hD
                    obtain ⟨G4, eG4⟩ : ∃ z, z = upd G5 4 (rN Wd r 3) := ⟨_, rfl⟩
                    rw [← eG4] at hP hD
                    have hG4 : ∀ e, e < 8 → G4 e = if 4 ≤ e then rN Wd r (e - 1) else rN Wd r e := by rw [eG4]; exact shS hG5 rfl
                    refine lv_iinc (v := (nI 3)) (lv' := [(9, .int (nI 3)), (8, .int (rV (rN Wd r))), (7, .int (rU (sK r) (Wd r) (rN Wd r))), (6, .int (rN Wd r 0)), (5, .int (rN Wd r 4)), (0, .ref m0), (1, .int (nI i)), (2, .long (lN N)), (4, .int (nI r))]) hx hb dX5_reckon_390 hl (k := 0) rfl (by decide) (by decide) rfl (fun ls hl => ?_)
                    refine lv_goto (tgt := 369) hx hb dX5_reckon_393 (by decide) ?_
                    refine lv_iload hx hb dX5_reckon_369 (lv_at hl 0 rfl) ?_
                    refine lv_if_le (tgt := 396) hx hb dX5_reckon_371 (by decide) (fun c9 => absurd c9 (by decide)) (fun _ => ?_)
                    refine lv_aload_n hx hb dX5_reckon_374 rfl (lv_at hl 5 rfl) ?_
                    refine va_get (D := g.1) (ci := 6) (v := .ref qt) (C := RX5) (T := TX5) (N := 23) hx hb hts hiX5 hown hK.1 hP 0 rfl rfl 20 (by decide) (hts (.fieldLink RX5 52 "StampMakerModel" "state" "[I") (by decide +kernel)) (fun _ h9 => h9) rfl dX5_reckon_375 ?_
                    refine lv_iload hx hb dX5_reckon_378 (lv_at hl 0 rfl) ?_
                    refine lv_aload_n hx hb dX5_reckon_380 rfl (lv_at hl 5 rfl) ?_
                    refine va_get (D := g.1) (ci := 6) (v := .ref qt) (C := RX5) (T := TX5) (N := 23) hx hb hts hiX5 hown hK.1 hP 0 rfl rfl 20 (by decide) (hts (.fieldLink RX5 52 "StampMakerModel" "state" "[I") (by decide +kernel)) (fun _ h9 => h9) rfl dX5_reckon_381 ?_
                    refine lv_iload hx hb dX5_reckon_384 (lv_at hl 0 rfl) ?_
                    refine lv_iconst (v := (nI 1)) hx hb dX5_reckon_386 (by decide) ?_
                    refine lv_isub hx hb dX5_reckon_387 ?_
                    refine lv_rei (x' := (nI 2)) (by decide) ?_
                    refine va_iald hx hb hK.1 hP 4 0 rfl rfl (vp_in_nI (by omega) (by omega)) dX5_reckon_388 ?_
                    refine lv_rei (x' := G4 2) (congrArg G4 (nI_clamp (by omega))) ?_
                    refine lv_rei (x' := (rN Wd r 2)) (by rw [hG4 2 (by decide), if_neg (by decide)]) ?_
                    refine va_iast hx hb hK.1 hP hD hS 4 0 rfl rfl (vp_in_nI (by omega) (by omega)) dX5_reckon_389 (fun H locs hP hD hS => ?_)
                    rw [nI_clamp (by omega)] at hP hD
                    have hP : va_P g.1 vwCl [(m0, .inr (6, [.int th, .int (nI kn), .ref qf, .ref qu, .ref qz, .ref qd, .ref qx, .int (nI mn), .int has, .ref ql, .int (nI tn), .ref qg, .int cc, .ref qb, .ref qy, .ref qc, .int sp, .int rk, .ref qe, .ref qw, .ref qt, .ref qr, .ref qi])), (qz, .inl (g.2.1 0, 15, .inl fz)), (qx, .inl (g.2.1 1, 480, .inl fx)), (qw, .inl (g.2.1 0, 64, .inl F)), (qt, .inl (g.2.1 0, 8, .inl (upd G4 3 (rN Wd r 2)))), (qe, .inl (g.2.1 1, 32, .inl fe)), (qr, .inl (g.2.1 0, 64, .inl fr9)), (qi, .inl (g.2.1 0, 8, .inl fb9))] H := hP
                    have hD : va_D A [(m0, .inr (6, [.int th, .int (nI kn), .ref qf, .ref qu, .ref qz, .ref qd, .ref qx, .int (nI mn), .int has, .ref ql, .int (nI tn), .ref qg, .int cc, .ref qb, .ref qy, .ref qc, .int sp, .int rk, .ref qe, .ref qw, .ref qt, .ref qr, .ref qi])), (qz, .inl (g.2.1 0, 15, .inl fz)), (qx, .inl (g.2.1 1, 480, .inl fx)), (qw, .inl (g.2.1 0, 64, .inl F)), (qt, .inl (g.2.1 0, 8, .inl (upd G4 3 (rN Wd r 2)))), (qe, .inl (g.2.1 1, 32, .inl fe)), (qr, .inl (g.2.1 0, 64, .inl fr9)), (qi, .inl (g.2.1 0, 8, .inl fb9))] := hD
                    obtain ⟨G3, eG3⟩ : ∃ z, z = upd G4 3 (rN Wd r 2) := ⟨_, rfl⟩
                    rw [← eG3] at hP hD
                    have hG3 : ∀ e, e < 8 → G3 e = if 3 ≤ e then rN Wd r (e - 1) else rN Wd r e := by rw [eG3]; exact shS hG4 rfl
                    refine lv_iinc (v := (nI 2)) (lv' := [(9, .int (nI 2)), (8, .int (rV (rN Wd r))), (7, .int (rU (sK r) (Wd r) (rN Wd r))), (6, .int (rN Wd r 0)), (5, .int (rN Wd r 4)), (0, .ref m0), (1, .int (nI i)), (2, .long (lN N)), (4, .int (nI r))]) hx hb dX5_reckon_390 hl (k := 0) rfl (by decide) (by decide) rfl (fun ls hl => ?_)
                    refine lv_goto (tgt := 369) hx hb dX5_reckon_393 (by decide) ?_
                    refine lv_iload hx hb dX5_reckon_369 (lv_at hl 0 rfl) ?_
                    refine lv_if_le (tgt := 396) hx hb dX5_reckon_371 (by decide) (fun c9 => absurd c9 (by decide)) (fun _ => ?_)
                    refine lv_aload_n hx hb dX5_reckon_374 rfl (lv_at hl 5 rfl) ?_
                    refine va_get (D := g.1) (ci := 6) (v := .ref qt) (C := RX5) (T := TX5) (N := 23) hx hb hts hiX5 hown hK.1 hP 0 rfl rfl 20 (by decide) (hts (.fieldLink RX5 52 "StampMakerModel" "state" "[I") (by decide +kernel)) (fun _ h9 => h9) rfl dX5_reckon_375 ?_
                    refine lv_iload hx hb dX5_reckon_378 (lv_at hl 0 rfl) ?_
                    refine lv_aload_n hx hb dX5_reckon_380 rfl (lv_at hl 5 rfl) ?_
                    refine va_get (D := g.1) (ci := 6) (v := .ref qt) (C := RX5) (T := TX5) (N := 23) hx hb hts hiX5 hown hK.1 hP 0 rfl rfl 20 (by decide) (hts (.fieldLink RX5 52 "StampMakerModel" "state" "[I") (by decide +kernel)) (fun _ h9 => h9) rfl dX5_reckon_381 ?_
                    refine lv_iload hx hb dX5_reckon_384 (lv_at hl 0 rfl) ?_
                    refine lv_iconst (v := (nI 1)) hx hb dX5_reckon_386 (by decide) ?_
                    refine lv_isub hx hb dX5_reckon_387 ?_
                    refine lv_rei (x' := (nI 1)) (by decide) ?_
                    refine va_iald hx hb hK.1 hP 4 0 rfl rfl (vp_in_nI (by omega) (by omega)) dX5_reckon_388 ?_
                    refine lv_rei (x' := G3 1) (congrArg G3 (nI_clamp (by omega))) ?_
                    refine lv_rei (x' := (rN Wd r 1)) (by rw [hG3 1 (by decide), if_neg (by decide)]) ?_
                    refine va_iast hx hb hK.1 hP hD hS 4 0 rfl rfl (vp_in_nI (by omega) (by omega)) dX5_reckon_389 (fun H locs hP hD hS => ?_)
                    rw [nI_clamp (by omega)] at hP hD
                    have hP : va_P g.1 vwCl [(m0, .inr (6, [.int th, .int (nI kn), .ref qf, .ref qu, .ref qz, .ref qd, .ref qx, .int (nI mn), .int has, .ref ql, .int (nI tn), .ref qg, .int cc, .ref qb, .ref qy, .ref qc, .int sp, .int rk, .ref qe, .ref qw, .ref qt, .ref qr, .ref qi])), (qz, .inl (g.2.1 0, 15, .inl fz)), (qx, .inl (g.2.1 1, 480, .inl fx)), (qw, .inl (g.2.1 0, 64, .inl F)), (qt, .inl (g.2.1 0, 8, .inl (upd G3 2 (rN Wd r 1)))), (qe, .inl (g.2.1 1, 32, .inl fe)), (qr, .inl (g.2.1 0, 64, .inl fr9)), (qi, .inl (g.2.1 0, 8, .inl fb9))] H := hP
                    have hD : va_D A [(m0, .inr (6, [.int th, .int (nI kn), .ref qf, .ref qu, .ref qz, .ref qd, .ref qx, .int (nI mn), .int has, .ref ql, .int (nI tn), .ref qg, .int cc, .ref qb, .ref qy, .ref qc, .int sp, .int rk, .ref qe, .ref qw, .ref qt, .ref qr, .ref qi])), (qz, .inl (g.2.1 0, 15, .inl fz)), (qx, .inl (g.2.1 1, 480, .inl fx)), (qw, .inl (g.2.1 0, 64, .inl F)), (qt, .inl (g.2.1 0, 8, .inl (upd G3 2 (rN Wd r 1)))), (qe, .inl (g.2.1 1, 32, .inl fe)), (qr, .inl (g.2.1 0, 64, .inl fr9)), (qi, .inl (g.2.1 0, 8, .inl fb9))] := hD
                    obtain ⟨G2, eG2⟩ : ∃ z, z = upd G3 2 (rN Wd r 1) := ⟨_, rfl⟩
                    rw [← eG2] at hP hD
                    have hG2 : ∀ e, e < 8 → G2 e = if 2 ≤ e then rN Wd r (e - 1) else rN Wd r e := by rw [eG2]; exact shS hG3 rfl
                    refine lv_iinc (v := (nI 1)) (lv' := [(9, .int (nI 1)), (8, .int (rV (rN Wd r))), (7, .int (rU (sK r) (Wd r) (rN Wd r))), (6, .int (rN Wd r 0)), (5, .int (rN Wd r 4)), (0, .ref m0), (1, .int (nI i)), (2, .long (lN N)), (4, .int (nI r))]) hx hb dX5_reckon_390 hl (k := 0) rfl (by decide) (by decide) rfl (fun ls hl => ?_)
                    refine lv_goto (tgt := 369) hx hb dX5_reckon_393 (by decide) ?_
                    refine lv_iload hx hb dX5_reckon_369 (lv_at hl 0 rfl) ?_
                    refine lv_if_le (tgt := 396) hx hb dX5_reckon_371 (by decide) (fun c9 => absurd c9 (by decide)) (fun _ => ?_)
                    refine lv_aload_n hx hb dX5_reckon_374 rfl (lv_at hl 5 rfl) ?_
                    refine va_get (D := g.1) (ci := 6) (v := .ref qt) (C := RX5) (T := TX5) (N := 23) hx hb hts hiX5 hown hK.1 hP 0 rfl rfl 20 (by decide) (hts (.fieldLink RX5 52 "StampMakerModel" "state" "[I") (by decide +kernel)) (fun _ h9 => h9) rfl dX5_reckon_375 ?_
                    refine lv_iload hx hb dX5_reckon_378 (lv_at hl 0 rfl) ?_
                    refine lv_aload_n hx hb dX5_reckon_380 rfl (lv_at hl 5 rfl) ?_
                    refine va_get (D := g.1) (ci := 6) (v := .ref qt) (C := RX5) (T := TX5) (N := 23) hx hb hts hiX5 hown hK.1 hP 0 rfl rfl 20 (by decide) (hts (.fieldLink RX5 52 "StampMakerModel" "state" "[I") (by decide +kernel)) (fun _ h9 => h9) rfl dX5_reckon_381 ?_
                    refine lv_iload hx hb dX5_reckon_384 (lv_at hl 0 rfl) ?_
                    refine lv_iconst (v := (nI 1)) hx hb dX5_reckon_386 (by decide) ?_
                    refine lv_isub hx hb dX5_reckon_387 ?_
                    refine lv_rei (x' := (nI 0)) (by decide) ?_
                    refine va_iald hx hb hK.1 hP 4 0 rfl rfl (vp_in_nI (by omega) (by omega)) dX5_reckon_388 ?_
                    refine lv_rei (x' := G2 0) (congrArg G2 (nI_clamp (by omega))) ?_
                    refine lv_rei (x' := (rN Wd r 0)) (by rw [hG2 0 (by decide), if_neg (by decide)]) ?_
                    refine va_iast hx hb hK.1 hP hD hS 4 0 rfl rfl (vp_in_nI (by omega) (by omega)) dX5_reckon_389 (fun H locs hP hD hS => ?_)
                    rw [nI_clamp (by omega)] at hP hD
                    have hP : va_P g.1 vwCl [(m0, .inr (6, [.int th, .int (nI kn), .ref qf, .ref qu, .ref qz, .ref qd, .ref qx, .int (nI mn), .int has, .ref ql, .int (nI tn), .ref qg, .int cc, .ref qb, .ref qy, .ref qc, .int sp, .int rk, .ref qe, .ref qw, .ref qt, .ref qr, .ref qi])), (qz, .inl (g.2.1 0, 15, .inl fz)), (qx, .inl (g.2.1 1, 480, .inl fx)), (qw, .inl (g.2.1 0, 64, .inl F)), (qt, .inl (g.2.1 0, 8, .inl (upd G2 1 (rN Wd r 0)))), (qe, .inl (g.2.1 1, 32, .inl fe)), (qr, .inl (g.2.1 0, 64, .inl fr9)), (qi, .inl (g.2.1 0, 8, .inl fb9))] H := hP
                    have hD : va_D A [(m0, .inr (6, [.int th, .int (nI kn), .ref qf, .ref qu, .ref qz, .ref qd, .ref qx, .int (nI mn), .int has, .ref ql, .int (nI tn), .ref qg, .int cc, .ref qb, .ref qy, .ref qc, .int sp, .int rk, .ref qe, .ref qw, .ref qt, .ref qr, .ref qi])), (qz, .inl (g.2.1 0, 15, .inl fz)), (qx, .inl (g.2.1 1, 480, .inl fx)), (qw, .inl (g.2.1 0, 64, .inl F)), (qt, .inl (g.2.1 0, 8, .inl (upd G2 1 (rN Wd r 0)))), (qe, .inl (g.2.1 1, 32, .inl fe)), (qr, .inl (g.2.1 0, 64, .inl fr9)), (qi, .inl (g.2.1 0, 8, .inl fb9))] := hD
                    obtain ⟨G1, eG1⟩ : ∃ z, z = upd G2 1 (rN Wd r 0) := ⟨_, rfl⟩
                    rw [← eG1] at hP hD
                    have hG1 : ∀ e, e < 8 → G1 e = if 1 ≤ e then rN Wd r (e - 1) else rN Wd r e := by rw [eG1]; exact shS hG2 rfl
                    refine lv_iinc (v := (nI 0)) (lv' := [(9, .int (nI 0)), (8, .int (rV (rN Wd r))), (7, .int (rU (sK r) (Wd r) (rN Wd r))), (6, .int (rN Wd r 0)), (5, .int (rN Wd r 4)), (0, .ref m0), (1, .int (nI i)), (2, .long (lN N)), (4, .int (nI r))]) hx hb dX5_reckon_390 hl (k := 0) rfl (by decide) (by decide) rfl (fun ls hl => ?_)
                    refine lv_goto (tgt := 369) hx hb dX5_reckon_393 (by decide) ?_
                    refine lv_iload hx hb dX5_reckon_369 (lv_at hl 0 rfl) ?_
                    refine lv_if_le (tgt := 396) hx hb dX5_reckon_371 (by decide) (fun _ => ?_) (fun c9 => absurd (by decide) c9)
                    refine lv_aload_n hx hb dX5_reckon_396 rfl (lv_at hl 5 rfl) ?_
                    refine va_get (D := g.1) (ci := 6) (v := .ref qt) (C := RX5) (T := TX5) (N := 23) hx hb hts hiX5 hown hK.1 hP 0 rfl rfl 20 (by decide) (hts (.fieldLink RX5 52 "StampMakerModel" "state" "[I") (by decide +kernel)) (fun _ h9 => h9) rfl dX5_reckon_397 ?_
                    refine lv_iconst (v := (nI 4)) hx hb dX5_reckon_400 (by decide) ?_
                    refine lv_aload_n hx hb dX5_reckon_401 rfl (lv_at hl 5 rfl) ?_
                    refine va_get (D := g.1) (ci := 6) (v := .ref qt) (C := RX5) (T := TX5) (N := 23) hx hb hts hiX5 hown hK.1 hP 0 rfl rfl 20 (by decide) (hts (.fieldLink RX5 52 "StampMakerModel" "state" "[I") (by decide +kernel)) (fun _ h9 => h9) rfl dX5_reckon_402 ?_
                    refine lv_iconst (v := (nI 4)) hx hb dX5_reckon_405 (by decide) ?_
                    refine va_iald hx hb hK.1 hP 4 0 rfl rfl (vp_in_nI (by omega) (by omega)) dX5_reckon_406 ?_
                    refine lv_rei (x' := G1 4) (congrArg G1 (nI_clamp (by omega))) ?_
                    refine lv_rei (x' := (rN Wd r 3)) (by rw [hG1 4 (by decide), if_pos (by decide)]) ?_
                    refine lv_iload hx hb dX5_reckon_407 (lv_at hl 2 rfl) ?_
                    refine lv_iadd hx hb dX5_reckon_409 ?_
                    refine lv_rei (x' := (rN Wd (r + 1) 4)) (rn_4 Wd r) ?_
                    refine va_iast hx hb hK.1 hP hD hS 4 0 rfl rfl (vp_in_nI (by omega) (by omega)) dX5_reckon_410 (fun H locs hP hD hS => ?_)
                    rw [nI_clamp (by omega)] at hP hD
                    have hP : va_P g.1 vwCl [(m0, .inr (6, [.int th, .int (nI kn), .ref qf, .ref qu, .ref qz, .ref qd, .ref qx, .int (nI mn), .int has, .ref ql, .int (nI tn), .ref qg, .int cc, .ref qb, .ref qy, .ref qc, .int sp, .int rk, .ref qe, .ref qw, .ref qt, .ref qr, .ref qi])), (qz, .inl (g.2.1 0, 15, .inl fz)), (qx, .inl (g.2.1 1, 480, .inl fx)), (qw, .inl (g.2.1 0, 64, .inl F)), (qt, .inl (g.2.1 0, 8, .inl (upd G1 4 (rN Wd (r + 1) 4)))), (qe, .inl (g.2.1 1, 32, .inl fe)), (qr, .inl (g.2.1 0, 64, .inl fr9)), (qi, .inl (g.2.1 0, 8, .inl fb9))] H := hP
                    have hD : va_D A [(m0, .inr (6, [.int th, .int (nI kn), .ref qf, .ref qu, .ref qz, .ref qd, .ref qx, .int (nI mn), .int has, .ref ql, .int (nI tn), .ref qg, .int cc, .ref qb, .ref qy, .ref qc, .int sp, .int rk, .ref qe, .ref qw, .ref qt, .ref qr, .ref qi])), (qz, .inl (g.2.1 0, 15, .inl fz)), (qx, .inl (g.2.1 1, 480, .inl fx)), (qw, .inl (g.2.1 0, 64, .inl F)), (qt, .inl (g.2.1 0, 8, .inl (upd G1 4 (rN Wd (r + 1) 4)))), (qe, .inl (g.2.1 1, 32, .inl fe)), (qr, .inl (g.2.1 0, 64, .inl fr9)), (qi, .inl (g.2.1 0, 8, .inl fb9))] := hD
                    refine lv_aload_n hx hb dX5_reckon_411 rfl (lv_at hl 5 rfl) ?_
                    refine va_get (D := g.1) (ci := 6) (v := .ref qt) (C := RX5) (T := TX5) (N := 23) hx hb hts hiX5 hown hK.1 hP 0 rfl rfl 20 (by decide) (hts (.fieldLink RX5 52 "StampMakerModel" "state" "[I") (by decide +kernel)) (fun _ h9 => h9) rfl dX5_reckon_412 ?_
                    refine lv_iconst (v := (nI 0)) hx hb dX5_reckon_415 (by decide) ?_
                    refine lv_iload hx hb dX5_reckon_416 (lv_at hl 2 rfl) ?_
                    refine lv_iload hx hb dX5_reckon_418 (lv_at hl 1 rfl) ?_
                    refine lv_iadd hx hb dX5_reckon_420 ?_
                    refine lv_rei (x' := (rN Wd (r + 1) 0)) (rn_0 Wd r) ?_
                    refine va_iast hx hb hK.1 hP hD hS 4 0 rfl rfl (vp_in_nI (by omega) (by omega)) dX5_reckon_421 (fun H locs hP hD hS => ?_)
                    rw [nI_clamp (by omega)] at hP hD
                    have hP : va_P g.1 vwCl [(m0, .inr (6, [.int th, .int (nI kn), .ref qf, .ref qu, .ref qz, .ref qd, .ref qx, .int (nI mn), .int has, .ref ql, .int (nI tn), .ref qg, .int cc, .ref qb, .ref qy, .ref qc, .int sp, .int rk, .ref qe, .ref qw, .ref qt, .ref qr, .ref qi])), (qz, .inl (g.2.1 0, 15, .inl fz)), (qx, .inl (g.2.1 1, 480, .inl fx)), (qw, .inl (g.2.1 0, 64, .inl F)), (qt, .inl (g.2.1 0, 8, .inl (upd (upd G1 4 (rN Wd (r + 1) 4)) 0 (rN Wd (r + 1) 0)))), (qe, .inl (g.2.1 1, 32, .inl fe)), (qr, .inl (g.2.1 0, 64, .inl fr9)), (qi, .inl (g.2.1 0, 8, .inl fb9))] H := hP
                    have hD : va_D A [(m0, .inr (6, [.int th, .int (nI kn), .ref qf, .ref qu, .ref qz, .ref qd, .ref qx, .int (nI mn), .int has, .ref ql, .int (nI tn), .ref qg, .int cc, .ref qb, .ref qy, .ref qc, .int sp, .int rk, .ref qe, .ref qw, .ref qt, .ref qr, .ref qi])), (qz, .inl (g.2.1 0, 15, .inl fz)), (qx, .inl (g.2.1 1, 480, .inl fx)), (qw, .inl (g.2.1 0, 64, .inl F)), (qt, .inl (g.2.1 0, 8, .inl (upd (upd G1 4 (rN Wd (r + 1) 4)) 0 (rN Wd (r + 1) 0)))), (qe, .inl (g.2.1 1, 32, .inl fe)), (qr, .inl (g.2.1 0, 64, .inl fr9)), (qi, .inl (g.2.1 0, 8, .inl fb9))] := hD
                    refine lv_iinc (v := (nI (r + 1))) (lv' := [(4, .int (nI (r + 1))), (9, .int (nI 0)), (8, .int (rV (rN Wd r))), (7, .int (rU (sK r) (Wd r) (rN Wd r))), (6, .int (rN Wd r 0)), (5, .int (rN Wd r 4)), (0, .ref m0), (1, .int (nI i)), (2, .long (lN N))]) hx hb dX5_reckon_422 hl (k := 8) rfl (nI_1 _) (by decide) rfl (fun ls hl => ?_)
                    refine lv_goto (tgt := 212) hx hb dX5_reckon_425 (by decide) ?_
                    exact ihL4 (r + 1) (upd (upd G1 4 (rN Wd (r + 1) 4)) 0 (rN Wd (r + 1) 0)) (by omega) (by omega) (finS hG1) _ _ hP hD hS ls (lv_sub hl [6, 7, 8, 0] rfl)
                  · refine lv_icmp_ge (tgt := 428) hx hb dX5_reckon_216 (by decide) (fun _ => ?_) (fun c9 => absurd (nI_le q4 (by omega)) c9)
                    obtain rfl : r = 64 := by omega
                    refine lv_iconst (v := (nI 0)) hx hb dX5_reckon_428 (by decide) ?_
                    refine lv_istore (lv' := [(4, .int (nI 0)), (0, .ref m0), (1, .int (nI i)), (2, .long (lN N))]) hx hb dX5_reckon_429 hl (by decide) rfl (fun ls hl => ?_)
                    have L6 : ∀ (fu : Nat) (b : Nat) (E : Nat → Int32), (33 ≤ b + fu) → (b ≤ 32) → (∀ j, j < b → E j = oB (dG f nz N (j / 4)) (24 - 8 * (j % 4))) → ∀ (H : Heap) (locs : List Loc), va_P g.1 vwCl [(m0, .inr (6, [.int th, .int (nI kn), .ref qf, .ref qu, .ref qz, .ref qd, .ref qx, .int (nI mn), .int has, .ref ql, .int (nI tn), .ref qg, .int cc, .ref qb, .ref qy, .ref qc, .int sp, .int rk, .ref qe, .ref qw, .ref qt, .ref qr, .ref qi])), (qz, .inl (g.2.1 0, 15, .inl fz)), (qx, .inl (g.2.1 1, 480, .inl fx)), (qw, .inl (g.2.1 0, 64, .inl F)), (qt, .inl (g.2.1 0, 8, .inl S4)), (qe, .inl (g.2.1 1, 32, .inl E)), (qr, .inl (g.2.1 0, 64, .inl fr9)), (qi, .inl (g.2.1 0, 8, .inl fb9))] H → va_D A [(m0, .inr (6, [.int th, .int (nI kn), .ref qf, .ref qu, .ref qz, .ref qd, .ref qx, .int (nI mn), .int has, .ref ql, .int (nI tn), .ref qg, .int cc, .ref qb, .ref qy, .ref qc, .int sp, .int rk, .ref qe, .ref qw, .ref qt, .ref qr, .ref qi])), (qz, .inl (g.2.1 0, 15, .inl fz)), (qx, .inl (g.2.1 1, 480, .inl fx)), (qw, .inl (g.2.1 0, 64, .inl F)), (qt, .inl (g.2.1 0, 8, .inl S4)), (qe, .inl (g.2.1 1, 32, .inl E)), (qr, .inl (g.2.1 0, 64, .inl fr9)), (qi, .inl (g.2.1 0, 8, .inl fb9))] → va_S A s.heap H locs → ∀ ls : Array Slot, lv_has ls 10 [(0, .ref m0), (1, .int (nI i)), (2, .long (lN N)), (4, .int (nI b))] → W p l e (headSpec wsX5_reckon ({ frames := 1, cells := 0, slots := 0, locals := 25 } : Room)).room s m ([.ref m0, .int (nI i), .long (lN N)] : List Value).toArray below meth c H locs 0 0 (MQ below (va_Qv (fun (u : ((Nat → Int32) × (Nat → Int32) × (Nat → Int32))) => ∀ j, j < 32 → u.2.2 j = oB (dG f nz N (j / 4)) (24 - 8 * (j % 4))) (wB g A (fun u : ((Nat → Int32) × (Nat → Int32) × (Nat → Int32)) => [(m0, .inr (6, [.int th, .int (nI kn), .ref qf, .ref qu, .ref qz, .ref qd, .ref qx, .int (nI mn), .int has, .ref ql, .int (nI tn), .ref qg, .int cc, .ref qb, .ref qy, .ref qc, .int sp, .int (nI 1), .ref qe, .ref qw, .ref qt, .ref qr, .ref qi])), (qz, .inl (g.2.1 0, 15, .inl fz)), (qx, .inl (g.2.1 1, 480, .inl fx)), (qw, .inl (g.2.1 0, 64, .inl u.1)), (qt, .inl (g.2.1 0, 8, .inl u.2.1)), (qe, .inl (g.2.1 1, 32, .inl u.2.2)), (qr, .inl (g.2.1 0, 64, .inl fr9)), (qi, .inl (g.2.1 0, 8, .inl fb9))])) A) ([.ref m0, .int (nI i), .long (lN N)] : List Value).toArray s 0 0 A) (F0 m 431 ls []) := by
                      intro fu
                      induction fu with
                      | zero => intro b E i1 i2 i3 H locs hP hD hS ls hl; exact absurd i1 (by omega)
                      | succ fu ihL6 =>
                        intro b E i1 i2 i3 H locs hP hD hS ls hl
                        refine lv_iload hx hb dX5_reckon_431 (lv_at hl 3 rfl) ?_
                        refine lv_bipush (v := (nI 32)) hx hb dX5_reckon_433 (by decide) ?_
                        rcases Nat.lt_or_ge b 32 with q6 | q6
                        · refine lv_icmp_ge (tgt := 482) hx hb dX5_reckon_435 (by decide) (fun c9 => absurd c9 (nI_ge q6 (by omega))) (fun _ => ?_)
                          refine lv_aload_n hx hb dX5_reckon_438 rfl (lv_at hl 0 rfl) ?_
                          refine va_get (D := g.1) (ci := 6) (v := .ref qe) (C := RX5) (T := TX5) (N := 23) hx hb hts hiX5 hown hK.1 hP 0 rfl rfl 18 (by decide) (hts (.fieldLink RX5 46 "StampMakerModel" "digest" "[B") (by decide +kernel)) (fun _ h9 => h9) rfl dX5_reckon_439 ?_
                          refine lv_iload hx hb dX5_reckon_442 (lv_at hl 3 rfl) ?_
                          refine lv_aload_n hx hb dX5_reckon_444 rfl (lv_at hl 0 rfl) ?_
                          refine va_get (D := g.1) (ci := 6) (v := .ref qt) (C := RX5) (T := TX5) (N := 23) hx hb hts hiX5 hown hK.1 hP 0 rfl rfl 20 (by decide) (hts (.fieldLink RX5 52 "StampMakerModel" "state" "[I") (by decide +kernel)) (fun _ h9 => h9) rfl dX5_reckon_445 ?_
                          refine lv_iload hx hb dX5_reckon_448 (lv_at hl 3 rfl) ?_
                          refine lv_iconst (v := (nI 4)) hx hb dX5_reckon_450 (by decide) ?_
                          refine lv_idiv hx hb dX5_reckon_451 (by decide) ?_
                          refine lv_rei (x' := (nI (b / 4))) (pk_div (by omega) (by decide) (by decide)) ?_
                          refine va_iald hx hb hK.1 hP 4 0 rfl rfl (vp_in_nI (by omega) (by omega)) dX5_reckon_452 ?_
                          refine lv_rei (x' := S4 (b / 4)) (congrArg S4 (nI_clamp (by omega))) ?_
                          refine lv_rei (x' := (rN Wd 64 (b / 4))) (j3 _ (by omega)) ?_
                          refine lv_aload_n hx hb dX5_reckon_453 rfl (lv_at hl 0 rfl) ?_
                          refine va_get (D := g.1) (ci := 6) (v := .ref qi) (C := RX5) (T := TX5) (N := 23) hx hb hts hiX5 hown hK.1 hP 0 rfl rfl 22 (by decide) (hts (.fieldLink RX5 130 "StampMakerModel" "begins" "[I") (by decide +kernel)) (fun _ h9 => h9) rfl dX5_reckon_454 ?_
                          refine lv_iload hx hb dX5_reckon_457 (lv_at hl 3 rfl) ?_
                          refine lv_iconst (v := (nI 4)) hx hb dX5_reckon_459 (by decide) ?_
                          refine lv_idiv hx hb dX5_reckon_460 (by decide) ?_
                          refine lv_rei (x' := (nI (b / 4))) (pk_div (by omega) (by decide) (by decide)) ?_
                          refine va_iald hx hb hK.1 hP 7 0 rfl rfl (vp_in_nI (by omega) (by omega)) dX5_reckon_461 ?_
                          refine lv_rei (x' := fb9 (b / 4)) (congrArg fb9 (nI_clamp (by omega))) ?_
                          refine lv_rei (x' := (sBeg (b / 4))) (hb9 _ (by omega)) ?_
                          refine lv_iadd hx hb dX5_reckon_462 ?_
                          refine lv_rei (x' := (dG f nz N (b / 4))) (by rw [Int32.add_comm, eWd]; rfl) ?_
                          refine lv_bipush (v := (nI 24)) hx hb dX5_reckon_463 (by decide) ?_
                          refine lv_bipush (v := (nI 8)) hx hb dX5_reckon_465 (by decide) ?_
                          refine lv_iload hx hb dX5_reckon_467 (lv_at hl 3 rfl) ?_
                          refine lv_iconst (v := (nI 4)) hx hb dX5_reckon_469 (by decide) ?_
                          refine lv_irem hx hb dX5_reckon_470 (by decide) ?_
                          refine lv_rei (x' := (nI (b % 4))) (pk_rem (by omega) (by decide) (by decide)) ?_
                          refine lv_imul hx hb dX5_reckon_471 ?_
                          refine lv_rei (x' := (nI (8 * (b % 4)))) (pk_mul _ _) ?_
                          refine lv_isub hx hb dX5_reckon_472 ?_
                          refine lv_rei (x' := (nI (24 - 8 * (b % 4)))) (pk_sub (by omega)) ?_
                          refine lv_ishr hx hb dX5_reckon_473 ?_
                          refine lv_i2b hx hb dX5_reckon_474 rfl ?_
                          refine lv_rei (x' := (oB (dG f nz N (b / 4)) (24 - 8 * (b % 4)))) (by_s _ (by omega)) ?_
                          refine va_bast hx hb hK.1 hP hD hS 5 1 rfl rfl (vp_in_nI (by omega) (by omega)) dX5_reckon_475 (fun H locs hP hD hS => ?_)
                          rw [nI_clamp (by omega)] at hP hD
                          rw [oB_nar] at hP hD
                          have hP : va_P g.1 vwCl [(m0, .inr (6, [.int th, .int (nI kn), .ref qf, .ref qu, .ref qz, .ref qd, .ref qx, .int (nI mn), .int has, .ref ql, .int (nI tn), .ref qg, .int cc, .ref qb, .ref qy, .ref qc, .int sp, .int rk, .ref qe, .ref qw, .ref qt, .ref qr, .ref qi])), (qz, .inl (g.2.1 0, 15, .inl fz)), (qx, .inl (g.2.1 1, 480, .inl fx)), (qw, .inl (g.2.1 0, 64, .inl F)), (qt, .inl (g.2.1 0, 8, .inl S4)), (qe, .inl (g.2.1 1, 32, .inl (upd E b (oB (dG f nz N (b / 4)) (24 - 8 * (b % 4)))))), (qr, .inl (g.2.1 0, 64, .inl fr9)), (qi, .inl (g.2.1 0, 8, .inl fb9))] H := hP
                          have hD : va_D A [(m0, .inr (6, [.int th, .int (nI kn), .ref qf, .ref qu, .ref qz, .ref qd, .ref qx, .int (nI mn), .int has, .ref ql, .int (nI tn), .ref qg, .int cc, .ref qb, .ref qy, .ref qc, .int sp, .int rk, .ref qe, .ref qw, .ref qt, .ref qr, .ref qi])), (qz, .inl (g.2.1 0, 15, .inl fz)), (qx, .inl (g.2.1 1, 480, .inl fx)), (qw, .inl (g.2.1 0, 64, .inl F)), (qt, .inl (g.2.1 0, 8, .inl S4)), (qe, .inl (g.2.1 1, 32, .inl (upd E b (oB (dG f nz N (b / 4)) (24 - 8 * (b % 4)))))), (qr, .inl (g.2.1 0, 64, .inl fr9)), (qi, .inl (g.2.1 0, 8, .inl fb9))] := hD
                          refine lv_iinc (v := (nI (b + 1))) (lv' := [(4, .int (nI (b + 1))), (0, .ref m0), (1, .int (nI i)), (2, .long (lN N))]) hx hb dX5_reckon_476 hl (k := 3) rfl (nI_1 _) (by decide) rfl (fun ls hl => ?_)
                          refine lv_goto (tgt := 431) hx hb dX5_reckon_479 (by decide) ?_
                          exact ihL6 (b + 1) (upd E b (oB (dG f nz N (b / 4)) (24 - 8 * (b % 4)))) (by omega) (by omega) (fun j hj => by
                                                unfold upd
                                                by_cases z : j = b
                                                · rw [if_pos z, z]
                                                · rw [if_neg z]; exact i3 j (by omega)) _ _ hP hD hS ls (lv_sub hl [1, 2, 3, 0] rfl)
                        · refine lv_icmp_ge (tgt := 482) hx hb dX5_reckon_435 (by decide) (fun _ => ?_) (fun c9 => absurd (nI_le q6 (by omega)) c9)
                          refine lv_aload_n hx hb dX5_reckon_482 rfl (lv_at hl 0 rfl) ?_
                          refine lv_iconst (v := (nI 1)) hx hb dX5_reckon_483 (by decide) ?_
                          refine va_put (D := g.1) (ci := 6) (v := .int (nI 1)) (ty := .boolean) (C := RX5) (T := TX5) (N := 23) hx hb hts hiX5 tyX5 tyX5_ok nmX5 hown hK.1 hP hD hS 0 rfl rfl 17 (by decide) (hts (.fieldLink RX5 157 "StampMakerModel" "reckoned" "Z") (by decide +kernel)) (fun _ h9 => h9) rfl (by decide +kernel) (by decide) (by decide) (Nat.le_of_ble_eq_true rfl) dX5_reckon_484 (fun H locs hP hD hS => ?_)
                          have hP : va_P g.1 vwCl [(m0, .inr (6, [.int th, .int (nI kn), .ref qf, .ref qu, .ref qz, .ref qd, .ref qx, .int (nI mn), .int has, .ref ql, .int (nI tn), .ref qg, .int cc, .ref qb, .ref qy, .ref qc, .int sp, .int (nI 1), .ref qe, .ref qw, .ref qt, .ref qr, .ref qi])), (qz, .inl (g.2.1 0, 15, .inl fz)), (qx, .inl (g.2.1 1, 480, .inl fx)), (qw, .inl (g.2.1 0, 64, .inl F)), (qt, .inl (g.2.1 0, 8, .inl S4)), (qe, .inl (g.2.1 1, 32, .inl E)), (qr, .inl (g.2.1 0, 64, .inl fr9)), (qi, .inl (g.2.1 0, 8, .inl fb9))] H := hP
                          have hD : va_D A [(m0, .inr (6, [.int th, .int (nI kn), .ref qf, .ref qu, .ref qz, .ref qd, .ref qx, .int (nI mn), .int has, .ref ql, .int (nI tn), .ref qg, .int cc, .ref qb, .ref qy, .ref qc, .int sp, .int (nI 1), .ref qe, .ref qw, .ref qt, .ref qr, .ref qi])), (qz, .inl (g.2.1 0, 15, .inl fz)), (qx, .inl (g.2.1 1, 480, .inl fx)), (qw, .inl (g.2.1 0, 64, .inl F)), (qt, .inl (g.2.1 0, 8, .inl S4)), (qe, .inl (g.2.1 1, 32, .inl E)), (qr, .inl (g.2.1 0, 64, .inl fr9)), (qi, .inl (g.2.1 0, 8, .inl fb9))] := hD
                          exact endWv (F, S4, E) hx hb hr hlocks hS dX5_reckon_487 hP hD (fun j hj => i3 j (by omega))
                    exact L6 33 0 fe (by omega) (by omega) (fun j hj => absurd hj (Nat.not_lt_zero j)) _ _ hP hD hS ls (lv_sub hl [1, 2, 3, 0] rfl)
              exact L4 65 0 S (by omega) (by omega) (hS0) _ _ hP hD hS ls (lv_sub hl [1, 2, 3, 0] rfl)
        exact L3 9 0 fs (by omega) (by omega) (fun j hj => absurd hj (Nat.not_lt_zero j)) _ _ hP hD hS ls (lv_sub hl [1, 2, 3, 0] rfl)
  exact L1 65 0 fw (by omega) (by omega) (fun j hj => absurd hj (Nat.not_lt_zero j)) _ _ hP hD hS ls (lv_sub hl [1, 2, 3, 0] rfl)
