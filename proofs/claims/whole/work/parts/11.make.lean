theorem s_uu : ∀ n, n < 32 → (((nI n).toUInt32 &&& Int32.toUInt32 31).toBitVec % 32).toNat = n := by decide
set_option maxHeartbeats 4000000 in
set_option maxRecDepth 100000 in
/-- the sixteen letters -/
theorem c_X4_writeLetters (l : Launch) (g : gE) (hsz : Nat) (s0 ks lt ty lg dg kn mn tn : Nat) (cc sp : Int32) (fl : Nat → Int32) (N S : Nat) (hN : N < 36028797018963968) (hS2 : S < 33554432) : Met l yX4_writeLetters wsX4_writeLetters ({ frames := 5, cells := 0, slots := 0, locals := 105 }) (va_Pc [.ref s0, .long (lN N), .int (nI S)] (wr g [(s0, .inr (5, [.ref ks, .int (nI kn), .int (nI mn), .ref lt, .ref ty, .int (nI tn), .int cc, .int sp, .ref lg, .ref dg])), (lt, .inl (g.2.1 0, 16, .inl fl))] hsz)) (va_Qv (fun (u : (Nat → Int32)) => ∀ j, j < 16 → u j = ltE N S j) (wB g (va_A [(s0, .inr (5, [.ref ks, .int (nI kn), .int (nI mn), .ref lt, .ref ty, .int (nI tn), .int cc, .int sp, .ref lg, .ref dg])), (lt, .inl (g.2.1 0, 16, .inl fl))] hsz) (fun u : (Nat → Int32) => [(s0, .inr (5, [.ref ks, .int (nI kn), .int (nI mn), .ref lt, .ref ty, .int (nI tn), .int cc, .int sp, .ref lg, .ref dg])), (lt, .inl (g.2.1 0, 16, .inl u))])) (va_A [(s0, .inr (5, [.ref ks, .int (nI kn), .int (nI mn), .ref lt, .ref ty, .int (nI tn), .int cc, .int sp, .ref lg, .ref dg])), (lt, .inl (g.2.1 0, 16, .inl fl))] hsz)) 0 0 (va_A [(s0, .inr (5, [.ref ks, .int (nI kn), .int (nI mn), .ref lt, .ref ty, .int (nI tn), .int cc, .int sp, .ref lg, .ref dg])), (lt, .inl (g.2.1 0, 16, .inl fl))] hsz) := by
  refine ofWv (cc := cX4_writeLetters) (maxL := 5) (ret := none) (by decide) rfl (Nat.le_of_ble_eq_true rfl) (fun p e s m below meth c hx hb hr hml hts hown hlocks hnm A H hH hA hP hD hK hZ hS ls hl => ?_)
  have hown : s.vm.findClass RX4 = some m.cls := hown
  have hl : lv_has ls 5 [(0, .ref s0), (1, .long (lN N)), (3, .int (nI S))] := hl
  have hiX4 : ∀ w ∈ wsX40, w ∈ wsX4_writeLetters := by decide +kernel
  refine lv_iconst (v := (nI 0)) hx hb dX4_writeLetters_0 (by decide) ?_
  refine lv_istore (lv' := [(4, .int (nI 0)), (0, .ref s0), (1, .long (lN N)), (3, .int (nI S))]) hx hb dX4_writeLetters_1 hl (by decide) rfl (fun ls hl => ?_)
  have L1 : ∀ (fu : Nat) (i : Nat) (F : Nat → Int32), (12 ≤ i + fu) → (i ≤ 11) → (∀ j, j < i → F j = ltE N S j) → ∀ (H : Heap) (locs : List Loc), va_P g.1 vwCl [(s0, .inr (5, [.ref ks, .int (nI kn), .int (nI mn), .ref lt, .ref ty, .int (nI tn), .int cc, .int sp, .ref lg, .ref dg])), (lt, .inl (g.2.1 0, 16, .inl F))] H → va_D A [(s0, .inr (5, [.ref ks, .int (nI kn), .int (nI mn), .ref lt, .ref ty, .int (nI tn), .int cc, .int sp, .ref lg, .ref dg])), (lt, .inl (g.2.1 0, 16, .inl F))] → va_S A s.heap H locs → ∀ ls : Array Slot, lv_has ls 5 [(0, .ref s0), (1, .long (lN N)), (3, .int (nI S)), (4, .int (nI i))] → W p l e (headSpec wsX4_writeLetters ({ frames := 5, cells := 0, slots := 0, locals := 105 } : Room)).room s m ([.ref s0, .long (lN N), .int (nI S)] : List Value).toArray below meth c H locs 0 0 (MQ below (va_Qv (fun (u : (Nat → Int32)) => ∀ j, j < 16 → u j = ltE N S j) (wB g A (fun u : (Nat → Int32) => [(s0, .inr (5, [.ref ks, .int (nI kn), .int (nI mn), .ref lt, .ref ty, .int (nI tn), .int cc, .int sp, .ref lg, .ref dg])), (lt, .inl (g.2.1 0, 16, .inl u))])) A) ([.ref s0, .long (lN N), .int (nI S)] : List Value).toArray s 0 0 A) (F0 m 3 ls []) := by
    intro fu
    induction fu with
    | zero => intro i F h1 h2 h3 H locs hP hD hS ls hl; exact absurd h1 (by omega)
    | succ fu ihL1 =>
      intro i F h1 h2 h3 H locs hP hD hS ls hl
      refine lv_iload hx hb dX4_writeLetters_3 (lv_at hl 3 rfl) ?_
      refine lv_bipush (v := (nI 11)) hx hb dX4_writeLetters_5 (by decide) ?_
      rcases Nat.lt_or_ge i 11 with q | q
      · refine lv_icmp_ge (tgt := 36) hx hb dX4_writeLetters_7 (by decide) (fun c9 => absurd c9 (nI_ge (by omega) (by omega))) (fun _ => ?_)
        refine lv_aload_n hx hb dX4_writeLetters_10 rfl (lv_at hl 0 rfl) ?_
        refine va_get (D := g.1) (ci := 5) (v := .ref lt) (C := RX4) (T := TX4) (N := 10) hx hb hts hiX4 hown hK.1 hP 0 rfl rfl 3 (by decide) (hts (.fieldLink RX4 15 "StampMaker" "latestLetters" "[I") (by decide +kernel)) (fun _ h9 => h9) rfl dX4_writeLetters_11 ?_
        refine lv_iload hx hb dX4_writeLetters_14 (lv_at hl 3 rfl) ?_
        refine lv_lload_n hx hb dX4_writeLetters_16 rfl (lv_at hl 1 rfl) ?_
        refine lv_bipush (v := (nI 50)) hx hb dX4_writeLetters_17 (by decide) ?_
        refine lv_iconst (v := (nI 5)) hx hb dX4_writeLetters_19 (by decide) ?_
        refine lv_iload hx hb dX4_writeLetters_20 (lv_at hl 3 rfl) ?_
        refine lv_imul hx hb dX4_writeLetters_22 ?_
        refine lv_rei (x' := (nI (5 * i))) (pk_mul _ _) ?_
        refine lv_isub hx hb dX4_writeLetters_23 ?_
        refine lv_rei (x' := (nI (50 - 5 * i))) (pk_sub (by omega)) ?_
        refine lv_lushr hx hb dX4_writeLetters_24 rfl ?_
        refine lv_rel (x' := (lN (N / 2 ^ (50 - 5 * i)))) (l_ushr (by omega) (by omega)) ?_
        refine lv_l2i hx hb dX4_writeLetters_25 rfl ?_
        refine lv_rei (x' := (nI (N / 2 ^ (50 - 5 * i)))) (l_i) ?_
        refine cSi (rest := [.int (nI i), .ref lt]) ⟨hx, hb, hml, hown, hts⟩ [.int (nI (N / 2 ^ (50 - 5 * i)))] (c_X4_letterFor l g (x := (nI (N / 2 ^ (50 - 5 * i))))) (va_cwS 1 hts gX4_writeLetters_X4_letterFor rfl rfl rfl (by decide +kernel) ⟨Nat.le_of_ble_eq_true rfl, Nat.le_of_ble_eq_true rfl⟩) hK hZ hS (subP hP [] rfl) rfl hl.1 rfl (Nat.le_of_ble_eq_true rfl) dX4_writeLetters_26 ⟨Nat.zero_le _, Nat.zero_le _⟩ (fun r_85 hr_85 => ?_)
        obtain rfl : r_85 = (aL ((nI (N / 2 ^ (50 - 5 * i))).toBitVec.toNat % 32)) := hr_85
        refine lv_rei (x' := (ltE N S i)) (ltE_1 q) ?_
        refine va_iast hx hb hK.1 hP hD hS 1 0 rfl rfl (vp_in_nI (by omega) (by omega)) dX4_writeLetters_29 (fun H locs hP hD hS => ?_)
        rw [nI_clamp (by omega)] at hP hD
        have hP : va_P g.1 vwCl [(s0, .inr (5, [.ref ks, .int (nI kn), .int (nI mn), .ref lt, .ref ty, .int (nI tn), .int cc, .int sp, .ref lg, .ref dg])), (lt, .inl (g.2.1 0, 16, .inl (upd F i (ltE N S i))))] H := hP
        have hD : va_D A [(s0, .inr (5, [.ref ks, .int (nI kn), .int (nI mn), .ref lt, .ref ty, .int (nI tn), .int cc, .int sp, .ref lg, .ref dg])), (lt, .inl (g.2.1 0, 16, .inl (upd F i (ltE N S i))))] := hD
        refine lv_iinc (v := (nI (i + 1))) (lv' := [(4, .int (nI (i + 1))), (0, .ref s0), (1, .long (lN N)), (3, .int (nI S))]) hx hb dX4_writeLetters_30 hl (k := 3) rfl (nI_1 _) (by decide) rfl (fun ls hl => ?_)
        refine lv_goto (tgt := 3) hx hb dX4_writeLetters_33 (by decide) ?_
        exact ihL1 (i + 1) (upd F i (ltE N S i)) (by omega) (by omega) (fillS h3 rfl) _ _ hP hD hS ls (lv_sub hl [1, 2, 3, 0] rfl)
      · refine lv_icmp_ge (tgt := 36) hx hb dX4_writeLetters_7 (by decide) (fun _ => ?_) (fun c9 => absurd (nI_le q (by omega)) c9)
        obtain rfl : i = 11 := by omega
        refine lv_bipush (v := (nI 11)) hx hb dX4_writeLetters_36 (by decide) ?_
        refine lv_istore (lv' := [(4, .int (nI 11)), (0, .ref s0), (1, .long (lN N)), (3, .int (nI S))]) hx hb dX4_writeLetters_38 hl (by decide) rfl (fun ls hl => ?_)
        have L2 : ∀ (fu : Nat) (i : Nat) (F2 : Nat → Int32), (17 ≤ i + fu) → (i ≤ 16) → (∀ j, j < i → F2 j = ltE N S j) → (11 ≤ i) → ∀ (H : Heap) (locs : List Loc), va_P g.1 vwCl [(s0, .inr (5, [.ref ks, .int (nI kn), .int (nI mn), .ref lt, .ref ty, .int (nI tn), .int cc, .int sp, .ref lg, .ref dg])), (lt, .inl (g.2.1 0, 16, .inl F2))] H → va_D A [(s0, .inr (5, [.ref ks, .int (nI kn), .int (nI mn), .ref lt, .ref ty, .int (nI tn), .int cc, .int sp, .ref lg, .ref dg])), (lt, .inl (g.2.1 0, 16, .inl F2))] → va_S A s.heap H locs → ∀ ls : Array Slot, lv_has ls 5 [(0, .ref s0), (1, .long (lN N)), (3, .int (nI S)), (4, .int (nI i))] → W p l e (headSpec wsX4_writeLetters ({ frames := 5, cells := 0, slots := 0, locals := 105 } : Room)).room s m ([.ref s0, .long (lN N), .int (nI S)] : List Value).toArray below meth c H locs 0 0 (MQ below (va_Qv (fun (u : (Nat → Int32)) => ∀ j, j < 16 → u j = ltE N S j) (wB g A (fun u : (Nat → Int32) => [(s0, .inr (5, [.ref ks, .int (nI kn), .int (nI mn), .ref lt, .ref ty, .int (nI tn), .int cc, .int sp, .ref lg, .ref dg])), (lt, .inl (g.2.1 0, 16, .inl u))])) A) ([.ref s0, .long (lN N), .int (nI S)] : List Value).toArray s 0 0 A) (F0 m 40 ls []) := by
          intro fu
          induction fu with
          | zero => intro i F2 k1 k2 k3 k4 H locs hP hD hS ls hl; exact absurd k1 (by omega)
          | succ fu ihL2 =>
            intro i F2 k1 k2 k3 k4 H locs hP hD hS ls hl
            refine lv_iload hx hb dX4_writeLetters_40 (lv_at hl 3 rfl) ?_
            refine lv_bipush (v := (nI 16)) hx hb dX4_writeLetters_42 (by decide) ?_
            rcases Nat.lt_or_ge i 16 with q2 | q2
            · refine lv_icmp_ge (tgt := 72) hx hb dX4_writeLetters_44 (by decide) (fun c9 => absurd c9 (nI_ge (by omega) (by omega))) (fun _ => ?_)
              refine lv_aload_n hx hb dX4_writeLetters_47 rfl (lv_at hl 0 rfl) ?_
              refine va_get (D := g.1) (ci := 5) (v := .ref lt) (C := RX4) (T := TX4) (N := 10) hx hb hts hiX4 hown hK.1 hP 0 rfl rfl 3 (by decide) (hts (.fieldLink RX4 15 "StampMaker" "latestLetters" "[I") (by decide +kernel)) (fun _ h9 => h9) rfl dX4_writeLetters_48 ?_
              refine lv_iload hx hb dX4_writeLetters_51 (lv_at hl 3 rfl) ?_
              refine lv_iload_n hx hb dX4_writeLetters_53 rfl (lv_at hl 2 rfl) ?_
              refine lv_bipush (v := (nI 75)) hx hb dX4_writeLetters_54 (by decide) ?_
              refine lv_iconst (v := (nI 5)) hx hb dX4_writeLetters_56 (by decide) ?_
              refine lv_iload hx hb dX4_writeLetters_57 (lv_at hl 3 rfl) ?_
              refine lv_imul hx hb dX4_writeLetters_59 ?_
              refine lv_rei (x' := (nI (5 * i))) (pk_mul _ _) ?_
              refine lv_isub hx hb dX4_writeLetters_60 ?_
              refine lv_rei (x' := (nI (75 - 5 * i))) (pk_sub (by omega)) ?_
              refine lv_iushr hx hb dX4_writeLetters_61 rfl ?_
              refine lv_rei (x' := (nI (S / 2 ^ (75 - 5 * i)))) (pk_ushrN (by omega) _ (75 - 5 * i) (s_uu _ (by omega))) ?_
              refine cSi (rest := [.int (nI i), .ref lt]) ⟨hx, hb, hml, hown, hts⟩ [.int (nI (S / 2 ^ (75 - 5 * i)))] (c_X4_letterFor l g (x := (nI (S / 2 ^ (75 - 5 * i))))) (va_cwS 1 hts gX4_writeLetters_X4_letterFor rfl rfl rfl (by decide +kernel) ⟨Nat.le_of_ble_eq_true rfl, Nat.le_of_ble_eq_true rfl⟩) hK hZ hS (subP hP [] rfl) rfl hl.1 rfl (Nat.le_of_ble_eq_true rfl) dX4_writeLetters_62 ⟨Nat.zero_le _, Nat.zero_le _⟩ (fun r_86 hr_86 => ?_)
              obtain rfl : r_86 = (aL ((nI (S / 2 ^ (75 - 5 * i))).toBitVec.toNat % 32)) := hr_86
              refine lv_rei (x' := (ltE N S i)) (ltE_2 k4) ?_
              refine va_iast hx hb hK.1 hP hD hS 1 0 rfl rfl (vp_in_nI (by omega) (by omega)) dX4_writeLetters_65 (fun H locs hP hD hS => ?_)
              rw [nI_clamp (by omega)] at hP hD
              have hP : va_P g.1 vwCl [(s0, .inr (5, [.ref ks, .int (nI kn), .int (nI mn), .ref lt, .ref ty, .int (nI tn), .int cc, .int sp, .ref lg, .ref dg])), (lt, .inl (g.2.1 0, 16, .inl (upd F2 i (ltE N S i))))] H := hP
              have hD : va_D A [(s0, .inr (5, [.ref ks, .int (nI kn), .int (nI mn), .ref lt, .ref ty, .int (nI tn), .int cc, .int sp, .ref lg, .ref dg])), (lt, .inl (g.2.1 0, 16, .inl (upd F2 i (ltE N S i))))] := hD
              refine lv_iinc (v := (nI (i + 1))) (lv' := [(4, .int (nI (i + 1))), (0, .ref s0), (1, .long (lN N)), (3, .int (nI S))]) hx hb dX4_writeLetters_66 hl (k := 3) rfl (nI_1 _) (by decide) rfl (fun ls hl => ?_)
              refine lv_goto (tgt := 40) hx hb dX4_writeLetters_69 (by decide) ?_
              exact ihL2 (i + 1) (upd F2 i (ltE N S i)) (by omega) (by omega) (fillS k3 rfl) (by omega) _ _ hP hD hS ls (lv_sub hl [1, 2, 3, 0] rfl)
            · refine lv_icmp_ge (tgt := 72) hx hb dX4_writeLetters_44 (by decide) (fun _ => ?_) (fun c9 => absurd (nI_le q2 (by omega)) c9)
              exact endWv F2 hx hb hr hlocks hS dX4_writeLetters_72 hP hD (fun j hj => k3 j (by omega))
        exact L2 17 11 F (by omega) (by omega) (h3) (Nat.le_refl _) _ _ hP hD hS ls (lv_sub hl [1, 2, 3, 0] rfl)
  exact L1 12 0 fl (by omega) (by omega) (fun j hj => absurd hj (Nat.not_lt_zero j)) _ _ hP hD hS ls (lv_sub hl [1, 2, 3, 0] rfl)

set_option maxHeartbeats 4000000 in
set_option maxRecDepth 100000 in
/-- which letter was typed at i -/
theorem c_X4_typedWorth (l : Launch) (g : gE) (s0 ks lt ty lg dg kn mn tn : Nat) (cc sp : Int32) (ft : Nat → Int32) (i : Nat) (hi : i < 40) : Met l yX4_typedWorth wsX4_typedWorth ({ frames := 5, cells := 0, slots := 0, locals := 106 }) (va_Pc [.ref s0, .int (nI i)] (ro g [(s0, .inr (5, [.ref ks, .int (nI kn), .int (nI mn), .ref lt, .ref ty, .int (nI tn), .int cc, .int sp, .ref lg, .ref dg])), (ty, .inl (g.2.1 0, 40, .inl ft))])) (vp_Si (fun r : Int32 => r = rW (ft i))) 0 0 nA := by
  refine ofRo (cc := cX4_typedWorth) (maxL := 2) (ret := (some .int)) (by decide) rfl (Nat.le_of_ble_eq_true rfl) (fun p e s m below meth c hx hb hr hml hts hown hlocks hnm hP hK hZ hS ls hl => ?_)
  have hown : s.vm.findClass RX4 = some m.cls := hown
  have hl : lv_has ls 2 [(0, .ref s0), (1, .int (nI i))] := hl
  have hiX4 : ∀ w ∈ wsX40, w ∈ wsX4_typedWorth := by decide +kernel
  refine lv_iload_n hx hb dX4_typedWorth_0 rfl (lv_at hl 1 rfl) ?_
  refine lv_if_lt (tgt := 22) hx hb dX4_typedWorth_1 (by decide) (fun c9 => absurd c9 (nI_pos (by omega))) (fun _ => ?_)
  refine lv_iload_n hx hb dX4_typedWorth_4 rfl (lv_at hl 1 rfl) ?_
  refine lv_bipush (v := (nI 40)) hx hb dX4_typedWorth_5 (by decide) ?_
  refine lv_icmp_ge (tgt := 22) hx hb dX4_typedWorth_7 (by decide) (fun c9 => absurd c9 (nI_ge (by omega) (by omega))) (fun _ => ?_)
  refine lv_aload_n hx hb dX4_typedWorth_10 rfl (lv_at hl 0 rfl) ?_
  refine va_get (D := g.1) (ci := 5) (v := .ref ty) (C := RX4) (T := TX4) (N := 10) hx hb hts hiX4 hown hK.1 hP 0 rfl rfl 4 (by decide) (hts (.fieldLink RX4 19 "StampMaker" "typed" "[I") (by decide +kernel)) (fun _ h9 => h9) rfl dX4_typedWorth_11 ?_
  refine lv_iload_n hx hb dX4_typedWorth_14 rfl (lv_at hl 1 rfl) ?_
  refine va_iald hx hb hK.1 hP 1 0 rfl rfl (vp_in_nI (by omega) (by omega)) dX4_typedWorth_15 ?_
  refine lv_rei (x' := ft i) (congrArg ft (nI_clamp (by omega))) ?_
  refine cSi (rest := []) ⟨hx, hb, hml, hown, hts⟩ [.int (ft i)] (c_X4_worthOf l g (x := (ft i))) (va_cwS 1 hts gX4_typedWorth_X4_worthOf rfl rfl rfl (by decide +kernel) ⟨Nat.le_of_ble_eq_true rfl, Nat.le_of_ble_eq_true rfl⟩) hK hZ hS (subP hP [] rfl) rfl hl.1 rfl (Nat.le_of_ble_eq_true rfl) dX4_typedWorth_16 ⟨Nat.zero_le _, Nat.zero_le _⟩ (fun r_87 hr_87 => ?_)
  obtain rfl : r_87 = (rW (ft i)) := hr_87
  refine lv_goto (tgt := 23) hx hb dX4_typedWorth_19 (by decide) ?_
  exact endRi hx hb hr hlocks dX4_typedWorth_23 (rfl)

set_option maxHeartbeats 4000000 in
set_option maxRecDepth 100000 in
/-- the bits of what was typed -/
theorem c_X4_tb_yes (l : Launch) (g : gE) (s0 ks lt ty lg dg kn mn tn : Nat) (cc sp : Int32) (ft : Nat → Int32) (a0 b0 : Nat) (hab : a0 ≤ b0) (hb2 : b0 ≤ 16) (hn : b0 - a0 ≤ 11) (hok : ∀ j, a0 ≤ j → j < b0 → wo (ft j) < 32) : Met l yX4_typedBits wsX4_typedBits ({ frames := 6, cells := 0, slots := 0, locals := 127 }) (va_Pc [.ref s0, .int (nI a0), .int (nI b0)] (ro g [(s0, .inr (5, [.ref ks, .int (nI kn), .int (nI mn), .ref lt, .ref ty, .int (nI tn), .int cc, .int sp, .ref lg, .ref dg])), (ty, .inl (g.2.1 0, 40, .inl ft))])) (vp_Sl (fun r : Int64 => r = lN (tbF ft a0 (b0 - a0)))) 0 0 nA := by
  refine ofRo (cc := cX4_typedBits) (maxL := 7) (ret := (some .long)) (by decide) rfl (Nat.le_of_ble_eq_true rfl) (fun p e s m below meth c hx hb hr hml hts hown hlocks hnm hP hK hZ hS ls hl => ?_)
  have hown : s.vm.findClass RX4 = some m.cls := hown
  have hl : lv_has ls 7 [(0, .ref s0), (1, .int (nI a0)), (2, .int (nI b0))] := hl
  refine lv_lconst (v := lN 0) hx hb dX4_typedBits_0 (by decide) ?_
  refine lv_lstore_n (lv' := [(3, .long (lN 0)), (0, .ref s0), (1, .int (nI a0)), (2, .int (nI b0))]) hx hb dX4_typedBits_1 rfl hl (by decide) rfl (fun ls hl => ?_)
  refine lv_iload_n hx hb dX4_typedBits_2 rfl (lv_at hl 2 rfl) ?_
  refine lv_rei (x' := (nI (a0 + 0))) (rfl) ?_
  refine lv_istore (lv' := [(5, .int (nI (a0 + 0))), (3, .long (lN 0)), (0, .ref s0), (1, .int (nI a0)), (2, .int (nI b0))]) hx hb dX4_typedBits_3 hl (by decide) rfl (fun ls hl => ?_)
  have L1 : ∀ (fu : Nat) (j : Nat), (b0 + 1 ≤ a0 + j + fu) → (a0 + j ≤ b0) → ∀ ls : Array Slot, lv_has ls 7 [(0, .ref s0), (1, .int (nI a0)), (2, .int (nI b0)), (3, .long (lN (tbF ft a0 j))), (5, .int (nI (a0 + j)))] → W p l e (headSpec wsX4_typedBits ({ frames := 6, cells := 0, slots := 0, locals := 127 } : Room)).room s m ([.ref s0, .int (nI a0), .int (nI b0)] : List Value).toArray below meth c s.heap [] 0 0 (MQ below (vp_Sl (fun r : Int64 => r = lN (tbF ft a0 (b0 - a0)))) ([.ref s0, .int (nI a0), .int (nI b0)] : List Value).toArray s 0 0 nA) (F0 m 5 ls []) := by
    intro fu
    induction fu with
    | zero => intro j h1 h2 ls hl; exact absurd h1 (by omega)
    | succ fu ihL1 =>
      intro j h1 h2 ls hl
      refine lv_iload hx hb dX4_typedBits_5 (lv_at hl 4 rfl) ?_
      refine lv_iload_n hx hb dX4_typedBits_7 rfl (lv_at hl 2 rfl) ?_
      rcases Nat.lt_or_ge (a0 + j) b0 with q | q
      · refine lv_icmp_ge (tgt := 42) hx hb dX4_typedBits_8 (by decide) (fun c9 => absurd c9 (nI_ge q (by omega))) (fun _ => ?_)
        refine lv_aload_n hx hb dX4_typedBits_11 rfl (lv_at hl 0 rfl) ?_
        refine lv_iload hx hb dX4_typedBits_12 (lv_at hl 4 rfl) ?_
        refine cVi (rest := []) ⟨hx, hb, hml, hown, hts⟩ [.int (nI (a0 + j))] (c_X4_typedWorth l g (s0 := s0) (ks := ks) (lt := lt) (ty := ty) (lg := lg) (dg := dg) (kn := kn) (mn := mn) (tn := tn) (cc := cc) (sp := sp) (ft := ft) (i := (a0 + j)) (by omega)) (cwV 1 hts gX4_typedBits_X4_typedWorth rfl rfl rfl (by decide +kernel) ⟨Nat.le_of_ble_eq_true rfl, Nat.le_of_ble_eq_true rfl⟩) hK hZ hS (subP hP [0, 1] rfl) (va_recv hK.1 hP (ci := 5) (q0 := 0) rfl rfl) rfl hl.1 rfl (Nat.le_of_ble_eq_true rfl) dX4_typedBits_14 ⟨Nat.zero_le _, Nat.zero_le _⟩ (fun r_88 hr_88 => ?_)
        obtain rfl : r_88 = (rW (ft (a0 + j))) := hr_88
        have hw := hok (a0 + j) (by omega) q
        have hT := tbF_11 (ft := ft) (a := a0) (n := j) (by omega) (fun i h1 h2 => hok i h1 (by omega))
        refine lv_rei (x' := (nI (wo (ft (a0 + j))))) (rW_y hw) ?_
        refine lv_istore (lv' := [(6, .int (nI (wo (ft (a0 + j))))), (0, .ref s0), (1, .int (nI a0)), (2, .int (nI b0)), (3, .long (lN (tbF ft a0 j))), (5, .int (nI (a0 + j)))]) hx hb dX4_typedBits_17 hl (by decide) rfl (fun ls hl => ?_)
        refine lv_iload hx hb dX4_typedBits_19 (lv_at hl 0 rfl) ?_
        refine lv_if_ge (tgt := 28) hx hb dX4_typedBits_21 (by decide) (fun _ => ?_) (fun c9 => absurd (nI_pos' (by omega)) c9)
        refine lv_lload_n hx hb dX4_typedBits_28 rfl (lv_at hl 4 rfl) ?_
        refine lv_iconst (v := (nI 5)) hx hb dX4_typedBits_29 (by decide) ?_
        refine lv_lshl hx hb dX4_typedBits_30 rfl ?_
        refine lv_rel (x' := (lN (tbF ft a0 j * 2 ^ 5))) (l_shl (by decide) (by omega)) ?_
        refine lv_iload hx hb dX4_typedBits_31 (lv_at hl 0 rfl) ?_
        refine lv_i2l hx hb dX4_typedBits_33 rfl ?_
        refine lv_rel (x' := (lN (wo (ft (a0 + j))))) (nI_L (by omega)) ?_
        refine lv_lor hx hb dX4_typedBits_34 ?_
        refine lv_rel (x' := (lN (tbF ft a0 (j + 1)))) (tb_step (by omega) hw) ?_
        refine lv_lstore_n (lv' := [(3, .long (lN (tbF ft a0 (j + 1)))), (6, .int (nI (wo (ft (a0 + j))))), (0, .ref s0), (1, .int (nI a0)), (2, .int (nI b0)), (5, .int (nI (a0 + j)))]) hx hb dX4_typedBits_35 rfl hl (by decide) rfl (fun ls hl => ?_)
        refine lv_iinc (v := (nI (a0 + (j + 1)))) (lv' := [(5, .int (nI (a0 + (j + 1)))), (3, .long (lN (tbF ft a0 (j + 1)))), (6, .int (nI (wo (ft (a0 + j))))), (0, .ref s0), (1, .int (nI a0)), (2, .int (nI b0))]) hx hb dX4_typedBits_36 hl (k := 5) rfl (nI_1 _) (by decide) rfl (fun ls hl => ?_)
        refine lv_goto (tgt := 5) hx hb dX4_typedBits_39 (by decide) ?_
        exact ihL1 (j + 1) (by omega) (by omega) ls (lv_sub hl [3, 4, 5, 1, 0] rfl)
      · refine lv_icmp_ge (tgt := 42) hx hb dX4_typedBits_8 (by decide) (fun _ => ?_) (fun c9 => absurd (nI_le q (by omega)) c9)
        refine lv_lload_n hx hb dX4_typedBits_42 rfl (lv_at hl 3 rfl) ?_
        exact endRl hx hb hr hlocks dX4_typedBits_43 (by rw [show b0 - a0 = j by omega])
  exact L1 (b0 + 1) 0 (by omega) (by omega) ls (lv_sub hl [2, 3, 4, 1, 0] rfl)

set_option maxHeartbeats 4000000 in
set_option maxRecDepth 100000 in
/-- one is no letter -/
theorem c_X4_tb_no (l : Launch) (g : gE) (s0 ks lt ty lg dg kn mn tn : Nat) (cc sp : Int32) (ft : Nat → Int32) (a0 b0 : Nat) (hb2 : b0 ≤ 16) (bad : Nat) (hb3 : a0 ≤ bad) (hb4 : bad < b0) (hb5 : ¬ wo (ft bad) < 32) : Met l yX4_typedBits wsX4_typedBits ({ frames := 6, cells := 0, slots := 0, locals := 127 }) (va_Pc [.ref s0, .int (nI a0), .int (nI b0)] (ro g [(s0, .inr (5, [.ref ks, .int (nI kn), .int (nI mn), .ref lt, .ref ty, .int (nI tn), .int cc, .int sp, .ref lg, .ref dg])), (ty, .inl (g.2.1 0, 40, .inl ft))])) (vp_Sl (fun r : Int64 => r = -1)) 0 0 nA := by
  refine ofRo (cc := cX4_typedBits) (maxL := 7) (ret := (some .long)) (by decide) rfl (Nat.le_of_ble_eq_true rfl) (fun p e s m below meth c hx hb hr hml hts hown hlocks hnm hP hK hZ hS ls hl => ?_)
  have hown : s.vm.findClass RX4 = some m.cls := hown
  have hl : lv_has ls 7 [(0, .ref s0), (1, .int (nI a0)), (2, .int (nI b0))] := hl
  refine lv_lconst (v := lN 0) hx hb dX4_typedBits_0 (by decide) ?_
  refine lv_lstore_n (lv' := [(3, .long (lN 0)), (0, .ref s0), (1, .int (nI a0)), (2, .int (nI b0))]) hx hb dX4_typedBits_1 rfl hl (by decide) rfl (fun ls hl => ?_)
  refine lv_iload_n hx hb dX4_typedBits_2 rfl (lv_at hl 2 rfl) ?_
  refine lv_rei (x' := (nI (a0 + 0))) (rfl) ?_
  refine lv_istore (lv' := [(5, .int (nI (a0 + 0))), (3, .long (lN 0)), (0, .ref s0), (1, .int (nI a0)), (2, .int (nI b0))]) hx hb dX4_typedBits_3 hl (by decide) rfl (fun ls hl => ?_)
  have L1 : ∀ (fu : Nat) (j : Nat) (xb : Int64), (b0 + 1 ≤ a0 + j + fu) → (a0 + j ≤ bad) → ∀ ls : Array Slot, lv_has ls 7 [(0, .ref s0), (1, .int (nI a0)), (2, .int (nI b0)), (3, .long xb), (5, .int (nI (a0 + j)))] → W p l e (headSpec wsX4_typedBits ({ frames := 6, cells := 0, slots := 0, locals := 127 } : Room)).room s m ([.ref s0, .int (nI a0), .int (nI b0)] : List Value).toArray below meth c s.heap [] 0 0 (MQ below (vp_Sl (fun r : Int64 => r = -1)) ([.ref s0, .int (nI a0), .int (nI b0)] : List Value).toArray s 0 0 nA) (F0 m 5 ls []) := by
    intro fu
    induction fu with
    | zero => intro j xb h1 h2 ls hl; exact absurd h1 (by omega)
    | succ fu ihL1 =>
      intro j xb h1 h2 ls hl
      refine lv_iload hx hb dX4_typedBits_5 (lv_at hl 4 rfl) ?_
      refine lv_iload_n hx hb dX4_typedBits_7 rfl (lv_at hl 2 rfl) ?_
      refine lv_icmp_ge (tgt := 42) hx hb dX4_typedBits_8 (by decide) (fun c9 => absurd c9 (nI_ge (by omega) (by omega))) (fun _ => ?_)
      refine lv_aload_n hx hb dX4_typedBits_11 rfl (lv_at hl 0 rfl) ?_
      refine lv_iload hx hb dX4_typedBits_12 (lv_at hl 4 rfl) ?_
      refine cVi (rest := []) ⟨hx, hb, hml, hown, hts⟩ [.int (nI (a0 + j))] (c_X4_typedWorth l g (s0 := s0) (ks := ks) (lt := lt) (ty := ty) (lg := lg) (dg := dg) (kn := kn) (mn := mn) (tn := tn) (cc := cc) (sp := sp) (ft := ft) (i := (a0 + j)) (by omega)) (cwV 1 hts gX4_typedBits_X4_typedWorth rfl rfl rfl (by decide +kernel) ⟨Nat.le_of_ble_eq_true rfl, Nat.le_of_ble_eq_true rfl⟩) hK hZ hS (subP hP [0, 1] rfl) (va_recv hK.1 hP (ci := 5) (q0 := 0) rfl rfl) rfl hl.1 rfl (Nat.le_of_ble_eq_true rfl) dX4_typedBits_14 ⟨Nat.zero_le _, Nat.zero_le _⟩ (fun r_89 hr_89 => ?_)
      obtain rfl : r_89 = (rW (ft (a0 + j))) := hr_89
      by_cases hw : wo (ft (a0 + j)) < 32
      · refine lv_rei (x' := (nI (wo (ft (a0 + j))))) (rW_y hw) ?_
        refine lv_istore (lv' := [(6, .int (nI (wo (ft (a0 + j))))), (0, .ref s0), (1, .int (nI a0)), (2, .int (nI b0)), (3, .long xb), (5, .int (nI (a0 + j)))]) hx hb dX4_typedBits_17 hl (by decide) rfl (fun ls hl => ?_)
        refine lv_iload hx hb dX4_typedBits_19 (lv_at hl 0 rfl) ?_
        refine lv_if_ge (tgt := 28) hx hb dX4_typedBits_21 (by decide) (fun _ => ?_) (fun c9 => absurd (nI_pos' (by omega)) c9)
        refine lv_lload_n hx hb dX4_typedBits_28 rfl (lv_at hl 4 rfl) ?_
        refine lv_iconst (v := (nI 5)) hx hb dX4_typedBits_29 (by decide) ?_
        refine lv_lshl hx hb dX4_typedBits_30 rfl ?_
        refine lv_iload hx hb dX4_typedBits_31 (lv_at hl 0 rfl) ?_
        refine lv_i2l hx hb dX4_typedBits_33 rfl ?_
        refine lv_lor hx hb dX4_typedBits_34 ?_
        refine lv_lstore_n (lv' := [(3, .long ((xb <<< (((nI 5)).toInt64 &&& 63)) ||| (((nI (wo (ft (a0 + j))))).toInt64))), (6, .int (nI (wo (ft (a0 + j))))), (0, .ref s0), (1, .int (nI a0)), (2, .int (nI b0)), (5, .int (nI (a0 + j)))]) hx hb dX4_typedBits_35 rfl hl (by decide) rfl (fun ls hl => ?_)
        refine lv_iinc (v := (nI (a0 + (j + 1)))) (lv' := [(5, .int (nI (a0 + (j + 1)))), (3, .long ((xb <<< (((nI 5)).toInt64 &&& 63)) ||| (((nI (wo (ft (a0 + j))))).toInt64))), (6, .int (nI (wo (ft (a0 + j))))), (0, .ref s0), (1, .int (nI a0)), (2, .int (nI b0))]) hx hb dX4_typedBits_36 hl (k := 5) rfl (nI_1 _) (by decide) rfl (fun ls hl => ?_)
        refine lv_goto (tgt := 5) hx hb dX4_typedBits_39 (by decide) ?_
        have hne : a0 + j ≠ bad := fun z => hb5 (by rw [← z]; exact hw)
        exact ihL1 (j + 1) ((xb <<< (((nI 5)).toInt64 &&& 63)) ||| (((nI (wo (ft (a0 + j))))).toInt64)) (by omega) (by omega) ls (lv_sub hl [3, 4, 5, 1, 0] rfl)
      · refine lv_rei (x' := (-1)) (rW_n hw) ?_
        refine lv_istore (lv' := [(6, .int (-1)), (0, .ref s0), (1, .int (nI a0)), (2, .int (nI b0)), (3, .long xb), (5, .int (nI (a0 + j)))]) hx hb dX4_typedBits_17 hl (by decide) rfl (fun ls hl => ?_)
        refine lv_iload hx hb dX4_typedBits_19 (lv_at hl 0 rfl) ?_
        refine lv_if_ge (tgt := 28) hx hb dX4_typedBits_21 (by decide) (fun c9 => absurd c9 (by decide)) (fun _ => ?_)
        refine lv_ldc2 (v := (-1)) hx hb hown (hts (.constantLong RX4 159 (-1)) (by decide +kernel)) dX4_typedBits_24 ?_
        exact endRl hx hb hr hlocks dX4_typedBits_27 (rfl)
  exact L1 (b0 + 1) 0 (lN 0) (by omega) (by omega) ls (lv_sub hl [2, 3, 4, 1, 0] rfl)

set_option maxHeartbeats 4000000 in
set_option maxRecDepth 100000 in
/-- spends, if nothing became of it -/
theorem c_X4_spendOrRefuse (l : Launch) (g : gE) (hsz : Nat) (s0 ks lt ty lg dg kn mn tn : Nat) (cc sp : Int32) (fa da ch : Nat) (ff fd fc : Nat → Int32) (j : Nat) (xd : Int32) (hj : j < 16384) : Met l yX4_spendOrRefuse wsX4_spendOrRefuse ({ frames := 2, cells := 0, slots := 0, locals := 44 }) (va_Pc [.ref s0, .int (nI j), .int xd] (wr g [(s0, .inr (5, [.ref ks, .int (nI kn), .int (nI mn), .ref lt, .ref ty, .int (nI tn), .int cc, .int sp, .ref lg, .ref dg])), (lg, .inr (4, [.ref fa, .ref da, .ref ch])), (fa, .inl (g.2.1 1, 16384, .inl ff)), (da, .inl (g.2.1 0, 16384, .inl fd)), (ch, .inl (g.2.1 0, 16384, .inl fc))] hsz)) (va_Qi (fun (r : Int32) (u : (Int32 × (Nat → Int32) × (Nat → Int32) × (Nat → Int32))) => r = acR (ff j) ∧ u.1 = acS (ff j) sp j ∧ u.2.1 = acF (ff j) ff j (nI 1) ∧ u.2.2.1 = acF (ff j) fd j xd ∧ u.2.2.2 = acF (ff j) fc j cc) (wB g (va_A [(s0, .inr (5, [.ref ks, .int (nI kn), .int (nI mn), .ref lt, .ref ty, .int (nI tn), .int cc, .int sp, .ref lg, .ref dg])), (lg, .inr (4, [.ref fa, .ref da, .ref ch])), (fa, .inl (g.2.1 1, 16384, .inl ff)), (da, .inl (g.2.1 0, 16384, .inl fd)), (ch, .inl (g.2.1 0, 16384, .inl fc))] hsz) (fun u : (Int32 × (Nat → Int32) × (Nat → Int32) × (Nat → Int32)) => [(s0, .inr (5, [.ref ks, .int (nI kn), .int (nI mn), .ref lt, .ref ty, .int (nI tn), .int cc, .int u.1, .ref lg, .ref dg])), (lg, .inr (4, [.ref fa, .ref da, .ref ch])), (fa, .inl (g.2.1 1, 16384, .inl u.2.1)), (da, .inl (g.2.1 0, 16384, .inl u.2.2.1)), (ch, .inl (g.2.1 0, 16384, .inl u.2.2.2))])) (va_A [(s0, .inr (5, [.ref ks, .int (nI kn), .int (nI mn), .ref lt, .ref ty, .int (nI tn), .int cc, .int sp, .ref lg, .ref dg])), (lg, .inr (4, [.ref fa, .ref da, .ref ch])), (fa, .inl (g.2.1 1, 16384, .inl ff)), (da, .inl (g.2.1 0, 16384, .inl fd)), (ch, .inl (g.2.1 0, 16384, .inl fc))] hsz)) 0 0 (va_A [(s0, .inr (5, [.ref ks, .int (nI kn), .int (nI mn), .ref lt, .ref ty, .int (nI tn), .int cc, .int sp, .ref lg, .ref dg])), (lg, .inr (4, [.ref fa, .ref da, .ref ch])), (fa, .inl (g.2.1 1, 16384, .inl ff)), (da, .inl (g.2.1 0, 16384, .inl fd)), (ch, .inl (g.2.1 0, 16384, .inl fc))] hsz) := by
  refine ofWi (cc := cX4_spendOrRefuse) (maxL := 4) (ret := (some .int)) (by decide) rfl (Nat.le_of_ble_eq_true rfl) (fun p e s m below meth c hx hb hr hml hts hown hlocks hnm A H hH hA hP hD hK hZ hS ls hl => ?_)
  have hown : s.vm.findClass RX4 = some m.cls := hown
  have hl : lv_has ls 4 [(0, .ref s0), (1, .int (nI j)), (2, .int xd)] := hl
  have hiX4 : ∀ w ∈ wsX40, w ∈ wsX4_spendOrRefuse := by decide +kernel
  refine lv_aload_n hx hb dX4_spendOrRefuse_0 rfl (lv_at hl 0 rfl) ?_
  refine va_get (D := g.1) (ci := 5) (v := .ref lg) (C := RX4) (T := TX4) (N := 10) hx hb hts hiX4 hown hK.1 hP 0 rfl rfl 8 (by decide) (hts (.fieldLink RX4 29 "StampMaker" "ledger" "LStampMaker$Ledger;") (by decide +kernel)) (fun _ h9 => h9) rfl dX4_spendOrRefuse_1 ?_
  refine lv_iload_n hx hb dX4_spendOrRefuse_4 rfl (lv_at hl 1 rfl) ?_
  refine lv_i2l hx hb dX4_spendOrRefuse_5 rfl ?_
  refine lv_rel (x' := (lN j)) (nI_L (by omega)) ?_
  refine cVi (rest := []) ⟨hx, hb, hml, hown, hts⟩ [.long (lN j)] (c_X3_fateOf_in l g (lg := lg) (fa := fa) (da := da) (ch := ch) (ff := ff) (j := j) hj) (cwV 1 hts gX4_spendOrRefuse_X3_fateOf rfl rfl rfl (by decide +kernel) ⟨Nat.le_of_ble_eq_true rfl, Nat.le_of_ble_eq_true rfl⟩) hK hZ hS (subP hP [1, 2] rfl) (va_recv hK.1 hP (ci := 4) (q0 := 1) rfl rfl) rfl hl.1 rfl (Nat.le_of_ble_eq_true rfl) dX4_spendOrRefuse_6 ⟨Nat.zero_le _, Nat.zero_le _⟩ (fun r_90 hr_90 => ?_)
  obtain rfl : r_90 = (ff j) := hr_90
  refine lv_istore_n (lv' := [(3, .int (ff j)), (0, .ref s0), (1, .int (nI j)), (2, .int xd)]) hx hb dX4_spendOrRefuse_9 rfl hl (by decide) rfl (fun ls hl => ?_)
  refine lv_iload_n hx hb dX4_spendOrRefuse_10 rfl (lv_at hl 0 rfl) ?_
  refine lv_iconst (v := (nI 2)) hx hb dX4_spendOrRefuse_11 (by decide) ?_
  refine lv_icmp_ne (tgt := 21) hx hb dX4_spendOrRefuse_12 (by decide) (fun c_91 => ?_) (fun c_91 => ?_)
  · refine lv_aload_n hx hb dX4_spendOrRefuse_21 rfl (lv_at hl 1 rfl) ?_
    refine lv_iload_n hx hb dX4_spendOrRefuse_22 rfl (lv_at hl 2 rfl) ?_
    refine va_put (D := g.1) (ci := 5) (v := .int (nI j)) (ty := .int) (C := RX4) (T := TX4) (N := 10) hx hb hts hiX4 tyX4 tyX4_ok nmX4 hown hK.1 hP hD hS 0 rfl rfl 7 (by decide) (hts (.fieldLink RX4 22 "StampMaker" "latestSpent" "I") (by decide +kernel)) (fun _ h9 => h9) rfl (by decide +kernel) rfl rfl (Nat.le_of_ble_eq_true rfl) dX4_spendOrRefuse_23 (fun H locs hP hD hS => ?_)
    have hP : va_P g.1 vwCl [(s0, .inr (5, [.ref ks, .int (nI kn), .int (nI mn), .ref lt, .ref ty, .int (nI tn), .int cc, .int (nI j), .ref lg, .ref dg])), (lg, .inr (4, [.ref fa, .ref da, .ref ch])), (fa, .inl (g.2.1 1, 16384, .inl ff)), (da, .inl (g.2.1 0, 16384, .inl fd)), (ch, .inl (g.2.1 0, 16384, .inl fc))] H := hP
    have hD : va_D A [(s0, .inr (5, [.ref ks, .int (nI kn), .int (nI mn), .ref lt, .ref ty, .int (nI tn), .int cc, .int (nI j), .ref lg, .ref dg])), (lg, .inr (4, [.ref fa, .ref da, .ref ch])), (fa, .inl (g.2.1 1, 16384, .inl ff)), (da, .inl (g.2.1 0, 16384, .inl fd)), (ch, .inl (g.2.1 0, 16384, .inl fc))] := hD
    refine lv_iload_n hx hb dX4_spendOrRefuse_26 rfl (lv_at hl 0 rfl) ?_
    refine lv_iconst (v := (nI 1)) hx hb dX4_spendOrRefuse_27 (by decide) ?_
    refine lv_icmp_ne (tgt := 37) hx hb dX4_spendOrRefuse_28 (by decide) (fun c_93 => ?_) (fun c_93 => ?_)
    · refine lv_aload_n hx hb dX4_spendOrRefuse_37 rfl (lv_at hl 1 rfl) ?_
      refine va_get (D := g.1) (ci := 5) (v := .ref lg) (C := RX4) (T := TX4) (N := 10) hx hb hts hiX4 hown hK.1 hP 0 rfl rfl 8 (by decide) (hts (.fieldLink RX4 29 "StampMaker" "ledger" "LStampMaker$Ledger;") (by decide +kernel)) (fun _ h9 => h9) rfl dX4_spendOrRefuse_38 ?_
      refine lv_iload_n hx hb dX4_spendOrRefuse_41 rfl (lv_at hl 2 rfl) ?_
      refine lv_iload_n hx hb dX4_spendOrRefuse_42 rfl (lv_at hl 3 rfl) ?_
      refine lv_aload_n hx hb dX4_spendOrRefuse_43 rfl (lv_at hl 1 rfl) ?_
      refine va_get (D := g.1) (ci := 5) (v := .int cc) (C := RX4) (T := TX4) (N := 10) hx hb hts hiX4 hown hK.1 hP 0 rfl rfl 6 (by decide) (hts (.fieldLink RX4 95 "StampMaker" "checkCount" "I") (by decide +kernel)) (fun _ h9 => h9) rfl dX4_spendOrRefuse_44 ?_
      refine wVv (rest := []) ⟨hx, hb, hml, hown, hts⟩ [.int (nI j), .int xd, .int cc] [1, 2, 3, 4] (c_X3_spend l g H.size (lg := lg) (fa := fa) (da := da) (ch := ch) (ff := ff) (fd := fd) (fc := fc) (j := j) (xd := xd) (xc := cc) hj) (cwV 3 hts gX4_spendOrRefuse_X3_spend rfl rfl rfl (by decide +kernel) ⟨Nat.le_of_ble_eq_true rfl, Nat.le_of_ble_eq_true rfl⟩) hK hZ hS hP hD hA rfl (by decide) (fun _ => Nat.le_of_ble_eq_true rfl) (fun _ => rfl) (va_recv hK.1 hP (ci := 4) (q0 := 1) rfl rfl) rfl hl.1 rfl (Nat.le_of_ble_eq_true rfl) dX4_spendOrRefuse_47 ⟨Nat.le_of_ble_eq_true rfl, Nat.le_of_ble_eq_true rfl⟩ (fun u H locs hr_95 hP hD hS => ?_)
      have hP : va_P g.1 vwCl [(s0, .inr (5, [.ref ks, .int (nI kn), .int (nI mn), .ref lt, .ref ty, .int (nI tn), .int cc, .int (nI j), .ref lg, .ref dg])), (lg, .inr (4, [.ref fa, .ref da, .ref ch])), (fa, .inl (g.2.1 1, 16384, .inl (upd ff j (nI 1)))), (da, .inl (g.2.1 0, 16384, .inl (upd fd j xd))), (ch, .inl (g.2.1 0, 16384, .inl (upd fc j cc)))] H := hP
      have hD : va_D A [(s0, .inr (5, [.ref ks, .int (nI kn), .int (nI mn), .ref lt, .ref ty, .int (nI tn), .int cc, .int (nI j), .ref lg, .ref dg])), (lg, .inr (4, [.ref fa, .ref da, .ref ch])), (fa, .inl (g.2.1 1, 16384, .inl (upd ff j (nI 1)))), (da, .inl (g.2.1 0, 16384, .inl (upd fd j xd))), (ch, .inl (g.2.1 0, 16384, .inl (upd fc j cc)))] := hD
      refine lv_iconst (v := (nI 1)) hx hb dX4_spendOrRefuse_50 (by decide) ?_
      exact endWi (nI j, upd ff j (nI 1), upd fd j xd, upd fc j cc) hx hb hr hlocks hS dX4_spendOrRefuse_51 hP hD (by unfold acR acS acF; simp only [if_neg c_91, if_neg c_93, if_neg (not_or.mpr ⟨c_91, c_93⟩), true_and])
    · refine lv_bipush (v := (nI 6)) hx hb dX4_spendOrRefuse_31 (by decide) ?_
      refine cSi (rest := []) ⟨hx, hb, hml, hown, hts⟩ [.int (nI 6)] (c_X4_refusedFor l g (x := (nI 6))) (va_cwS 1 hts gX4_spendOrRefuse_X4_refusedFor rfl rfl rfl (by decide +kernel) ⟨Nat.le_of_ble_eq_true rfl, Nat.le_of_ble_eq_true rfl⟩) hK hZ hS (subP hP [] rfl) rfl hl.1 rfl (Nat.le_of_ble_eq_true rfl) dX4_spendOrRefuse_33 ⟨Nat.zero_le _, Nat.zero_le _⟩ (fun r_94 hr_94 => ?_)
      obtain rfl : r_94 = ((-1) - nI 6) := hr_94
      refine lv_rei (x' := (-7)) (by decide) ?_
      exact endWi (nI j, ff, fd, fc) hx hb hr hlocks hS dX4_spendOrRefuse_36 hP hD (by unfold acR acS acF; rw [c_93]; exact ⟨rfl, rfl, rfl, rfl, rfl⟩)
  · refine lv_bipush (v := (nI 7)) hx hb dX4_spendOrRefuse_15 (by decide) ?_
    refine cSi (rest := []) ⟨hx, hb, hml, hown, hts⟩ [.int (nI 7)] (c_X4_refusedFor l g (x := (nI 7))) (va_cwS 1 hts gX4_spendOrRefuse_X4_refusedFor rfl rfl rfl (by decide +kernel) ⟨Nat.le_of_ble_eq_true rfl, Nat.le_of_ble_eq_true rfl⟩) hK hZ hS (subP hP [] rfl) rfl hl.1 rfl (Nat.le_of_ble_eq_true rfl) dX4_spendOrRefuse_17 ⟨Nat.zero_le _, Nat.zero_le _⟩ (fun r_92 hr_92 => ?_)
    obtain rfl : r_92 = ((-1) - nI 7) := hr_92
    refine lv_rei (x' := (-8)) (by decide) ?_
    exact endWi (sp, ff, fd, fc) hx hb hr hlocks hS dX4_spendOrRefuse_20 hP hD (by unfold acR acS acF; rw [c_91]; exact ⟨rfl, rfl, rfl, rfl, rfl⟩)

set_option maxHeartbeats 4000000 in
set_option maxRecDepth 100000 in
/-- no such key -/
theorem c_X4_make_out (l : Launch) (g : gE) (s0 ks lt ty lg dg kn mn tn : Nat) (cc sp : Int32) (fk : Nat → Option Nat) (x xv xk : Int32) (xd : Int64) (hx0 : ¬ (0 ≤ x.toInt ∧ x.toInt < kn)) (hkn : kn ≤ 15) : Met l yX4_make wsX4_make ({ frames := 1, cells := 0, slots := 0, locals := 21 }) (va_Pc [.ref s0, .int x, .int xv, .int xk, .long xd] (ro g [(s0, .inr (5, [.ref ks, .int (nI kn), .int (nI mn), .ref lt, .ref ty, .int (nI tn), .int cc, .int sp, .ref lg, .ref dg])), (ks, .inl (g.2.1 4, 15, .inr (.inr (.inr (.inr fk)))))])) (vp_Si (fun r : Int32 => r = -21)) 0 0 nA := by
  refine ofRo (cc := cX4_make) (maxL := 9) (ret := (some .int)) (by decide) rfl (Nat.le_of_ble_eq_true rfl) (fun p e s m below meth c hx hb hr hml hts hown hlocks hnm hP hK hZ hS ls hl => ?_)
  have hown : s.vm.findClass RX4 = some m.cls := hown
  have hl : lv_has ls 9 [(0, .ref s0), (1, .int x), (2, .int xv), (3, .int xk), (4, .long xd)] := hl
  have hiX4 : ∀ w ∈ wsX40, w ∈ wsX4_make := by decide +kernel
  refine lv_aload_n hx hb dX4_make_0 rfl (lv_at hl 0 rfl) ?_
  refine lv_iload_n hx hb dX4_make_1 rfl (lv_at hl 1 rfl) ?_
  refine cVq (rest := []) ⟨hx, hb, hml, hown, hts⟩ [.int x] (c_X4_kn_out l g (s0 := s0) (ks := ks) (lt := lt) (ty := ty) (lg := lg) (dg := dg) (kn := kn) (mn := mn) (tn := tn) (cc := cc) (sp := sp) (fk := fk) (x := x) hx0 hkn) (cwV 1 hts gX4_make_X4_keyNumbered rfl rfl rfl (by decide +kernel) ⟨Nat.le_of_ble_eq_true rfl, Nat.le_of_ble_eq_true rfl⟩) hK hZ hS (subP hP [0, 1] rfl) (va_recv hK.1 hP (ci := 5) (q0 := 0) rfl rfl) rfl hl.1 rfl (Nat.le_of_ble_eq_true rfl) dX4_make_2 ⟨Nat.zero_le _, Nat.zero_le _⟩ (fun r_96 hr_96 => ?_)
  obtain rfl : r_96 = none := hr_96
  refine lv_reN (rfl) ?_
  refine lv_astoreN (lv' := [(6, .null), (0, .ref s0), (1, .int x), (2, .int xv), (3, .int xk), (4, .long xd)]) hx hb dX4_make_5 hl (by decide) rfl (fun ls hl => ?_)
  refine lv_aloadN hx hb dX4_make_7 (lv_at hl 0 rfl) ?_
  refine lv_ifnonnullN hx hb dX4_make_9 ?_
  refine lv_bipush (v := (-21)) hx hb dX4_make_12 (by decide) ?_
  exact endRi hx hb hr hlocks dX4_make_14 (rfl)

set_option maxHeartbeats 4000000 in
set_option maxRecDepth 100000 in
/-- a number is not as said -/
theorem c_X4_make_dom (l : Launch) (g : gE) (s0 ks lt ty lg dg kn mn tn : Nat) (cc sp : Int32) (fk : Nat → Option Nat) (i k : Nat) (xv xk : Int32) (xd : Int64) (hi : i < kn) (hkn : kn ≤ 15) (hk : fk i = some k) (hd : ¬ ((1 ≤ xv.toInt ∧ xv.toInt ≤ 99999) ∧ (0 ≤ xk.toInt ∧ xk.toInt ≤ 9) ∧ (0 ≤ xd.toInt ∧ xd.toInt ≤ 65535))) : Met l yX4_make wsX4_make ({ frames := 1, cells := 0, slots := 0, locals := 21 }) (va_Pc [.ref s0, .int (nI i), .int xv, .int xk, .long xd] (ro g [(s0, .inr (5, [.ref ks, .int (nI kn), .int (nI mn), .ref lt, .ref ty, .int (nI tn), .int cc, .int sp, .ref lg, .ref dg])), (ks, .inl (g.2.1 4, 15, .inr (.inr (.inr (.inr fk)))))])) (vp_Si (fun r : Int32 => r = -22)) 0 0 nA := by
  refine ofRo (cc := cX4_make) (maxL := 9) (ret := (some .int)) (by decide) rfl (Nat.le_of_ble_eq_true rfl) (fun p e s m below meth c hx hb hr hml hts hown hlocks hnm hP hK hZ hS ls hl => ?_)
  have hown : s.vm.findClass RX4 = some m.cls := hown
  have hl : lv_has ls 9 [(0, .ref s0), (1, .int (nI i)), (2, .int xv), (3, .int xk), (4, .long xd)] := hl
  have hiX4 : ∀ w ∈ wsX40, w ∈ wsX4_make := by decide +kernel
  refine lv_aload_n hx hb dX4_make_0 rfl (lv_at hl 0 rfl) ?_
  refine lv_iload_n hx hb dX4_make_1 rfl (lv_at hl 1 rfl) ?_
  refine cVq (rest := []) ⟨hx, hb, hml, hown, hts⟩ [.int (nI i)] (c_X4_kn_in l g (s0 := s0) (ks := ks) (lt := lt) (ty := ty) (lg := lg) (dg := dg) (kn := kn) (mn := mn) (tn := tn) (cc := cc) (sp := sp) (fk := fk) (i := i) hi hkn) (cwV 1 hts gX4_make_X4_keyNumbered rfl rfl rfl (by decide +kernel) ⟨Nat.le_of_ble_eq_true rfl, Nat.le_of_ble_eq_true rfl⟩) hK hZ hS (subP hP [0, 1] rfl) (va_recv hK.1 hP (ci := 5) (q0 := 0) rfl rfl) rfl hl.1 rfl (Nat.le_of_ble_eq_true rfl) dX4_make_2 ⟨Nat.zero_le _, Nat.zero_le _⟩ (fun r_97 hr_97 => ?_)
  obtain rfl : r_97 = (fk i) := hr_97
  refine lv_reR (a := k) (hk) ?_
  refine lv_astore (lv' := [(6, .ref k), (0, .ref s0), (1, .int (nI i)), (2, .int xv), (3, .int xk), (4, .long xd)]) hx hb dX4_make_5 hl (by decide) rfl (fun ls hl => ?_)
  refine lv_aload hx hb dX4_make_7 (lv_at hl 0 rfl) ?_
  refine lv_ifnonnull (tgt := 15) hx hb dX4_make_9 (by decide) ?_
  refine lv_iload_n hx hb dX4_make_15 rfl (lv_at hl 3 rfl) ?_
  refine cSi (rest := []) ⟨hx, hb, hml, hown, hts⟩ [.int xv] (c_X4_isValue l g (x := xv)) (va_cwS 1 hts gX4_make_X4_isValue rfl rfl rfl (by decide +kernel) ⟨Nat.le_of_ble_eq_true rfl, Nat.le_of_ble_eq_true rfl⟩) hK hZ hS (subP hP [] rfl) rfl hl.1 rfl (Nat.le_of_ble_eq_true rfl) dX4_make_16 ⟨Nat.zero_le _, Nat.zero_le _⟩ (fun r_98 hr_98 => ?_)
  obtain rfl : r_98 = (inI xv.toInt 1 99999) := hr_98
  refine lv_if_eq (tgt := 37) hx hb dX4_make_19 (by decide) (fun c_99 => ?_) (fun c_99 => ?_)
  · refine lv_bipush (v := (-22)) hx hb dX4_make_37 (by decide) ?_
    exact endRi hx hb hr hlocks dX4_make_39 (rfl)
  · refine lv_iload_n hx hb dX4_make_22 rfl (lv_at hl 4 rfl) ?_
    refine cSi (rest := []) ⟨hx, hb, hml, hown, hts⟩ [.int xk] (c_X4_isKind l g (x := xk)) (va_cwS 1 hts gX4_make_X4_isKind rfl rfl rfl (by decide +kernel) ⟨Nat.le_of_ble_eq_true rfl, Nat.le_of_ble_eq_true rfl⟩) hK hZ hS (subP hP [] rfl) rfl hl.1 rfl (Nat.le_of_ble_eq_true rfl) dX4_make_23 ⟨Nat.zero_le _, Nat.zero_le _⟩ (fun r_100 hr_100 => ?_)
    obtain rfl : r_100 = (inI xk.toInt 0 9) := hr_100
    refine lv_if_eq (tgt := 37) hx hb dX4_make_26 (by decide) (fun c_101 => ?_) (fun c_101 => ?_)
    · refine lv_bipush (v := (-22)) hx hb dX4_make_37 (by decide) ?_
      exact endRi hx hb hr hlocks dX4_make_39 (rfl)
    · refine lv_lload hx hb dX4_make_29 (lv_at hl 5 rfl) ?_
      refine cSi (rest := []) ⟨hx, hb, hml, hown, hts⟩ [.long xd] (c_X4_isDay l g (x := xd)) (va_cwS 1 hts gX4_make_X4_isDay rfl rfl rfl (by decide +kernel) ⟨Nat.le_of_ble_eq_true rfl, Nat.le_of_ble_eq_true rfl⟩) hK hZ hS (subP hP [] rfl) rfl hl.1 rfl (Nat.le_of_ble_eq_true rfl) dX4_make_31 ⟨Nat.zero_le _, Nat.zero_le _⟩ (fun r_102 hr_102 => ?_)
      obtain rfl : r_102 = (inI xd.toInt 0 65535) := hr_102
      refine lv_if_ne (tgt := 40) hx hb dX4_make_34 (by decide) (fun c_103 => ?_) (fun c_103 => ?_)
      · exact absurd (by rw [inI_eq0] at c_99 c_101 c_103; omega) hd
      · refine lv_bipush (v := (-22)) hx hb dX4_make_37 (by decide) ?_
        exact endRi hx hb hr hlocks dX4_make_39 (rfl)

set_option maxHeartbeats 4000000 in
set_option maxRecDepth 100000 in
/-- the key does not hold on that day -/
theorem c_X4_make_state (l : Launch) (g : gE) (s0 ks lt ty lg dg kn mn tn : Nat) (cc sp : Int32) (fk : Nat → Option Nat) (i k kb : Nat) (fr un cn cl : Int32) (xv xk : Int32) (xd : Int64) (hi : i < kn) (hkn : kn ≤ 15) (hk : fk i = some k) (hd : ((1 ≤ xv.toInt ∧ xv.toInt ≤ 99999) ∧ (0 ≤ xk.toInt ∧ xk.toInt ≤ 9) ∧ (0 ≤ xd.toInt ∧ xd.toInt ≤ 65535))) (hst : ¬ (fr.toInt ≤ xd.toInt ∧ xd.toInt ≤ un.toInt)) : Met l yX4_make wsX4_make ({ frames := 1, cells := 0, slots := 0, locals := 22 }) (va_Pc [.ref s0, .int (nI i), .int xv, .int xk, .long xd] (ro g [(s0, .inr (5, [.ref ks, .int (nI kn), .int (nI mn), .ref lt, .ref ty, .int (nI tn), .int cc, .int sp, .ref lg, .ref dg])), (ks, .inl (g.2.1 4, 15, .inr (.inr (.inr (.inr fk))))), (k, .inr (3, [.int fr, .int un, .ref kb, .int cn, .int cl]))])) (vp_Si (fun r : Int32 => r = -23)) 0 0 nA := by
  refine ofRo (cc := cX4_make) (maxL := 9) (ret := (some .int)) (by decide) rfl (Nat.le_of_ble_eq_true rfl) (fun p e s m below meth c hx hb hr hml hts hown hlocks hnm hP hK hZ hS ls hl => ?_)
  have hown : s.vm.findClass RX4 = some m.cls := hown
  have hl : lv_has ls 9 [(0, .ref s0), (1, .int (nI i)), (2, .int xv), (3, .int xk), (4, .long xd)] := hl
  have hiX4 : ∀ w ∈ wsX40, w ∈ wsX4_make := by decide +kernel
  refine lv_aload_n hx hb dX4_make_0 rfl (lv_at hl 0 rfl) ?_
  refine lv_iload_n hx hb dX4_make_1 rfl (lv_at hl 1 rfl) ?_
  refine cVq (rest := []) ⟨hx, hb, hml, hown, hts⟩ [.int (nI i)] (c_X4_kn_in l g (s0 := s0) (ks := ks) (lt := lt) (ty := ty) (lg := lg) (dg := dg) (kn := kn) (mn := mn) (tn := tn) (cc := cc) (sp := sp) (fk := fk) (i := i) hi hkn) (cwV 1 hts gX4_make_X4_keyNumbered rfl rfl rfl (by decide +kernel) ⟨Nat.le_of_ble_eq_true rfl, Nat.le_of_ble_eq_true rfl⟩) hK hZ hS (subP hP [0, 1] rfl) (va_recv hK.1 hP (ci := 5) (q0 := 0) rfl rfl) rfl hl.1 rfl (Nat.le_of_ble_eq_true rfl) dX4_make_2 ⟨Nat.zero_le _, Nat.zero_le _⟩ (fun r_104 hr_104 => ?_)
  obtain rfl : r_104 = (fk i) := hr_104
  refine lv_reR (a := k) (hk) ?_
  refine lv_astore (lv' := [(6, .ref k), (0, .ref s0), (1, .int (nI i)), (2, .int xv), (3, .int xk), (4, .long xd)]) hx hb dX4_make_5 hl (by decide) rfl (fun ls hl => ?_)
  refine lv_aload hx hb dX4_make_7 (lv_at hl 0 rfl) ?_
  refine lv_ifnonnull (tgt := 15) hx hb dX4_make_9 (by decide) ?_
  refine lv_iload_n hx hb dX4_make_15 rfl (lv_at hl 3 rfl) ?_
  refine cSi (rest := []) ⟨hx, hb, hml, hown, hts⟩ [.int xv] (c_X4_isValue l g (x := xv)) (va_cwS 1 hts gX4_make_X4_isValue rfl rfl rfl (by decide +kernel) ⟨Nat.le_of_ble_eq_true rfl, Nat.le_of_ble_eq_true rfl⟩) hK hZ hS (subP hP [] rfl) rfl hl.1 rfl (Nat.le_of_ble_eq_true rfl) dX4_make_16 ⟨Nat.zero_le _, Nat.zero_le _⟩ (fun r_105 hr_105 => ?_)
  obtain rfl : r_105 = (inI (xv).toInt 1 99999) := hr_105
  refine lv_if_eq (tgt := 37) hx hb dX4_make_19 (by decide) (fun c9 => absurd c9 (by rw [inI_1 (by omega) (by omega)]; decide)) (fun _ => ?_)
  refine lv_iload_n hx hb dX4_make_22 rfl (lv_at hl 4 rfl) ?_
  refine cSi (rest := []) ⟨hx, hb, hml, hown, hts⟩ [.int xk] (c_X4_isKind l g (x := xk)) (va_cwS 1 hts gX4_make_X4_isKind rfl rfl rfl (by decide +kernel) ⟨Nat.le_of_ble_eq_true rfl, Nat.le_of_ble_eq_true rfl⟩) hK hZ hS (subP hP [] rfl) rfl hl.1 rfl (Nat.le_of_ble_eq_true rfl) dX4_make_23 ⟨Nat.zero_le _, Nat.zero_le _⟩ (fun r_106 hr_106 => ?_)
  obtain rfl : r_106 = (inI (xk).toInt 0 9) := hr_106
  refine lv_if_eq (tgt := 37) hx hb dX4_make_26 (by decide) (fun c9 => absurd c9 (by rw [inI_1 (by omega) (by omega)]; decide)) (fun _ => ?_)
  refine lv_lload hx hb dX4_make_29 (lv_at hl 5 rfl) ?_
  refine cSi (rest := []) ⟨hx, hb, hml, hown, hts⟩ [.long xd] (c_X4_isDay l g (x := xd)) (va_cwS 1 hts gX4_make_X4_isDay rfl rfl rfl (by decide +kernel) ⟨Nat.le_of_ble_eq_true rfl, Nat.le_of_ble_eq_true rfl⟩) hK hZ hS (subP hP [] rfl) rfl hl.1 rfl (Nat.le_of_ble_eq_true rfl) dX4_make_31 ⟨Nat.zero_le _, Nat.zero_le _⟩ (fun r_107 hr_107 => ?_)
  obtain rfl : r_107 = (inI (xd).toInt 0 65535) := hr_107
  refine lv_if_ne (tgt := 40) hx hb dX4_make_34 (by decide) (fun _ => ?_) (fun c9 => absurd c9 (by rw [inI_1 (by omega) (by omega)]; decide))
  refine lv_aload hx hb dX4_make_40 (lv_at hl 0 rfl) ?_
  refine lv_lload hx hb dX4_make_42 (lv_at hl 5 rfl) ?_
  refine cVi (rest := []) ⟨hx, hb, hml, hown, hts⟩ [.long xd] (c_X2_holdsOn l g (k := k) (kb := kb) (fr := fr) (un := un) (cn := cn) (cl := cl) (x := xd)) (cwV 1 hts gX4_make_X2_holdsOn rfl rfl rfl (by decide +kernel) ⟨Nat.le_of_ble_eq_true rfl, Nat.le_of_ble_eq_true rfl⟩) hK hZ hS (subP hP [2] rfl) (va_recv hK.1 hP (ci := 3) (q0 := 2) rfl rfl) rfl hl.1 rfl (Nat.le_of_ble_eq_true rfl) dX4_make_44 ⟨Nat.zero_le _, Nat.zero_le _⟩ (fun r_108 hr_108 => ?_)
  obtain rfl : r_108 = (inI xd.toInt fr.toInt un.toInt) := hr_108
  refine lv_if_ne (tgt := 53) hx hb dX4_make_47 (by decide) (fun c9 => absurd (inI_0 hst) c9) (fun _ => ?_)
  refine lv_bipush (v := (-23)) hx hb dX4_make_50 (by decide) ?_
  exact endRi hx hb hr hlocks dX4_make_52 (rfl)

set_option maxHeartbeats 4000000 in
set_option maxRecDepth 100000 in
/-- a stamp made -/
theorem c_X4_make_yes (l : Launch) (g : gE) (hsz : Nat) (s0 ks lt ty lg dg kn mn tn : Nat) (cc sp : Int32) (fk : Nat → Option Nat) (wa st : Nat) (rk : Int32) (fw fs fl : Nat → Int32) (k kb : Nat) (fr un cl : Int32) (f : Nat → Int32) (nz i v kd d : Nat) (hi : i < kn) (hkn : kn ≤ 15) (hk : fk i = some k) (hz : nz ≤ 32) (hmn : mn < 16384) (hv1 : 1 ≤ v) (hv2 : v ≤ 99999) (hkd : kd ≤ 9) (hdd : d ≤ 65535) (hst : fr.toInt ≤ d ∧ (d : Int) ≤ un.toInt) : Met l yX4_make wsX4_make ({ frames := 6, cells := 0, slots := 0, locals := 129 }) (va_Pc [.ref s0, .int (nI i), .int (nI v), .int (nI kd), .long (lN d)] (wr g [(s0, .inr (5, [.ref ks, .int (nI kn), .int (nI mn), .ref lt, .ref ty, .int (nI tn), .int cc, .int sp, .ref lg, .ref dg])), (ks, .inl (g.2.1 4, 15, .inr (.inr (.inr (.inr fk))))), (dg, .inr (2, [.ref wa, .ref st, .int rk])), (wa, .inl (g.2.1 0, 64, .inl fw)), (st, .inl (g.2.1 0, 8, .inl fs)), (k, .inr (3, [.int fr, .int un, .ref kb, .int (nI nz), .int cl])), (kb, .inl (g.2.1 1, 32, .inl f)), (lt, .inl (g.2.1 0, 16, .inl fl))] hsz)) (va_Qi (fun (r : Int32) (u : ((Nat → Int32) × (Nat → Int32) × (Nat → Int32))) => r = nI 16 ∧ (∀ j, j < 8 → u.2.1 j = dG f nz (pkN i kd v d mn) j) ∧ ∀ j, j < 16 → u.2.2 j = ltE (pkN i kd v d mn) (sN f nz (pkN i kd v d mn)) j) (wB g (va_A [(s0, .inr (5, [.ref ks, .int (nI kn), .int (nI mn), .ref lt, .ref ty, .int (nI tn), .int cc, .int sp, .ref lg, .ref dg])), (ks, .inl (g.2.1 4, 15, .inr (.inr (.inr (.inr fk))))), (dg, .inr (2, [.ref wa, .ref st, .int rk])), (wa, .inl (g.2.1 0, 64, .inl fw)), (st, .inl (g.2.1 0, 8, .inl fs)), (k, .inr (3, [.int fr, .int un, .ref kb, .int (nI nz), .int cl])), (kb, .inl (g.2.1 1, 32, .inl f)), (lt, .inl (g.2.1 0, 16, .inl fl))] hsz) (fun u : ((Nat → Int32) × (Nat → Int32) × (Nat → Int32)) => [(s0, .inr (5, [.ref ks, .int (nI kn), .int (nI (mn + 1)), .ref lt, .ref ty, .int (nI tn), .int cc, .int sp, .ref lg, .ref dg])), (ks, .inl (g.2.1 4, 15, .inr (.inr (.inr (.inr fk))))), (dg, .inr (2, [.ref wa, .ref st, .int (nI 1)])), (wa, .inl (g.2.1 0, 64, .inl u.1)), (st, .inl (g.2.1 0, 8, .inl u.2.1)), (k, .inr (3, [.int fr, .int un, .ref kb, .int (nI nz), .int (nI 1)])), (kb, .inl (g.2.1 1, 32, .inl f)), (lt, .inl (g.2.1 0, 16, .inl u.2.2))])) (va_A [(s0, .inr (5, [.ref ks, .int (nI kn), .int (nI mn), .ref lt, .ref ty, .int (nI tn), .int cc, .int sp, .ref lg, .ref dg])), (ks, .inl (g.2.1 4, 15, .inr (.inr (.inr (.inr fk))))), (dg, .inr (2, [.ref wa, .ref st, .int rk])), (wa, .inl (g.2.1 0, 64, .inl fw)), (st, .inl (g.2.1 0, 8, .inl fs)), (k, .inr (3, [.int fr, .int un, .ref kb, .int (nI nz), .int cl])), (kb, .inl (g.2.1 1, 32, .inl f)), (lt, .inl (g.2.1 0, 16, .inl fl))] hsz)) 0 0 (va_A [(s0, .inr (5, [.ref ks, .int (nI kn), .int (nI mn), .ref lt, .ref ty, .int (nI tn), .int cc, .int sp, .ref lg, .ref dg])), (ks, .inl (g.2.1 4, 15, .inr (.inr (.inr (.inr fk))))), (dg, .inr (2, [.ref wa, .ref st, .int rk])), (wa, .inl (g.2.1 0, 64, .inl fw)), (st, .inl (g.2.1 0, 8, .inl fs)), (k, .inr (3, [.int fr, .int un, .ref kb, .int (nI nz), .int cl])), (kb, .inl (g.2.1 1, 32, .inl f)), (lt, .inl (g.2.1 0, 16, .inl fl))] hsz) := by
  refine ofWi (cc := cX4_make) (maxL := 9) (ret := (some .int)) (by decide) rfl (Nat.le_of_ble_eq_true rfl) (fun p e s m below meth c hx hb hr hml hts hown hlocks hnm A H hH hA hP hD hK hZ hS ls hl => ?_)
  have hown : s.vm.findClass RX4 = some m.cls := hown
  have hl : lv_has ls 9 [(0, .ref s0), (1, .int (nI i)), (2, .int (nI v)), (3, .int (nI kd)), (4, .long (lN d))] := hl
  have hiX4 : ∀ w ∈ wsX40, w ∈ wsX4_make := by decide +kernel
  have tv := ti_n (n := v) (by omega)
  have tkd := ti_n (n := kd) (by omega)
  have td := tl_n (n := d) (by omega)
  have hN : pkN i kd v d mn < 36028797018963968 := by unfold pkN; omega
  refine lv_aload_n hx hb dX4_make_0 rfl (lv_at hl 0 rfl) ?_
  refine lv_iload_n hx hb dX4_make_1 rfl (lv_at hl 1 rfl) ?_
  refine cVq (rest := []) ⟨hx, hb, hml, hown, hts⟩ [.int (nI i)] (c_X4_kn_in l g (s0 := s0) (ks := ks) (lt := lt) (ty := ty) (lg := lg) (dg := dg) (kn := kn) (mn := mn) (tn := tn) (cc := cc) (sp := sp) (fk := fk) (i := i) hi hkn) (cwV 1 hts gX4_make_X4_keyNumbered rfl rfl rfl (by decide +kernel) ⟨Nat.le_of_ble_eq_true rfl, Nat.le_of_ble_eq_true rfl⟩) hK hZ hS (subP hP [0, 1] rfl) (va_recv hK.1 hP (ci := 5) (q0 := 0) rfl rfl) rfl hl.1 rfl (Nat.le_of_ble_eq_true rfl) dX4_make_2 ⟨Nat.zero_le _, Nat.zero_le _⟩ (fun r_109 hr_109 => ?_)
  obtain rfl : r_109 = (fk i) := hr_109
  refine lv_reR (a := k) (hk) ?_
  refine lv_astore (lv' := [(6, .ref k), (0, .ref s0), (1, .int (nI i)), (2, .int (nI v)), (3, .int (nI kd)), (4, .long (lN d))]) hx hb dX4_make_5 hl (by decide) rfl (fun ls hl => ?_)
  refine lv_aload hx hb dX4_make_7 (lv_at hl 0 rfl) ?_
  refine lv_ifnonnull (tgt := 15) hx hb dX4_make_9 (by decide) ?_
  refine lv_iload_n hx hb dX4_make_15 rfl (lv_at hl 3 rfl) ?_
  refine cSi (rest := []) ⟨hx, hb, hml, hown, hts⟩ [.int (nI v)] (c_X4_isValue l g (x := nI v)) (va_cwS 1 hts gX4_make_X4_isValue rfl rfl rfl (by decide +kernel) ⟨Nat.le_of_ble_eq_true rfl, Nat.le_of_ble_eq_true rfl⟩) hK hZ hS (subP hP [] rfl) rfl hl.1 rfl (Nat.le_of_ble_eq_true rfl) dX4_make_16 ⟨Nat.zero_le _, Nat.zero_le _⟩ (fun r_110 hr_110 => ?_)
  obtain rfl : r_110 = (inI (nI v).toInt 1 99999) := hr_110
  refine lv_if_eq (tgt := 37) hx hb dX4_make_19 (by decide) (fun c9 => absurd c9 (by rw [inI_1 (by omega) (by omega)]; decide)) (fun _ => ?_)
  refine lv_iload_n hx hb dX4_make_22 rfl (lv_at hl 4 rfl) ?_
  refine cSi (rest := []) ⟨hx, hb, hml, hown, hts⟩ [.int (nI kd)] (c_X4_isKind l g (x := nI kd)) (va_cwS 1 hts gX4_make_X4_isKind rfl rfl rfl (by decide +kernel) ⟨Nat.le_of_ble_eq_true rfl, Nat.le_of_ble_eq_true rfl⟩) hK hZ hS (subP hP [] rfl) rfl hl.1 rfl (Nat.le_of_ble_eq_true rfl) dX4_make_23 ⟨Nat.zero_le _, Nat.zero_le _⟩ (fun r_111 hr_111 => ?_)
  obtain rfl : r_111 = (inI (nI kd).toInt 0 9) := hr_111
  refine lv_if_eq (tgt := 37) hx hb dX4_make_26 (by decide) (fun c9 => absurd c9 (by rw [inI_1 (by omega) (by omega)]; decide)) (fun _ => ?_)
  refine lv_lload hx hb dX4_make_29 (lv_at hl 5 rfl) ?_
  refine cSi (rest := []) ⟨hx, hb, hml, hown, hts⟩ [.long (lN d)] (c_X4_isDay l g (x := lN d)) (va_cwS 1 hts gX4_make_X4_isDay rfl rfl rfl (by decide +kernel) ⟨Nat.le_of_ble_eq_true rfl, Nat.le_of_ble_eq_true rfl⟩) hK hZ hS (subP hP [] rfl) rfl hl.1 rfl (Nat.le_of_ble_eq_true rfl) dX4_make_31 ⟨Nat.zero_le _, Nat.zero_le _⟩ (fun r_112 hr_112 => ?_)
  obtain rfl : r_112 = (inI (lN d).toInt 0 65535) := hr_112
  refine lv_if_ne (tgt := 40) hx hb dX4_make_34 (by decide) (fun _ => ?_) (fun c9 => absurd c9 (by rw [inI_1 (by omega) (by omega)]; decide))
  refine lv_aload hx hb dX4_make_40 (lv_at hl 0 rfl) ?_
  refine lv_lload hx hb dX4_make_42 (lv_at hl 5 rfl) ?_
  refine cVi (rest := []) ⟨hx, hb, hml, hown, hts⟩ [.long (lN d)] (c_X2_holdsOn l g (k := k) (kb := kb) (fr := fr) (un := un) (cn := (nI nz)) (cl := cl) (x := (lN d))) (cwV 1 hts gX4_make_X2_holdsOn rfl rfl rfl (by decide +kernel) ⟨Nat.le_of_ble_eq_true rfl, Nat.le_of_ble_eq_true rfl⟩) hK hZ hS (subP hP [5] rfl) (va_recv hK.1 hP (ci := 3) (q0 := 5) rfl rfl) rfl hl.1 rfl (Nat.le_of_ble_eq_true rfl) dX4_make_44 ⟨Nat.zero_le _, Nat.zero_le _⟩ (fun r_113 hr_113 => ?_)
  obtain rfl : r_113 = (inI (lN d).toInt fr.toInt un.toInt) := hr_113
  refine lv_if_ne (tgt := 53) hx hb dX4_make_47 (by decide) (fun _ => ?_) (fun c9 => absurd c9 (by rw [inI_1 (by omega) (by omega)]; decide))
  refine lv_aload_n hx hb dX4_make_53 rfl (lv_at hl 1 rfl) ?_
  refine va_get (D := g.1) (ci := 5) (v := .int (nI mn)) (C := RX4) (T := TX4) (N := 10) hx hb hts hiX4 hown hK.1 hP 0 rfl rfl 2 (by decide) (hts (.fieldLink RX4 68 "StampMaker" "made" "I") (by decide +kernel)) (fun _ h9 => h9) rfl dX4_make_54 ?_
  refine lv_sipush (v := (nI 16384)) hx hb dX4_make_57 (by decide) ?_
  refine lv_icmp_lt (tgt := 66) hx hb dX4_make_60 (by decide) (fun _ => ?_) (fun c9 => absurd (nI_lt hmn (by omega)) c9)
  refine lv_iload_n hx hb dX4_make_66 rfl (lv_at hl 2 rfl) ?_
  refine lv_iload_n hx hb dX4_make_67 rfl (lv_at hl 4 rfl) ?_
  refine lv_iload_n hx hb dX4_make_68 rfl (lv_at hl 3 rfl) ?_
  refine lv_lload hx hb dX4_make_69 (lv_at hl 5 rfl) ?_
  refine lv_l2i hx hb dX4_make_71 rfl ?_
  refine lv_rei (x' := (nI d)) (l_i) ?_
  refine lv_aload_n hx hb dX4_make_72 rfl (lv_at hl 1 rfl) ?_
  refine va_get (D := g.1) (ci := 5) (v := .int (nI mn)) (C := RX4) (T := TX4) (N := 10) hx hb hts hiX4 hown hK.1 hP 0 rfl rfl 2 (by decide) (hts (.fieldLink RX4 68 "StampMaker" "made" "I") (by decide +kernel)) (fun _ h9 => h9) rfl dX4_make_73 ?_
  refine cSl (rest := []) ⟨hx, hb, hml, hown, hts⟩ [.int (nI i), .int (nI kd), .int (nI v), .int (nI d), .int (nI mn)] (c_X1_joined l g (fa := (nI i)) (fb := (nI kd)) (fc := (nI v)) (fd := (nI d)) (ff := (nI mn))) (va_cwS 5 hts gX4_make_X1_joined rfl rfl rfl (by decide +kernel) ⟨Nat.le_of_ble_eq_true rfl, Nat.le_of_ble_eq_true rfl⟩) hK hZ hS (subP hP [] rfl) rfl hl.1 rfl (Nat.le_of_ble_eq_true rfl) dX4_make_76 ⟨Nat.zero_le _, Nat.zero_le _⟩ (fun r_114 hr_114 => ?_)
  obtain rfl : r_114 = (jnE (nI i) (nI kd) (nI v) (nI d) (nI mn)) := hr_114
  refine lv_rel (x' := (lN (pkN i kd v d mn))) (jnE_n (by omega) (by omega) (by omega) (by omega) (by omega)) ?_
  refine lv_lstore (lv' := [(7, .long (lN (pkN i kd v d mn))), (6, .ref k), (0, .ref s0), (1, .int (nI i)), (2, .int (nI v)), (3, .int (nI kd)), (4, .long (lN d))]) hx hb dX4_make_79 hl (by decide) rfl (fun ls hl => ?_)
  refine lv_aload_n hx hb dX4_make_81 rfl (lv_at hl 2 rfl) ?_
  refine lv_dup hx hb dX4_make_82 rfl ?_
  refine va_get (D := g.1) (ci := 5) (v := .int (nI mn)) (C := RX4) (T := TX4) (N := 10) hx hb hts hiX4 hown hK.1 hP 0 rfl rfl 2 (by decide) (hts (.fieldLink RX4 68 "StampMaker" "made" "I") (by decide +kernel)) (fun _ h9 => h9) rfl dX4_make_83 ?_
  refine lv_iconst (v := (nI 1)) hx hb dX4_make_86 (by decide) ?_
  refine lv_iadd hx hb dX4_make_87 ?_
  refine lv_rei (x' := (nI (mn + 1))) (nI_1 _) ?_
  refine va_put (D := g.1) (ci := 5) (v := .int (nI (mn + 1))) (ty := .int) (C := RX4) (T := TX4) (N := 10) hx hb hts hiX4 tyX4 tyX4_ok nmX4 hown hK.1 hP hD hS 0 rfl rfl 2 (by decide) (hts (.fieldLink RX4 68 "StampMaker" "made" "I") (by decide +kernel)) (fun _ h9 => h9) rfl (by decide +kernel) rfl rfl (Nat.le_of_ble_eq_true rfl) dX4_make_88 (fun H locs hP hD hS => ?_)
  have hP : va_P g.1 vwCl [(s0, .inr (5, [.ref ks, .int (nI kn), .int (nI (mn + 1)), .ref lt, .ref ty, .int (nI tn), .int cc, .int sp, .ref lg, .ref dg])), (ks, .inl (g.2.1 4, 15, .inr (.inr (.inr (.inr fk))))), (dg, .inr (2, [.ref wa, .ref st, .int rk])), (wa, .inl (g.2.1 0, 64, .inl fw)), (st, .inl (g.2.1 0, 8, .inl fs)), (k, .inr (3, [.int fr, .int un, .ref kb, .int (nI nz), .int cl])), (kb, .inl (g.2.1 1, 32, .inl f)), (lt, .inl (g.2.1 0, 16, .inl fl))] H := hP
  have hD : va_D A [(s0, .inr (5, [.ref ks, .int (nI kn), .int (nI (mn + 1)), .ref lt, .ref ty, .int (nI tn), .int cc, .int sp, .ref lg, .ref dg])), (ks, .inl (g.2.1 4, 15, .inr (.inr (.inr (.inr fk))))), (dg, .inr (2, [.ref wa, .ref st, .int rk])), (wa, .inl (g.2.1 0, 64, .inl fw)), (st, .inl (g.2.1 0, 8, .inl fs)), (k, .inr (3, [.int fr, .int un, .ref kb, .int (nI nz), .int cl])), (kb, .inl (g.2.1 1, 32, .inl f)), (lt, .inl (g.2.1 0, 16, .inl fl))] := hD
  refine lv_aload hx hb dX4_make_91 (lv_at hl 1 rfl) ?_
  refine wVv (rest := []) ⟨hx, hb, hml, hown, hts⟩ [] [5] (c_X2_close l g H.size (k := k) (kb := kb) (fr := fr) (un := un) (cn := (nI nz)) (cl := cl)) (cwV 0 hts gX4_make_X2_close rfl rfl rfl (by decide +kernel) ⟨Nat.le_of_ble_eq_true rfl, Nat.le_of_ble_eq_true rfl⟩) hK hZ hS hP hD hA rfl (by decide) (fun _ => Nat.le_of_ble_eq_true rfl) (fun _ => rfl) (va_recv hK.1 hP (ci := 3) (q0 := 5) rfl rfl) rfl hl.1 rfl (Nat.le_of_ble_eq_true rfl) dX4_make_93 ⟨Nat.le_of_ble_eq_true rfl, Nat.le_of_ble_eq_true rfl⟩ (fun u H locs hr_115 hP hD hS => ?_)
  have hP : va_P g.1 vwCl [(s0, .inr (5, [.ref ks, .int (nI kn), .int (nI (mn + 1)), .ref lt, .ref ty, .int (nI tn), .int cc, .int sp, .ref lg, .ref dg])), (ks, .inl (g.2.1 4, 15, .inr (.inr (.inr (.inr fk))))), (dg, .inr (2, [.ref wa, .ref st, .int rk])), (wa, .inl (g.2.1 0, 64, .inl fw)), (st, .inl (g.2.1 0, 8, .inl fs)), (k, .inr (3, [.int fr, .int un, .ref kb, .int (nI nz), .int (nI 1)])), (kb, .inl (g.2.1 1, 32, .inl f)), (lt, .inl (g.2.1 0, 16, .inl fl))] H := hP
  have hD : va_D A [(s0, .inr (5, [.ref ks, .int (nI kn), .int (nI (mn + 1)), .ref lt, .ref ty, .int (nI tn), .int cc, .int sp, .ref lg, .ref dg])), (ks, .inl (g.2.1 4, 15, .inr (.inr (.inr (.inr fk))))), (dg, .inr (2, [.ref wa, .ref st, .int rk])), (wa, .inl (g.2.1 0, 64, .inl fw)), (st, .inl (g.2.1 0, 8, .inl fs)), (k, .inr (3, [.int fr, .int un, .ref kb, .int (nI nz), .int (nI 1)])), (kb, .inl (g.2.1 1, 32, .inl f)), (lt, .inl (g.2.1 0, 16, .inl fl))] := hD
  refine lv_aload_n hx hb dX4_make_96 rfl (lv_at hl 2 rfl) ?_
  refine va_get (D := g.1) (ci := 5) (v := .ref dg) (C := RX4) (T := TX4) (N := 10) hx hb hts hiX4 hown hK.1 hP 0 rfl rfl 9 (by decide) (hts (.fieldLink RX4 36 "StampMaker" "latestDigest" "LStampMaker$Digest;") (by decide +kernel)) (fun _ h9 => h9) rfl dX4_make_97 ?_
  refine lv_aload hx hb dX4_make_100 (lv_at hl 1 rfl) ?_
  refine lv_lload hx hb dX4_make_102 (lv_at hl 0 rfl) ?_
  refine wVv (rest := []) ⟨hx, hb, hml, hown, hts⟩ [.ref k, .long (lN (pkN i kd v d mn))] [2, 3, 4, 5, 6] (c_X0_reckon l g H.size (dg := dg) (wa := wa) (st := st) (rk := rk) (fw := fw) (fs := fs) (k := k) (kb := kb) (fr := fr) (un := un) (cl := (nI 1)) (f := f) (sz := nz) (N := (pkN i kd v d mn)) hz hN) (cwV 2 hts gX4_make_X0_reckon rfl rfl rfl (by decide +kernel) ⟨Nat.le_of_ble_eq_true rfl, Nat.le_of_ble_eq_true rfl⟩) hK hZ hS hP hD hA rfl (by decide) (fun _ => Nat.le_of_ble_eq_true rfl) (fun _ => rfl) (va_recv hK.1 hP (ci := 2) (q0 := 2) rfl rfl) rfl hl.1 rfl (Nat.le_of_ble_eq_true rfl) dX4_make_104 ⟨Nat.le_of_ble_eq_true rfl, Nat.le_of_ble_eq_true rfl⟩ (fun u H locs hz1 hP hD hS => ?_)
  obtain ⟨G, T⟩ := u
  have hP : va_P g.1 vwCl [(s0, .inr (5, [.ref ks, .int (nI kn), .int (nI (mn + 1)), .ref lt, .ref ty, .int (nI tn), .int cc, .int sp, .ref lg, .ref dg])), (ks, .inl (g.2.1 4, 15, .inr (.inr (.inr (.inr fk))))), (dg, .inr (2, [.ref wa, .ref st, .int (nI 1)])), (wa, .inl (g.2.1 0, 64, .inl ((G, T).1))), (st, .inl (g.2.1 0, 8, .inl ((G, T).2))), (k, .inr (3, [.int fr, .int un, .ref kb, .int (nI nz), .int (nI 1)])), (kb, .inl (g.2.1 1, 32, .inl f)), (lt, .inl (g.2.1 0, 16, .inl fl))] H := hP
  have hD : va_D A [(s0, .inr (5, [.ref ks, .int (nI kn), .int (nI (mn + 1)), .ref lt, .ref ty, .int (nI tn), .int cc, .int sp, .ref lg, .ref dg])), (ks, .inl (g.2.1 4, 15, .inr (.inr (.inr (.inr fk))))), (dg, .inr (2, [.ref wa, .ref st, .int (nI 1)])), (wa, .inl (g.2.1 0, 64, .inl ((G, T).1))), (st, .inl (g.2.1 0, 8, .inl ((G, T).2))), (k, .inr (3, [.int fr, .int un, .ref kb, .int (nI nz), .int (nI 1)])), (kb, .inl (g.2.1 1, 32, .inl f)), (lt, .inl (g.2.1 0, 16, .inl fl))] := hD
  have hz1 : ∀ j, j < 8 → T j = dG f nz (pkN i kd v d mn) j := hz1
  have hP : va_P g.1 vwCl [(s0, .inr (5, [.ref ks, .int (nI kn), .int (nI (mn + 1)), .ref lt, .ref ty, .int (nI tn), .int cc, .int sp, .ref lg, .ref dg])), (ks, .inl (g.2.1 4, 15, .inr (.inr (.inr (.inr fk))))), (dg, .inr (2, [.ref wa, .ref st, .int (nI 1)])), (wa, .inl (g.2.1 0, 64, .inl G)), (st, .inl (g.2.1 0, 8, .inl T)), (k, .inr (3, [.int fr, .int un, .ref kb, .int (nI nz), .int (nI 1)])), (kb, .inl (g.2.1 1, 32, .inl f)), (lt, .inl (g.2.1 0, 16, .inl fl))] H := hP
  have hD : va_D A [(s0, .inr (5, [.ref ks, .int (nI kn), .int (nI (mn + 1)), .ref lt, .ref ty, .int (nI tn), .int cc, .int sp, .ref lg, .ref dg])), (ks, .inl (g.2.1 4, 15, .inr (.inr (.inr (.inr fk))))), (dg, .inr (2, [.ref wa, .ref st, .int (nI 1)])), (wa, .inl (g.2.1 0, 64, .inl G)), (st, .inl (g.2.1 0, 8, .inl T)), (k, .inr (3, [.int fr, .int un, .ref kb, .int (nI nz), .int (nI 1)])), (kb, .inl (g.2.1 1, 32, .inl f)), (lt, .inl (g.2.1 0, 16, .inl fl))] := hD
  refine lv_aload_n hx hb dX4_make_107 rfl (lv_at hl 2 rfl) ?_
  refine lv_lload hx hb dX4_make_108 (lv_at hl 0 rfl) ?_
  refine lv_aload_n hx hb dX4_make_110 rfl (lv_at hl 2 rfl) ?_
  refine va_get (D := g.1) (ci := 5) (v := .ref dg) (C := RX4) (T := TX4) (N := 10) hx hb hts hiX4 hown hK.1 hP 0 rfl rfl 9 (by decide) (hts (.fieldLink RX4 36 "StampMaker" "latestDigest" "LStampMaker$Digest;") (by decide +kernel)) (fun _ h9 => h9) rfl dX4_make_111 ?_
  refine cVi (rest := [.long (lN (pkN i kd v d mn)), .ref s0]) ⟨hx, hb, hml, hown, hts⟩ [] (c_X0_first25Bits l g (dg := dg) (wa := wa) (st := st) (rk := (nI 1)) (fs := T)) (cwV 0 hts gX4_make_X0_first25Bits rfl rfl rfl (by decide +kernel) ⟨Nat.le_of_ble_eq_true rfl, Nat.le_of_ble_eq_true rfl⟩) hK hZ hS (subP hP [2, 4] rfl) (va_recv hK.1 hP (ci := 2) (q0 := 2) rfl rfl) rfl hl.1 rfl (Nat.le_of_ble_eq_true rfl) dX4_make_114 ⟨Nat.zero_le _, Nat.zero_le _⟩ (fun r_116 hr_116 => ?_)
  obtain rfl : r_116 = (fB (T 0)) := hr_116
  refine lv_rei (x' := (nI (sN f nz (pkN i kd v d mn)))) (by rw [hz1 0 (by decide), fB_n]; rfl) ?_
  refine wVv (rest := []) ⟨hx, hb, hml, hown, hts⟩ [.long (lN (pkN i kd v d mn)), .int (nI (sN f nz (pkN i kd v d mn)))] [0, 7] (c_X4_writeLetters l g H.size (s0 := s0) (ks := ks) (lt := lt) (ty := ty) (lg := lg) (dg := dg) (kn := kn) (mn := mn + 1) (tn := tn) (cc := cc) (sp := sp) (fl := fl) (N := (pkN i kd v d mn)) (S := (sN f nz (pkN i kd v d mn))) hN (sN_lt _ _ _)) (cwV 2 hts gX4_make_X4_writeLetters rfl rfl rfl (by decide +kernel) ⟨Nat.le_of_ble_eq_true rfl, Nat.le_of_ble_eq_true rfl⟩) hK hZ hS hP hD hA rfl (by decide) (fun _ => Nat.le_of_ble_eq_true rfl) (fun _ => rfl) (va_recv hK.1 hP (ci := 5) (q0 := 0) rfl rfl) rfl hl.1 rfl (Nat.le_of_ble_eq_true rfl) dX4_make_117 ⟨Nat.le_of_ble_eq_true rfl, Nat.le_of_ble_eq_true rfl⟩ (fun u H locs hz2 hP hD hS => ?_)
  obtain ⟨F2, rfl⟩ : ∃ z, z = u := ⟨_, rfl⟩
  have hP : va_P g.1 vwCl [(s0, .inr (5, [.ref ks, .int (nI kn), .int (nI (mn + 1)), .ref lt, .ref ty, .int (nI tn), .int cc, .int sp, .ref lg, .ref dg])), (ks, .inl (g.2.1 4, 15, .inr (.inr (.inr (.inr fk))))), (dg, .inr (2, [.ref wa, .ref st, .int (nI 1)])), (wa, .inl (g.2.1 0, 64, .inl G)), (st, .inl (g.2.1 0, 8, .inl T)), (k, .inr (3, [.int fr, .int un, .ref kb, .int (nI nz), .int (nI 1)])), (kb, .inl (g.2.1 1, 32, .inl f)), (lt, .inl (g.2.1 0, 16, .inl F2))] H := hP
  have hD : va_D A [(s0, .inr (5, [.ref ks, .int (nI kn), .int (nI (mn + 1)), .ref lt, .ref ty, .int (nI tn), .int cc, .int sp, .ref lg, .ref dg])), (ks, .inl (g.2.1 4, 15, .inr (.inr (.inr (.inr fk))))), (dg, .inr (2, [.ref wa, .ref st, .int (nI 1)])), (wa, .inl (g.2.1 0, 64, .inl G)), (st, .inl (g.2.1 0, 8, .inl T)), (k, .inr (3, [.int fr, .int un, .ref kb, .int (nI nz), .int (nI 1)])), (kb, .inl (g.2.1 1, 32, .inl f)), (lt, .inl (g.2.1 0, 16, .inl F2))] := hD
  refine lv_bipush (v := (nI 16)) hx hb dX4_make_120 (by decide) ?_
  exact endWi (G, T, F2) hx hb hr hlocks hS dX4_make_122 hP hD (⟨rfl, hz1, hz2⟩)
