/-- a number's first 25 bits -/
def fB (x : Int32) : Int32 := (x.toUInt32 >>> ((nI 7).toUInt32 &&& Int32.toUInt32 31)).toInt32
/-- eight bits of a number, as a byte -/
def oB (x : Int32) (n : Nat) : Int32 := ((x.toUInt32 >>> ((nI n).toUInt32 &&& Int32.toUInt32 31)).toInt32).toInt8.toInt32
theorem rn_0 (W : Nat → Int32) (t : Nat) : rU (sK t) (W t) (rN W t) + rV (rN W t) = rN W (t + 1) 0 := rfl
theorem rn_4 (W : Nat → Int32) (t : Nat) : rN W t 3 + rU (sK t) (W t) (rN W t) = rN W (t + 1) 4 := rfl
theorem rn_1 (W : Nat → Int32) (t : Nat) : rN W t 0 = rN W (t + 1) 1 := rfl
theorem rn_2 (W : Nat → Int32) (t : Nat) : rN W t 1 = rN W (t + 1) 2 := rfl
theorem rn_3 (W : Nat → Int32) (t : Nat) : rN W t 2 = rN W (t + 1) 3 := rfl
theorem rn_5 (W : Nat → Int32) (t : Nat) : rN W t 4 = rN W (t + 1) 5 := rfl
theorem rn_6 (W : Nat → Int32) (t : Nat) : rN W t 5 = rN W (t + 1) 6 := rfl
theorem rn_7 (W : Nat → Int32) (t : Nat) : rN W t 6 = rN W (t + 1) 7 := rfl
theorem accS {F fs G : Nat → Int32} {k : Nat} {x : Int32} (h : ∀ j, j < 8 → F j = if j < k then G j else fs j) (hx : x = G k) : ∀ j, j < 8 → upd F k x j = if j < k + 1 then G j else fs j := by
  intro j hj
  unfold upd
  by_cases e : j = k
  · subst e
    rw [if_pos rfl, if_pos (by omega), hx]
  · rw [if_neg e, h j hj]
    by_cases q : j < k
    · rw [if_pos q, if_pos (by omega)]
    · rw [if_neg q, if_neg (by omega)]
theorem fillS {F G : Nat → Int32} {k : Nat} {x : Int32} (h : ∀ j, j < k → F j = G j) (hx : x = G k) : ∀ j, j < k + 1 → upd F k x j = G j := by
  intro j hj
  unfold upd
  by_cases e : j = k
  · subst e
    rw [if_pos rfl, hx]
  · rw [if_neg e]
    exact h j (by omega)
set_option maxHeartbeats 4000000 in
set_option maxRecDepth 100000 in
/-- byte a of the block -/
theorem c_X0_blockByte (l : Launch) (g : gE) (k kb : Nat) (fr un cl : Int32) (f : Nat → Int32) (sz N : Nat) (a : Nat) (hz : sz ≤ 32) (hN : N < 36028797018963968) (ha : a < 56) : Met l yX0_blockByte wsX0_blockByte ({ frames := 1, cells := 0, slots := 0, locals := 21 }) (va_Pc [.ref k, .long (lN N), .int (nI a)] (ro g [(k, .inr (3, [.int fr, .int un, .ref kb, .int (nI sz), .int cl])), (kb, .inl (g.2.1 1, 32, .inl f))])) (vp_Si (fun r : Int32 => r = nI (mb f sz N a))) 0 0 nA := by
  refine ofRo (cc := cX0_blockByte) (maxL := 5) (ret := (some .int)) (by decide) rfl (Nat.le_of_ble_eq_true rfl) (fun p e s m below meth c hx hb hr hml hts hown hlocks hnm hP hK hZ hS ls hl => ?_)
  have hown : s.vm.findClass RX0 = some m.cls := hown
  have hl : lv_has ls 5 [(0, .ref k), (1, .long (lN N)), (3, .int (nI a))] := hl
  refine lv_iload_n hx hb dX0_blockByte_0 rfl (lv_at hl 2 rfl) ?_
  refine lv_aload_n hx hb dX0_blockByte_1 rfl (lv_at hl 0 rfl) ?_
  refine cVi (rest := [.int (nI a)]) ⟨hx, hb, hml, hown, hts⟩ [] (c_X2_size l g (k := k) (kb := kb) (fr := fr) (un := un) (cn := (nI sz)) (cl := cl)) (cwV 0 hts gX0_blockByte_X2_size rfl rfl rfl (by decide +kernel) ⟨Nat.le_of_ble_eq_true rfl, Nat.le_of_ble_eq_true rfl⟩) hK hZ hS (subP hP [0] rfl) (va_recv hK.1 hP (ci := 3) (q0 := 0) rfl rfl) rfl hl.1 rfl (Nat.le_of_ble_eq_true rfl) dX0_blockByte_2 ⟨Nat.zero_le _, Nat.zero_le _⟩ (fun r_28 hr_28 => ?_)
  obtain rfl : r_28 = (nI sz) := hr_28
  rcases Nat.lt_or_ge a sz with q | q
  · refine lv_isub hx hb dX0_blockByte_5 ?_
    refine lv_istore (lv' := [(4, .int ((nI a) - (nI sz))), (0, .ref k), (1, .long (lN N)), (3, .int (nI a))]) hx hb dX0_blockByte_6 hl (by decide) rfl (fun ls hl => ?_)
    refine lv_iload hx hb dX0_blockByte_8 (lv_at hl 0 rfl) ?_
    refine lv_if_ge (tgt := 19) hx hb dX0_blockByte_10 (by decide) (fun c9 => absurd c9 (nle0 (pk_sneg (by omega) q))) (fun _ => ?_)
    refine lv_aload_n hx hb dX0_blockByte_13 rfl (lv_at hl 1 rfl) ?_
    refine lv_iload_n hx hb dX0_blockByte_14 rfl (lv_at hl 3 rfl) ?_
    refine cVi (rest := []) ⟨hx, hb, hml, hown, hts⟩ [.int (nI a)] (c_X2_octetAt l g (k := k) (kb := kb) (fr := fr) (un := un) (cn := (nI sz)) (cl := cl) (f := f) (i := a) (by omega)) (cwV 1 hts gX0_blockByte_X2_octetAt rfl rfl rfl (by decide +kernel) ⟨Nat.le_of_ble_eq_true rfl, Nat.le_of_ble_eq_true rfl⟩) hK hZ hS (subP hP [0, 1] rfl) (va_recv hK.1 hP (ci := 3) (q0 := 0) rfl rfl) rfl hl.1 rfl (Nat.le_of_ble_eq_true rfl) dX0_blockByte_15 ⟨Nat.zero_le _, Nat.zero_le _⟩ (fun r_29 hr_29 => ?_)
    obtain rfl : r_29 = (f a &&& nI 255) := hr_29
    exact endRi hx hb hr hlocks dX0_blockByte_18 (by rw [and255]; unfold mb; rw [if_pos q])
  · refine lv_isub hx hb dX0_blockByte_5 ?_
    refine lv_rei (x' := (nI (a - sz))) (pk_sub q) ?_
    refine lv_istore (lv' := [(4, .int (nI (a - sz))), (0, .ref k), (1, .long (lN N)), (3, .int (nI a))]) hx hb dX0_blockByte_6 hl (by decide) rfl (fun ls hl => ?_)
    refine lv_iload hx hb dX0_blockByte_8 (lv_at hl 0 rfl) ?_
    refine lv_if_ge (tgt := 19) hx hb dX0_blockByte_10 (by decide) (fun _ => ?_) (fun c9 => absurd (nI_pos' (by omega)) c9)
    refine lv_iload hx hb dX0_blockByte_19 (lv_at hl 0 rfl) ?_
    refine lv_bipush (v := (nI 7)) hx hb dX0_blockByte_21 (by decide) ?_
    rcases Nat.lt_or_ge (a - sz) 7 with q2 | q2
    · refine lv_icmp_ge (tgt := 44) hx hb dX0_blockByte_23 (by decide) (fun c9 => absurd c9 (nI_ge q2 (by omega))) (fun _ => ?_)
      refine lv_lload_n hx hb dX0_blockByte_26 rfl (lv_at hl 2 rfl) ?_
      refine lv_iconst (v := (nI 1)) hx hb dX0_blockByte_27 (by decide) ?_
      refine lv_lshl hx hb dX0_blockByte_28 rfl ?_
      refine lv_bipush (v := (nI 48)) hx hb dX0_blockByte_29 (by decide) ?_
      refine lv_bipush (v := (nI 8)) hx hb dX0_blockByte_31 (by decide) ?_
      refine lv_iload hx hb dX0_blockByte_33 (lv_at hl 0 rfl) ?_
      refine lv_imul hx hb dX0_blockByte_35 ?_
      refine lv_rei (x' := (nI (8 * (a - sz)))) (pk_mul _ _) ?_
      refine lv_isub hx hb dX0_blockByte_36 ?_
      refine lv_rei (x' := (nI (48 - 8 * (a - sz)))) (pk_sub (by omega)) ?_
      refine lv_lushr hx hb dX0_blockByte_37 rfl ?_
      refine lv_l2i hx hb dX0_blockByte_38 rfl ?_
      refine lv_sipush (v := (nI 255)) hx hb dX0_blockByte_39 (by decide) ?_
      refine lv_iand hx hb dX0_blockByte_42 ?_
      exact endRi hx hb hr hlocks dX0_blockByte_43 (by rw [cutB hN q2]; unfold mb; rw [if_neg (by omega), if_pos q2])
    · refine lv_icmp_ge (tgt := 44) hx hb dX0_blockByte_23 (by decide) (fun _ => ?_) (fun c9 => absurd (nI_le q2 (by omega)) c9)
      refine lv_iload hx hb dX0_blockByte_44 (lv_at hl 0 rfl) ?_
      refine lv_bipush (v := (nI 7)) hx hb dX0_blockByte_46 (by decide) ?_
      by_cases q3 : a - sz = 7
      · refine lv_icmp_ne (tgt := 57) hx hb dX0_blockByte_48 (by decide) (fun c9 => absurd (by rw [q3]) c9) (fun _ => ?_)
        refine lv_sipush (v := (nI 128)) hx hb dX0_blockByte_51 (by decide) ?_
        refine lv_goto (tgt := 58) hx hb dX0_blockByte_54 (by decide) ?_
        exact endRi hx hb hr hlocks dX0_blockByte_58 (by unfold mb; rw [if_neg (by omega), if_neg (by omega), if_pos q3])
      · refine lv_icmp_ne (tgt := 57) hx hb dX0_blockByte_48 (by decide) (fun _ => ?_) (fun c9 => absurd c9 (fun z => q3 ((nI_eq (by omega) (by omega)).mp z)))
        refine lv_iconst (v := (nI 0)) hx hb dX0_blockByte_57 (by decide) ?_
        exact endRi hx hb hr hlocks dX0_blockByte_58 (by unfold mb; rw [if_neg (by omega), if_neg (by omega), if_neg q3])

set_option maxHeartbeats 4000000 in
set_option maxRecDepth 100000 in
/-- word t of the block -/
theorem c_X0_numberOf (l : Launch) (g : gE) (k kb : Nat) (fr un cl : Int32) (f : Nat → Int32) (sz N : Nat) (t : Nat) (hz : sz ≤ 32) (hN : N < 36028797018963968) (ht : t < 14) : Met l yX0_numberOf wsX0_numberOf ({ frames := 2, cells := 0, slots := 0, locals := 45 }) (va_Pc [.ref k, .long (lN N), .int (nI (4 * t))] (ro g [(k, .inr (3, [.int fr, .int un, .ref kb, .int (nI sz), .int cl])), (kb, .inl (g.2.1 1, 32, .inl f))])) (vp_Si (fun r : Int32 => r = nI (m4 f sz N t))) 0 0 nA := by
  refine ofRo (cc := cX0_numberOf) (maxL := 6) (ret := (some .int)) (by decide) rfl (Nat.le_of_ble_eq_true rfl) (fun p e s m below meth c hx hb hr hml hts hown hlocks hnm hP hK hZ hS ls hl => ?_)
  have hown : s.vm.findClass RX0 = some m.cls := hown
  have hl : lv_has ls 6 [(0, .ref k), (1, .long (lN N)), (3, .int (nI (4 * t)))] := hl
  have g0 := mb_lt f sz N (4 * t)
  have g1 := mb_lt f sz N (4 * t + 1)
  have g2 := mb_lt f sz N (4 * t + 2)
  have g3 := mb_lt f sz N (4 * t + 3)
  refine lv_iconst (v := (nI 0)) hx hb dX0_numberOf_0 (by decide) ?_
  refine lv_istore (lv' := [(4, .int (nI 0)), (0, .ref k), (1, .long (lN N)), (3, .int (nI (4 * t)))]) hx hb dX0_numberOf_1 hl (by decide) rfl (fun ls hl => ?_)
  refine lv_iload_n hx hb dX0_numberOf_3 rfl (lv_at hl 3 rfl) ?_
  refine lv_istore (lv' := [(5, .int (nI (4 * t))), (4, .int (nI 0)), (0, .ref k), (1, .long (lN N)), (3, .int (nI (4 * t)))]) hx hb dX0_numberOf_4 hl (by decide) rfl (fun ls hl => ?_)
  refine lv_iload hx hb dX0_numberOf_6 (lv_at hl 0 rfl) ?_
  refine lv_iload_n hx hb dX0_numberOf_8 rfl (lv_at hl 4 rfl) ?_
  refine lv_iconst (v := (nI 4)) hx hb dX0_numberOf_9 (by decide) ?_
  refine lv_iadd hx hb dX0_numberOf_10 ?_
  refine lv_rei (x' := (nI (4 * t + 4))) (nI_add _ _) ?_
  refine lv_icmp_ge (tgt := 35) hx hb dX0_numberOf_11 (by decide) (fun c9 => absurd c9 (nI_ge (by omega) (by omega))) (fun _ => ?_)
  refine lv_iload hx hb dX0_numberOf_14 (lv_at hl 1 rfl) ?_
  refine lv_bipush (v := (nI 8)) hx hb dX0_numberOf_16 (by decide) ?_
  refine lv_ishl hx hb dX0_numberOf_18 ?_
  refine lv_aload_n hx hb dX0_numberOf_19 rfl (lv_at hl 2 rfl) ?_
  refine lv_lload_n hx hb dX0_numberOf_20 rfl (lv_at hl 3 rfl) ?_
  refine lv_iload hx hb dX0_numberOf_21 (lv_at hl 0 rfl) ?_
  refine cSi (rest := [.int ((nI 0) <<< ((nI 8) &&& 31))]) ⟨hx, hb, hml, hown, hts⟩ [.ref k, .long (lN N), .int (nI (4 * t))] (c_X0_blockByte l g (k := k) (kb := kb) (fr := fr) (un := un) (cl := cl) (f := f) (sz := sz) (N := N) (a := (4 * t)) hz hN (by omega)) (va_cwS 3 hts gX0_numberOf_X0_blockByte rfl rfl rfl (by decide +kernel) ⟨Nat.le_of_ble_eq_true rfl, Nat.le_of_ble_eq_true rfl⟩) hK hZ hS (subP hP [0, 1] rfl) rfl hl.1 rfl (Nat.le_of_ble_eq_true rfl) dX0_numberOf_23 ⟨Nat.zero_le _, Nat.zero_le _⟩ (fun r_30 hr_30 => ?_)
  obtain rfl : r_30 = (nI (mb f sz N (4 * t))) := hr_30
  refine lv_ior hx hb dX0_numberOf_26 ?_
  refine lv_rei (x' := (nI (mb f sz N (4 * t)))) (by rw [shl8or (by omega) (by omega)]; rw [Nat.zero_mul, Nat.zero_add]) ?_
  refine lv_istore (lv' := [(4, .int (nI (mb f sz N (4 * t)))), (5, .int (nI (4 * t))), (0, .ref k), (1, .long (lN N)), (3, .int (nI (4 * t)))]) hx hb dX0_numberOf_27 hl (by decide) rfl (fun ls hl => ?_)
  refine lv_iinc (v := (nI (4 * t + 1))) (lv' := [(5, .int (nI (4 * t + 1))), (4, .int (nI (mb f sz N (4 * t)))), (0, .ref k), (1, .long (lN N)), (3, .int (nI (4 * t)))]) hx hb dX0_numberOf_29 hl (k := 1) rfl (nI_1 _) (by decide) rfl (fun ls hl => ?_)
  refine lv_goto (tgt := 6) hx hb dX0_numberOf_32 (by decide) ?_
  refine lv_iload hx hb dX0_numberOf_6 (lv_at hl 0 rfl) ?_
  refine lv_iload_n hx hb dX0_numberOf_8 rfl (lv_at hl 4 rfl) ?_
  refine lv_iconst (v := (nI 4)) hx hb dX0_numberOf_9 (by decide) ?_
  refine lv_iadd hx hb dX0_numberOf_10 ?_
  refine lv_rei (x' := (nI (4 * t + 4))) (nI_add _ _) ?_
  refine lv_icmp_ge (tgt := 35) hx hb dX0_numberOf_11 (by decide) (fun c9 => absurd c9 (nI_ge (by omega) (by omega))) (fun _ => ?_)
  refine lv_iload hx hb dX0_numberOf_14 (lv_at hl 1 rfl) ?_
  refine lv_bipush (v := (nI 8)) hx hb dX0_numberOf_16 (by decide) ?_
  refine lv_ishl hx hb dX0_numberOf_18 ?_
  refine lv_aload_n hx hb dX0_numberOf_19 rfl (lv_at hl 2 rfl) ?_
  refine lv_lload_n hx hb dX0_numberOf_20 rfl (lv_at hl 3 rfl) ?_
  refine lv_iload hx hb dX0_numberOf_21 (lv_at hl 0 rfl) ?_
  refine cSi (rest := [.int ((nI (mb f sz N (4 * t))) <<< ((nI 8) &&& 31))]) ⟨hx, hb, hml, hown, hts⟩ [.ref k, .long (lN N), .int (nI (4 * t + 1))] (c_X0_blockByte l g (k := k) (kb := kb) (fr := fr) (un := un) (cl := cl) (f := f) (sz := sz) (N := N) (a := (4 * t + 1)) hz hN (by omega)) (va_cwS 3 hts gX0_numberOf_X0_blockByte rfl rfl rfl (by decide +kernel) ⟨Nat.le_of_ble_eq_true rfl, Nat.le_of_ble_eq_true rfl⟩) hK hZ hS (subP hP [0, 1] rfl) rfl hl.1 rfl (Nat.le_of_ble_eq_true rfl) dX0_numberOf_23 ⟨Nat.zero_le _, Nat.zero_le _⟩ (fun r_31 hr_31 => ?_)
  obtain rfl : r_31 = (nI (mb f sz N (4 * t + 1))) := hr_31
  refine lv_ior hx hb dX0_numberOf_26 ?_
  refine lv_rei (x' := (nI ((mb f sz N (4 * t)) * 256 + mb f sz N (4 * t + 1)))) (by rw [shl8or (by omega) (by omega)]) ?_
  refine lv_istore (lv' := [(4, .int (nI ((mb f sz N (4 * t)) * 256 + mb f sz N (4 * t + 1)))), (5, .int (nI (4 * t + 1))), (0, .ref k), (1, .long (lN N)), (3, .int (nI (4 * t)))]) hx hb dX0_numberOf_27 hl (by decide) rfl (fun ls hl => ?_)
  refine lv_iinc (v := (nI (4 * t + 2))) (lv' := [(5, .int (nI (4 * t + 2))), (4, .int (nI ((mb f sz N (4 * t)) * 256 + mb f sz N (4 * t + 1)))), (0, .ref k), (1, .long (lN N)), (3, .int (nI (4 * t)))]) hx hb dX0_numberOf_29 hl (k := 1) rfl (nI_1 _) (by decide) rfl (fun ls hl => ?_)
  refine lv_goto (tgt := 6) hx hb dX0_numberOf_32 (by decide) ?_
  refine lv_iload hx hb dX0_numberOf_6 (lv_at hl 0 rfl) ?_
  refine lv_iload_n hx hb dX0_numberOf_8 rfl (lv_at hl 4 rfl) ?_
  refine lv_iconst (v := (nI 4)) hx hb dX0_numberOf_9 (by decide) ?_
  refine lv_iadd hx hb dX0_numberOf_10 ?_
  refine lv_rei (x' := (nI (4 * t + 4))) (nI_add _ _) ?_
  refine lv_icmp_ge (tgt := 35) hx hb dX0_numberOf_11 (by decide) (fun c9 => absurd c9 (nI_ge (by omega) (by omega))) (fun _ => ?_)
  refine lv_iload hx hb dX0_numberOf_14 (lv_at hl 1 rfl) ?_
  refine lv_bipush (v := (nI 8)) hx hb dX0_numberOf_16 (by decide) ?_
  refine lv_ishl hx hb dX0_numberOf_18 ?_
  refine lv_aload_n hx hb dX0_numberOf_19 rfl (lv_at hl 2 rfl) ?_
  refine lv_lload_n hx hb dX0_numberOf_20 rfl (lv_at hl 3 rfl) ?_
  refine lv_iload hx hb dX0_numberOf_21 (lv_at hl 0 rfl) ?_
  refine cSi (rest := [.int ((nI ((mb f sz N (4 * t)) * 256 + mb f sz N (4 * t + 1))) <<< ((nI 8) &&& 31))]) ⟨hx, hb, hml, hown, hts⟩ [.ref k, .long (lN N), .int (nI (4 * t + 2))] (c_X0_blockByte l g (k := k) (kb := kb) (fr := fr) (un := un) (cl := cl) (f := f) (sz := sz) (N := N) (a := (4 * t + 2)) hz hN (by omega)) (va_cwS 3 hts gX0_numberOf_X0_blockByte rfl rfl rfl (by decide +kernel) ⟨Nat.le_of_ble_eq_true rfl, Nat.le_of_ble_eq_true rfl⟩) hK hZ hS (subP hP [0, 1] rfl) rfl hl.1 rfl (Nat.le_of_ble_eq_true rfl) dX0_numberOf_23 ⟨Nat.zero_le _, Nat.zero_le _⟩ (fun r_32 hr_32 => ?_)
  obtain rfl : r_32 = (nI (mb f sz N (4 * t + 2))) := hr_32
  refine lv_ior hx hb dX0_numberOf_26 ?_
  refine lv_rei (x' := (nI (((mb f sz N (4 * t)) * 256 + mb f sz N (4 * t + 1)) * 256 + mb f sz N (4 * t + 2)))) (by rw [shl8or (by omega) (by omega)]) ?_
  refine lv_istore (lv' := [(4, .int (nI (((mb f sz N (4 * t)) * 256 + mb f sz N (4 * t + 1)) * 256 + mb f sz N (4 * t + 2)))), (5, .int (nI (4 * t + 2))), (0, .ref k), (1, .long (lN N)), (3, .int (nI (4 * t)))]) hx hb dX0_numberOf_27 hl (by decide) rfl (fun ls hl => ?_)
  refine lv_iinc (v := (nI (4 * t + 3))) (lv' := [(5, .int (nI (4 * t + 3))), (4, .int (nI (((mb f sz N (4 * t)) * 256 + mb f sz N (4 * t + 1)) * 256 + mb f sz N (4 * t + 2)))), (0, .ref k), (1, .long (lN N)), (3, .int (nI (4 * t)))]) hx hb dX0_numberOf_29 hl (k := 1) rfl (nI_1 _) (by decide) rfl (fun ls hl => ?_)
  refine lv_goto (tgt := 6) hx hb dX0_numberOf_32 (by decide) ?_
  refine lv_iload hx hb dX0_numberOf_6 (lv_at hl 0 rfl) ?_
  refine lv_iload_n hx hb dX0_numberOf_8 rfl (lv_at hl 4 rfl) ?_
  refine lv_iconst (v := (nI 4)) hx hb dX0_numberOf_9 (by decide) ?_
  refine lv_iadd hx hb dX0_numberOf_10 ?_
  refine lv_rei (x' := (nI (4 * t + 4))) (nI_add _ _) ?_
  refine lv_icmp_ge (tgt := 35) hx hb dX0_numberOf_11 (by decide) (fun c9 => absurd c9 (nI_ge (by omega) (by omega))) (fun _ => ?_)
  refine lv_iload hx hb dX0_numberOf_14 (lv_at hl 1 rfl) ?_
  refine lv_bipush (v := (nI 8)) hx hb dX0_numberOf_16 (by decide) ?_
  refine lv_ishl hx hb dX0_numberOf_18 ?_
  refine lv_aload_n hx hb dX0_numberOf_19 rfl (lv_at hl 2 rfl) ?_
  refine lv_lload_n hx hb dX0_numberOf_20 rfl (lv_at hl 3 rfl) ?_
  refine lv_iload hx hb dX0_numberOf_21 (lv_at hl 0 rfl) ?_
  refine cSi (rest := [.int ((nI (((mb f sz N (4 * t)) * 256 + mb f sz N (4 * t + 1)) * 256 + mb f sz N (4 * t + 2))) <<< ((nI 8) &&& 31))]) ⟨hx, hb, hml, hown, hts⟩ [.ref k, .long (lN N), .int (nI (4 * t + 3))] (c_X0_blockByte l g (k := k) (kb := kb) (fr := fr) (un := un) (cl := cl) (f := f) (sz := sz) (N := N) (a := (4 * t + 3)) hz hN (by omega)) (va_cwS 3 hts gX0_numberOf_X0_blockByte rfl rfl rfl (by decide +kernel) ⟨Nat.le_of_ble_eq_true rfl, Nat.le_of_ble_eq_true rfl⟩) hK hZ hS (subP hP [0, 1] rfl) rfl hl.1 rfl (Nat.le_of_ble_eq_true rfl) dX0_numberOf_23 ⟨Nat.zero_le _, Nat.zero_le _⟩ (fun r_33 hr_33 => ?_)
  obtain rfl : r_33 = (nI (mb f sz N (4 * t + 3))) := hr_33
  refine lv_ior hx hb dX0_numberOf_26 ?_
  refine lv_rei (x' := (nI ((((mb f sz N (4 * t)) * 256 + mb f sz N (4 * t + 1)) * 256 + mb f sz N (4 * t + 2)) * 256 + mb f sz N (4 * t + 3)))) (by rw [shl8or (by omega) (by omega)]) ?_
  refine lv_istore (lv' := [(4, .int (nI ((((mb f sz N (4 * t)) * 256 + mb f sz N (4 * t + 1)) * 256 + mb f sz N (4 * t + 2)) * 256 + mb f sz N (4 * t + 3)))), (5, .int (nI (4 * t + 3))), (0, .ref k), (1, .long (lN N)), (3, .int (nI (4 * t)))]) hx hb dX0_numberOf_27 hl (by decide) rfl (fun ls hl => ?_)
  refine lv_iinc (v := (nI (4 * t + 4))) (lv' := [(5, .int (nI (4 * t + 4))), (4, .int (nI ((((mb f sz N (4 * t)) * 256 + mb f sz N (4 * t + 1)) * 256 + mb f sz N (4 * t + 2)) * 256 + mb f sz N (4 * t + 3)))), (0, .ref k), (1, .long (lN N)), (3, .int (nI (4 * t)))]) hx hb dX0_numberOf_29 hl (k := 1) rfl (nI_1 _) (by decide) rfl (fun ls hl => ?_)
  refine lv_goto (tgt := 6) hx hb dX0_numberOf_32 (by decide) ?_
  refine lv_iload hx hb dX0_numberOf_6 (lv_at hl 0 rfl) ?_
  refine lv_iload_n hx hb dX0_numberOf_8 rfl (lv_at hl 4 rfl) ?_
  refine lv_iconst (v := (nI 4)) hx hb dX0_numberOf_9 (by decide) ?_
  refine lv_iadd hx hb dX0_numberOf_10 ?_
  refine lv_rei (x' := (nI (4 * t + 4))) (nI_add _ _) ?_
  refine lv_icmp_ge (tgt := 35) hx hb dX0_numberOf_11 (by decide) (fun _ => ?_) (fun c9 => absurd (nI_le (Nat.le_refl _) (by omega)) c9)
  refine lv_iload hx hb dX0_numberOf_35 (lv_at hl 1 rfl) ?_
  exact endRi hx hb hr hlocks dX0_numberOf_37 (rfl)

set_option maxHeartbeats 4000000 in
set_option maxRecDepth 100000 in
/-- the words stretched -/
theorem c_X0_stretch (l : Launch) (g : gE) (hsz : Nat) (dg wa st : Nat) (rk : Int32) (f : Nat → Int32)  : Met l yX0_stretch wsX0_stretch ({ frames := 1, cells := 0, slots := 0, locals := 21 }) (va_Pc [.ref dg] (wr g [(dg, .inr (2, [.ref wa, .ref st, .int rk])), (wa, .inl (g.2.1 0, 64, .inl f))] hsz)) (va_Qv (fun (u : (Nat → Int32)) => ∀ j, j < 64 → u j = wF f 48 j) (wB g (va_A [(dg, .inr (2, [.ref wa, .ref st, .int rk])), (wa, .inl (g.2.1 0, 64, .inl f))] hsz) (fun u : (Nat → Int32) => [(dg, .inr (2, [.ref wa, .ref st, .int rk])), (wa, .inl (g.2.1 0, 64, .inl u))])) (va_A [(dg, .inr (2, [.ref wa, .ref st, .int rk])), (wa, .inl (g.2.1 0, 64, .inl f))] hsz)) 0 0 (va_A [(dg, .inr (2, [.ref wa, .ref st, .int rk])), (wa, .inl (g.2.1 0, 64, .inl f))] hsz) := by
  refine ofWv (cc := cX0_stretch) (maxL := 6) (ret := none) (by decide) rfl (Nat.le_of_ble_eq_true rfl) (fun p e s m below meth c hx hb hr hml hts hown hlocks hnm A H hH hA hP hD hK hZ hS ls hl => ?_)
  have hown : s.vm.findClass RX0 = some m.cls := hown
  have hl : lv_has ls 6 [(0, .ref dg)] := hl
  have hiX0 : ∀ w ∈ wsX00, w ∈ wsX0_stretch := by decide +kernel
  refine lv_bipush (v := (nI 16)) hx hb dX0_stretch_0 (by decide) ?_
  refine lv_istore_n (lv' := [(1, .int (nI 16)), (0, .ref dg)]) hx hb dX0_stretch_2 rfl hl (by decide) rfl (fun ls hl => ?_)
  have L1 : ∀ (fu : Nat) (n : Nat) (F : Nat → Int32), (49 ≤ n + fu) → (n ≤ 48) → (∀ j, j < 16 + n → F j = wF f n j) → ∀ (H : Heap) (locs : List Loc), va_P g.1 vwCl [(dg, .inr (2, [.ref wa, .ref st, .int rk])), (wa, .inl (g.2.1 0, 64, .inl F))] H → va_D A [(dg, .inr (2, [.ref wa, .ref st, .int rk])), (wa, .inl (g.2.1 0, 64, .inl F))] → va_S A s.heap H locs → ∀ ls : Array Slot, lv_has ls 6 [(0, .ref dg), (1, .int (nI (16 + n)))] → W p l e (headSpec wsX0_stretch ({ frames := 1, cells := 0, slots := 0, locals := 21 } : Room)).room s m ([.ref dg] : List Value).toArray below meth c H locs 0 0 (MQ below (va_Qv (fun (u : (Nat → Int32)) => ∀ j, j < 64 → u j = wF f 48 j) (wB g A (fun u : (Nat → Int32) => [(dg, .inr (2, [.ref wa, .ref st, .int rk])), (wa, .inl (g.2.1 0, 64, .inl u))])) A) ([.ref dg] : List Value).toArray s 0 0 A) (F0 m 3 ls []) := by
    intro fu
    induction fu with
    | zero => intro n F h1 h2 h3 H locs hP hD hS ls hl; exact absurd h1 (by omega)
    | succ fu ihL1 =>
      intro n F h1 h2 h3 H locs hP hD hS ls hl
      refine lv_iload_n hx hb dX0_stretch_3 rfl (lv_at hl 1 rfl) ?_
      refine lv_bipush (v := (nI 64)) hx hb dX0_stretch_4 (by decide) ?_
      rcases Nat.lt_or_ge n 48 with q | q
      · refine lv_icmp_ge (tgt := 106) hx hb dX0_stretch_6 (by decide) (fun c9 => absurd c9 (nI_ge (by omega) (by omega))) (fun _ => ?_)
        refine lv_aload_n hx hb dX0_stretch_9 rfl (lv_at hl 0 rfl) ?_
        refine va_get (D := g.1) (ci := 2) (v := .ref wa) (C := RX0) (T := TX0) (N := 3) hx hb hts hiX0 hown hK.1 hP 0 rfl rfl 0 (by decide) (hts (.fieldLink RX0 9 "StampMaker$Digest" "w" "[I") (by decide +kernel)) (fun _ h9 => h9) rfl dX0_stretch_10 ?_
        refine lv_iload_n hx hb dX0_stretch_13 rfl (lv_at hl 1 rfl) ?_
        refine lv_bipush (v := (nI 15)) hx hb dX0_stretch_14 (by decide) ?_
        refine lv_isub hx hb dX0_stretch_16 ?_
        refine lv_rei (x' := (nI (16 + n - 15))) (pk_sub (by omega)) ?_
        refine va_iald hx hb hK.1 hP 1 0 rfl rfl (vp_in_nI (by omega) (by omega)) dX0_stretch_17 ?_
        refine lv_rei (x' := F (16 + n - 15)) (congrArg F (nI_clamp (by omega))) ?_
        refine lv_istore_n (lv' := [(2, .int (F (16 + n - 15))), (0, .ref dg), (1, .int (nI (16 + n)))]) hx hb dX0_stretch_18 rfl hl (by decide) rfl (fun ls hl => ?_)
        refine lv_iload_n hx hb dX0_stretch_19 rfl (lv_at hl 0 rfl) ?_
        refine lv_bipush (v := (nI 7)) hx hb dX0_stretch_20 (by decide) ?_
        refine cSi (rest := []) ⟨hx, hb, hml, hown, hts⟩ [.int (F (16 + n - 15)), .int (nI 7)] (c_X0_ror l g (x := (F (16 + n - 15))) (n := (nI 7))) (va_cwS 2 hts gX0_stretch_X0_ror rfl rfl rfl (by decide +kernel) ⟨Nat.le_of_ble_eq_true rfl, Nat.le_of_ble_eq_true rfl⟩) hK hZ hS (subP hP [] rfl) rfl hl.1 rfl (Nat.le_of_ble_eq_true rfl) dX0_stretch_22 ⟨Nat.zero_le _, Nat.zero_le _⟩ (fun r_34 hr_34 => ?_)
        obtain rfl : r_34 = (rorE (F (16 + n - 15)) (nI 7)) := hr_34
        refine lv_iload_n hx hb dX0_stretch_25 rfl (lv_at hl 0 rfl) ?_
        refine lv_bipush (v := (nI 18)) hx hb dX0_stretch_26 (by decide) ?_
        refine cSi (rest := [.int (rorE (F (16 + n - 15)) (nI 7))]) ⟨hx, hb, hml, hown, hts⟩ [.int (F (16 + n - 15)), .int (nI 18)] (c_X0_ror l g (x := (F (16 + n - 15))) (n := (nI 18))) (va_cwS 2 hts gX0_stretch_X0_ror rfl rfl rfl (by decide +kernel) ⟨Nat.le_of_ble_eq_true rfl, Nat.le_of_ble_eq_true rfl⟩) hK hZ hS (subP hP [] rfl) rfl hl.1 rfl (Nat.le_of_ble_eq_true rfl) dX0_stretch_28 ⟨Nat.zero_le _, Nat.zero_le _⟩ (fun r_35 hr_35 => ?_)
        obtain rfl : r_35 = (rorE (F (16 + n - 15)) (nI 18)) := hr_35
        refine lv_ixor hx hb dX0_stretch_31 ?_
        refine lv_iload_n hx hb dX0_stretch_32 rfl (lv_at hl 0 rfl) ?_
        refine lv_iconst (v := (nI 3)) hx hb dX0_stretch_33 (by decide) ?_
        refine lv_iushr hx hb dX0_stretch_34 rfl ?_
        refine lv_ixor hx hb dX0_stretch_35 ?_
        refine lv_istore_n (lv' := [(3, .int (((rorE (F (16 + n - 15)) (nI 7)) ^^^ (rorE (F (16 + n - 15)) (nI 18))) ^^^ ((((F (16 + n - 15))).toUInt32 >>> (((nI 3)).toUInt32 &&& Int32.toUInt32 31)).toInt32))), (2, .int (F (16 + n - 15))), (0, .ref dg), (1, .int (nI (16 + n)))]) hx hb dX0_stretch_36 rfl hl (by decide) rfl (fun ls hl => ?_)
        refine lv_aload_n hx hb dX0_stretch_37 rfl (lv_at hl 2 rfl) ?_
        refine va_get (D := g.1) (ci := 2) (v := .ref wa) (C := RX0) (T := TX0) (N := 3) hx hb hts hiX0 hown hK.1 hP 0 rfl rfl 0 (by decide) (hts (.fieldLink RX0 9 "StampMaker$Digest" "w" "[I") (by decide +kernel)) (fun _ h9 => h9) rfl dX0_stretch_38 ?_
        refine lv_iload_n hx hb dX0_stretch_41 rfl (lv_at hl 3 rfl) ?_
        refine lv_iconst (v := (nI 2)) hx hb dX0_stretch_42 (by decide) ?_
        refine lv_isub hx hb dX0_stretch_43 ?_
        refine lv_rei (x' := (nI (16 + n - 2))) (pk_sub (by omega)) ?_
        refine va_iald hx hb hK.1 hP 1 0 rfl rfl (vp_in_nI (by omega) (by omega)) dX0_stretch_44 ?_
        refine lv_rei (x' := F (16 + n - 2)) (congrArg F (nI_clamp (by omega))) ?_
        refine lv_istore (lv' := [(4, .int (F (16 + n - 2))), (3, .int (((rorE (F (16 + n - 15)) (nI 7)) ^^^ (rorE (F (16 + n - 15)) (nI 18))) ^^^ ((((F (16 + n - 15))).toUInt32 >>> (((nI 3)).toUInt32 &&& Int32.toUInt32 31)).toInt32))), (2, .int (F (16 + n - 15))), (0, .ref dg), (1, .int (nI (16 + n)))]) hx hb dX0_stretch_45 hl (by decide) rfl (fun ls hl => ?_)
        refine lv_iload hx hb dX0_stretch_47 (lv_at hl 0 rfl) ?_
        refine lv_bipush (v := (nI 17)) hx hb dX0_stretch_49 (by decide) ?_
        refine cSi (rest := []) ⟨hx, hb, hml, hown, hts⟩ [.int (F (16 + n - 2)), .int (nI 17)] (c_X0_ror l g (x := (F (16 + n - 2))) (n := (nI 17))) (va_cwS 2 hts gX0_stretch_X0_ror rfl rfl rfl (by decide +kernel) ⟨Nat.le_of_ble_eq_true rfl, Nat.le_of_ble_eq_true rfl⟩) hK hZ hS (subP hP [] rfl) rfl hl.1 rfl (Nat.le_of_ble_eq_true rfl) dX0_stretch_51 ⟨Nat.zero_le _, Nat.zero_le _⟩ (fun r_36 hr_36 => ?_)
        obtain rfl : r_36 = (rorE (F (16 + n - 2)) (nI 17)) := hr_36
        refine lv_iload hx hb dX0_stretch_54 (lv_at hl 0 rfl) ?_
        refine lv_bipush (v := (nI 19)) hx hb dX0_stretch_56 (by decide) ?_
        refine cSi (rest := [.int (rorE (F (16 + n - 2)) (nI 17))]) ⟨hx, hb, hml, hown, hts⟩ [.int (F (16 + n - 2)), .int (nI 19)] (c_X0_ror l g (x := (F (16 + n - 2))) (n := (nI 19))) (va_cwS 2 hts gX0_stretch_X0_ror rfl rfl rfl (by decide +kernel) ⟨Nat.le_of_ble_eq_true rfl, Nat.le_of_ble_eq_true rfl⟩) hK hZ hS (subP hP [] rfl) rfl hl.1 rfl (Nat.le_of_ble_eq_true rfl) dX0_stretch_58 ⟨Nat.zero_le _, Nat.zero_le _⟩ (fun r_37 hr_37 => ?_)
        obtain rfl : r_37 = (rorE (F (16 + n - 2)) (nI 19)) := hr_37
        refine lv_ixor hx hb dX0_stretch_61 ?_
        refine lv_iload hx hb dX0_stretch_62 (lv_at hl 0 rfl) ?_
        refine lv_bipush (v := (nI 10)) hx hb dX0_stretch_64 (by decide) ?_
        refine lv_iushr hx hb dX0_stretch_66 rfl ?_
        refine lv_ixor hx hb dX0_stretch_67 ?_
        refine lv_istore (lv' := [(5, .int (((rorE (F (16 + n - 2)) (nI 17)) ^^^ (rorE (F (16 + n - 2)) (nI 19))) ^^^ ((((F (16 + n - 2))).toUInt32 >>> (((nI 10)).toUInt32 &&& Int32.toUInt32 31)).toInt32))), (4, .int (F (16 + n - 2))), (3, .int (((rorE (F (16 + n - 15)) (nI 7)) ^^^ (rorE (F (16 + n - 15)) (nI 18))) ^^^ ((((F (16 + n - 15))).toUInt32 >>> (((nI 3)).toUInt32 &&& Int32.toUInt32 31)).toInt32))), (2, .int (F (16 + n - 15))), (0, .ref dg), (1, .int (nI (16 + n)))]) hx hb dX0_stretch_68 hl (by decide) rfl (fun ls hl => ?_)
        refine lv_aload_n hx hb dX0_stretch_70 rfl (lv_at hl 4 rfl) ?_
        refine va_get (D := g.1) (ci := 2) (v := .ref wa) (C := RX0) (T := TX0) (N := 3) hx hb hts hiX0 hown hK.1 hP 0 rfl rfl 0 (by decide) (hts (.fieldLink RX0 9 "StampMaker$Digest" "w" "[I") (by decide +kernel)) (fun _ h9 => h9) rfl dX0_stretch_71 ?_
        refine lv_iload_n hx hb dX0_stretch_74 rfl (lv_at hl 5 rfl) ?_
        refine lv_aload_n hx hb dX0_stretch_75 rfl (lv_at hl 4 rfl) ?_
        refine va_get (D := g.1) (ci := 2) (v := .ref wa) (C := RX0) (T := TX0) (N := 3) hx hb hts hiX0 hown hK.1 hP 0 rfl rfl 0 (by decide) (hts (.fieldLink RX0 9 "StampMaker$Digest" "w" "[I") (by decide +kernel)) (fun _ h9 => h9) rfl dX0_stretch_76 ?_
        refine lv_iload_n hx hb dX0_stretch_79 rfl (lv_at hl 5 rfl) ?_
        refine lv_bipush (v := (nI 16)) hx hb dX0_stretch_80 (by decide) ?_
        refine lv_isub hx hb dX0_stretch_82 ?_
        refine lv_rei (x' := (nI (16 + n - 16))) (pk_sub (by omega)) ?_
        refine va_iald hx hb hK.1 hP 1 0 rfl rfl (vp_in_nI (by omega) (by omega)) dX0_stretch_83 ?_
        refine lv_rei (x' := F (16 + n - 16)) (congrArg F (nI_clamp (by omega))) ?_
        refine lv_iload_n hx hb dX0_stretch_84 rfl (lv_at hl 2 rfl) ?_
        refine lv_iadd hx hb dX0_stretch_85 ?_
        refine lv_aload_n hx hb dX0_stretch_86 rfl (lv_at hl 4 rfl) ?_
        refine va_get (D := g.1) (ci := 2) (v := .ref wa) (C := RX0) (T := TX0) (N := 3) hx hb hts hiX0 hown hK.1 hP 0 rfl rfl 0 (by decide) (hts (.fieldLink RX0 9 "StampMaker$Digest" "w" "[I") (by decide +kernel)) (fun _ h9 => h9) rfl dX0_stretch_87 ?_
        refine lv_iload_n hx hb dX0_stretch_90 rfl (lv_at hl 5 rfl) ?_
        refine lv_bipush (v := (nI 7)) hx hb dX0_stretch_91 (by decide) ?_
        refine lv_isub hx hb dX0_stretch_93 ?_
        refine lv_rei (x' := (nI (16 + n - 7))) (pk_sub (by omega)) ?_
        refine va_iald hx hb hK.1 hP 1 0 rfl rfl (vp_in_nI (by omega) (by omega)) dX0_stretch_94 ?_
        refine lv_rei (x' := F (16 + n - 7)) (congrArg F (nI_clamp (by omega))) ?_
        refine lv_iadd hx hb dX0_stretch_95 ?_
        refine lv_iload hx hb dX0_stretch_96 (lv_at hl 0 rfl) ?_
        refine lv_iadd hx hb dX0_stretch_98 ?_
        refine lv_rei (x' := (stE F (16 + n))) (rfl) ?_
        refine va_iast hx hb hK.1 hP hD hS 1 0 rfl rfl (vp_in_nI (by omega) (by omega)) dX0_stretch_99 (fun H locs hP hD hS => ?_)
        rw [nI_clamp (by omega)] at hP hD
        have hP : va_P g.1 vwCl [(dg, .inr (2, [.ref wa, .ref st, .int rk])), (wa, .inl (g.2.1 0, 64, .inl (upd F (16 + n) (stE F (16 + n)))))] H := hP
        have hD : va_D A [(dg, .inr (2, [.ref wa, .ref st, .int rk])), (wa, .inl (g.2.1 0, 64, .inl (upd F (16 + n) (stE F (16 + n)))))] := hD
        refine lv_iinc (v := (nI (16 + (n + 1)))) (lv' := [(1, .int (nI (16 + (n + 1)))), (5, .int (((rorE (F (16 + n - 2)) (nI 17)) ^^^ (rorE (F (16 + n - 2)) (nI 19))) ^^^ ((((F (16 + n - 2))).toUInt32 >>> (((nI 10)).toUInt32 &&& Int32.toUInt32 31)).toInt32))), (4, .int (F (16 + n - 2))), (3, .int (((rorE (F (16 + n - 15)) (nI 7)) ^^^ (rorE (F (16 + n - 15)) (nI 18))) ^^^ ((((F (16 + n - 15))).toUInt32 >>> (((nI 3)).toUInt32 &&& Int32.toUInt32 31)).toInt32))), (2, .int (F (16 + n - 15))), (0, .ref dg)]) hx hb dX0_stretch_100 hl (k := 5) rfl (nI_1 _) (by decide) rfl (fun ls hl => ?_)
        refine lv_goto (tgt := 3) hx hb dX0_stretch_103 (by decide) ?_
        exact ihL1 (n + 1) (upd F (16 + n) (stE F (16 + n))) (by omega) (by omega) (wF_step h3) _ _ hP hD hS ls (lv_sub hl [5, 0] rfl)
      · refine lv_icmp_ge (tgt := 106) hx hb dX0_stretch_6 (by decide) (fun _ => ?_) (fun c9 => absurd (nI_le (by omega) (by omega)) c9)
        exact endWv F hx hb hr hlocks hS dX0_stretch_106 hP hD (fun j hj => by rw [h3 j (by omega), show n = 48 by omega])
  exact L1 49 0 f (by omega) (by omega) (fun j _ => rfl) _ _ hP hD hS ls (lv_sub hl [1, 0] rfl)

set_option maxHeartbeats 4000000 in
set_option maxRecDepth 100000 in
/-- the rounds -/
theorem c_X0_mix (l : Launch) (g : gE) (hsz : Nat) (dg wa st : Nat) (rk : Int32) (fw fs : Nat → Int32) (h0 : ∀ j, j < 8 → fs j = sBeg j) : Met l yX0_mix wsX0_mix ({ frames := 1, cells := 0, slots := 0, locals := 21 }) (va_Pc [.ref dg] (wr g [(dg, .inr (2, [.ref wa, .ref st, .int rk])), (wa, .inl (g.2.1 0, 64, .inl fw)), (st, .inl (g.2.1 0, 8, .inl fs))] hsz)) (va_Qv (fun (u : (Nat → Int32)) => ∀ j, j < 8 → u j = sBeg j + rN fw 64 j) (wB g (va_A [(dg, .inr (2, [.ref wa, .ref st, .int rk])), (wa, .inl (g.2.1 0, 64, .inl fw)), (st, .inl (g.2.1 0, 8, .inl fs))] hsz) (fun u : (Nat → Int32) => [(dg, .inr (2, [.ref wa, .ref st, .int rk])), (wa, .inl (g.2.1 0, 64, .inl fw)), (st, .inl (g.2.1 0, 8, .inl u))])) (va_A [(dg, .inr (2, [.ref wa, .ref st, .int rk])), (wa, .inl (g.2.1 0, 64, .inl fw)), (st, .inl (g.2.1 0, 8, .inl fs))] hsz)) 0 0 (va_A [(dg, .inr (2, [.ref wa, .ref st, .int rk])), (wa, .inl (g.2.1 0, 64, .inl fw)), (st, .inl (g.2.1 0, 8, .inl fs))] hsz) := by
  refine ofWv (cc := cX0_mix) (maxL := 12) (ret := none) (by decide) rfl (Nat.le_of_ble_eq_true rfl) (fun p e s m below meth c hx hb hr hml hts hown hlocks hnm A H hH hA hP hD hK hZ hS ls hl => ?_)
  have hown : s.vm.findClass RX0 = some m.cls := hown
  have hl : lv_has ls 12 [(0, .ref dg)] := hl
  have hiX0 : ∀ w ∈ wsX00, w ∈ wsX0_mix := by decide +kernel
  refine lv_aload_n hx hb dX0_mix_0 rfl (lv_at hl 0 rfl) ?_
  refine va_get (D := g.1) (ci := 2) (v := .ref st) (C := RX0) (T := TX0) (N := 3) hx hb hts hiX0 hown hK.1 hP 0 rfl rfl 1 (by decide) (hts (.fieldLink RX0 13 "StampMaker$Digest" "state" "[I") (by decide +kernel)) (fun _ h9 => h9) rfl dX0_mix_1 ?_
  refine lv_iconst (v := (nI 0)) hx hb dX0_mix_4 (by decide) ?_
  refine va_iald hx hb hK.1 hP 2 0 rfl rfl (vp_in_nI (by omega) (by omega)) dX0_mix_5 ?_
  refine lv_rei (x' := fs 0) (congrArg fs (nI_clamp (by omega))) ?_
  refine lv_rei (x' := (rN fw 0 0)) (h0 0 (by decide)) ?_
  refine lv_istore_n (lv' := [(1, .int (rN fw 0 0)), (0, .ref dg)]) hx hb dX0_mix_6 rfl hl (by decide) rfl (fun ls hl => ?_)
  refine lv_aload_n hx hb dX0_mix_7 rfl (lv_at hl 1 rfl) ?_
  refine va_get (D := g.1) (ci := 2) (v := .ref st) (C := RX0) (T := TX0) (N := 3) hx hb hts hiX0 hown hK.1 hP 0 rfl rfl 1 (by decide) (hts (.fieldLink RX0 13 "StampMaker$Digest" "state" "[I") (by decide +kernel)) (fun _ h9 => h9) rfl dX0_mix_8 ?_
  refine lv_iconst (v := (nI 1)) hx hb dX0_mix_11 (by decide) ?_
  refine va_iald hx hb hK.1 hP 2 0 rfl rfl (vp_in_nI (by omega) (by omega)) dX0_mix_12 ?_
  refine lv_rei (x' := fs 1) (congrArg fs (nI_clamp (by omega))) ?_
  refine lv_rei (x' := (rN fw 0 1)) (h0 1 (by decide)) ?_
  refine lv_istore_n (lv' := [(2, .int (rN fw 0 1)), (1, .int (rN fw 0 0)), (0, .ref dg)]) hx hb dX0_mix_13 rfl hl (by decide) rfl (fun ls hl => ?_)
  refine lv_aload_n hx hb dX0_mix_14 rfl (lv_at hl 2 rfl) ?_
  refine va_get (D := g.1) (ci := 2) (v := .ref st) (C := RX0) (T := TX0) (N := 3) hx hb hts hiX0 hown hK.1 hP 0 rfl rfl 1 (by decide) (hts (.fieldLink RX0 13 "StampMaker$Digest" "state" "[I") (by decide +kernel)) (fun _ h9 => h9) rfl dX0_mix_15 ?_
  refine lv_iconst (v := (nI 2)) hx hb dX0_mix_18 (by decide) ?_
  refine va_iald hx hb hK.1 hP 2 0 rfl rfl (vp_in_nI (by omega) (by omega)) dX0_mix_19 ?_
  refine lv_rei (x' := fs 2) (congrArg fs (nI_clamp (by omega))) ?_
  refine lv_rei (x' := (rN fw 0 2)) (h0 2 (by decide)) ?_
  refine lv_istore_n (lv' := [(3, .int (rN fw 0 2)), (2, .int (rN fw 0 1)), (1, .int (rN fw 0 0)), (0, .ref dg)]) hx hb dX0_mix_20 rfl hl (by decide) rfl (fun ls hl => ?_)
  refine lv_aload_n hx hb dX0_mix_21 rfl (lv_at hl 3 rfl) ?_
  refine va_get (D := g.1) (ci := 2) (v := .ref st) (C := RX0) (T := TX0) (N := 3) hx hb hts hiX0 hown hK.1 hP 0 rfl rfl 1 (by decide) (hts (.fieldLink RX0 13 "StampMaker$Digest" "state" "[I") (by decide +kernel)) (fun _ h9 => h9) rfl dX0_mix_22 ?_
  refine lv_iconst (v := (nI 3)) hx hb dX0_mix_25 (by decide) ?_
  refine va_iald hx hb hK.1 hP 2 0 rfl rfl (vp_in_nI (by omega) (by omega)) dX0_mix_26 ?_
  refine lv_rei (x' := fs 3) (congrArg fs (nI_clamp (by omega))) ?_
  refine lv_rei (x' := (rN fw 0 3)) (h0 3 (by decide)) ?_
  refine lv_istore (lv' := [(4, .int (rN fw 0 3)), (3, .int (rN fw 0 2)), (2, .int (rN fw 0 1)), (1, .int (rN fw 0 0)), (0, .ref dg)]) hx hb dX0_mix_27 hl (by decide) rfl (fun ls hl => ?_)
  refine lv_aload_n hx hb dX0_mix_29 rfl (lv_at hl 4 rfl) ?_
  refine va_get (D := g.1) (ci := 2) (v := .ref st) (C := RX0) (T := TX0) (N := 3) hx hb hts hiX0 hown hK.1 hP 0 rfl rfl 1 (by decide) (hts (.fieldLink RX0 13 "StampMaker$Digest" "state" "[I") (by decide +kernel)) (fun _ h9 => h9) rfl dX0_mix_30 ?_
  refine lv_iconst (v := (nI 4)) hx hb dX0_mix_33 (by decide) ?_
  refine va_iald hx hb hK.1 hP 2 0 rfl rfl (vp_in_nI (by omega) (by omega)) dX0_mix_34 ?_
  refine lv_rei (x' := fs 4) (congrArg fs (nI_clamp (by omega))) ?_
  refine lv_rei (x' := (rN fw 0 4)) (h0 4 (by decide)) ?_
  refine lv_istore (lv' := [(5, .int (rN fw 0 4)), (4, .int (rN fw 0 3)), (3, .int (rN fw 0 2)), (2, .int (rN fw 0 1)), (1, .int (rN fw 0 0)), (0, .ref dg)]) hx hb dX0_mix_35 hl (by decide) rfl (fun ls hl => ?_)
  refine lv_aload_n hx hb dX0_mix_37 rfl (lv_at hl 5 rfl) ?_
  refine va_get (D := g.1) (ci := 2) (v := .ref st) (C := RX0) (T := TX0) (N := 3) hx hb hts hiX0 hown hK.1 hP 0 rfl rfl 1 (by decide) (hts (.fieldLink RX0 13 "StampMaker$Digest" "state" "[I") (by decide +kernel)) (fun _ h9 => h9) rfl dX0_mix_38 ?_
  refine lv_iconst (v := (nI 5)) hx hb dX0_mix_41 (by decide) ?_
  refine va_iald hx hb hK.1 hP 2 0 rfl rfl (vp_in_nI (by omega) (by omega)) dX0_mix_42 ?_
  refine lv_rei (x' := fs 5) (congrArg fs (nI_clamp (by omega))) ?_
  refine lv_rei (x' := (rN fw 0 5)) (h0 5 (by decide)) ?_
  refine lv_istore (lv' := [(6, .int (rN fw 0 5)), (5, .int (rN fw 0 4)), (4, .int (rN fw 0 3)), (3, .int (rN fw 0 2)), (2, .int (rN fw 0 1)), (1, .int (rN fw 0 0)), (0, .ref dg)]) hx hb dX0_mix_43 hl (by decide) rfl (fun ls hl => ?_)
  refine lv_aload_n hx hb dX0_mix_45 rfl (lv_at hl 6 rfl) ?_
  refine va_get (D := g.1) (ci := 2) (v := .ref st) (C := RX0) (T := TX0) (N := 3) hx hb hts hiX0 hown hK.1 hP 0 rfl rfl 1 (by decide) (hts (.fieldLink RX0 13 "StampMaker$Digest" "state" "[I") (by decide +kernel)) (fun _ h9 => h9) rfl dX0_mix_46 ?_
  refine lv_bipush (v := (nI 6)) hx hb dX0_mix_49 (by decide) ?_
  refine va_iald hx hb hK.1 hP 2 0 rfl rfl (vp_in_nI (by omega) (by omega)) dX0_mix_51 ?_
  refine lv_rei (x' := fs 6) (congrArg fs (nI_clamp (by omega))) ?_
  refine lv_rei (x' := (rN fw 0 6)) (h0 6 (by decide)) ?_
  refine lv_istore (lv' := [(7, .int (rN fw 0 6)), (6, .int (rN fw 0 5)), (5, .int (rN fw 0 4)), (4, .int (rN fw 0 3)), (3, .int (rN fw 0 2)), (2, .int (rN fw 0 1)), (1, .int (rN fw 0 0)), (0, .ref dg)]) hx hb dX0_mix_52 hl (by decide) rfl (fun ls hl => ?_)
  refine lv_aload_n hx hb dX0_mix_54 rfl (lv_at hl 7 rfl) ?_
  refine va_get (D := g.1) (ci := 2) (v := .ref st) (C := RX0) (T := TX0) (N := 3) hx hb hts hiX0 hown hK.1 hP 0 rfl rfl 1 (by decide) (hts (.fieldLink RX0 13 "StampMaker$Digest" "state" "[I") (by decide +kernel)) (fun _ h9 => h9) rfl dX0_mix_55 ?_
  refine lv_bipush (v := (nI 7)) hx hb dX0_mix_58 (by decide) ?_
  refine va_iald hx hb hK.1 hP 2 0 rfl rfl (vp_in_nI (by omega) (by omega)) dX0_mix_60 ?_
  refine lv_rei (x' := fs 7) (congrArg fs (nI_clamp (by omega))) ?_
  refine lv_rei (x' := (rN fw 0 7)) (h0 7 (by decide)) ?_
  refine lv_istore (lv' := [(8, .int (rN fw 0 7)), (7, .int (rN fw 0 6)), (6, .int (rN fw 0 5)), (5, .int (rN fw 0 4)), (4, .int (rN fw 0 3)), (3, .int (rN fw 0 2)), (2, .int (rN fw 0 1)), (1, .int (rN fw 0 0)), (0, .ref dg)]) hx hb dX0_mix_61 hl (by decide) rfl (fun ls hl => ?_)
  refine lv_iconst (v := (nI 0)) hx hb dX0_mix_63 (by decide) ?_
  refine lv_istore (lv' := [(9, .int (nI 0)), (8, .int (rN fw 0 7)), (7, .int (rN fw 0 6)), (6, .int (rN fw 0 5)), (5, .int (rN fw 0 4)), (4, .int (rN fw 0 3)), (3, .int (rN fw 0 2)), (2, .int (rN fw 0 1)), (1, .int (rN fw 0 0)), (0, .ref dg)]) hx hb dX0_mix_64 hl (by decide) rfl (fun ls hl => ?_)
  have L1 : ∀ (fu : Nat) (t : Nat), (65 ≤ t + fu) → (t ≤ 64) → ∀ (H : Heap) (locs : List Loc), va_P g.1 vwCl [(dg, .inr (2, [.ref wa, .ref st, .int rk])), (wa, .inl (g.2.1 0, 64, .inl fw)), (st, .inl (g.2.1 0, 8, .inl fs))] H → va_D A [(dg, .inr (2, [.ref wa, .ref st, .int rk])), (wa, .inl (g.2.1 0, 64, .inl fw)), (st, .inl (g.2.1 0, 8, .inl fs))] → va_S A s.heap H locs → ∀ ls : Array Slot, lv_has ls 12 [(0, .ref dg), (1, .int (rN fw t 0)), (2, .int (rN fw t 1)), (3, .int (rN fw t 2)), (4, .int (rN fw t 3)), (5, .int (rN fw t 4)), (6, .int (rN fw t 5)), (7, .int (rN fw t 6)), (8, .int (rN fw t 7)), (9, .int (nI t))] → W p l e (headSpec wsX0_mix ({ frames := 1, cells := 0, slots := 0, locals := 21 } : Room)).room s m ([.ref dg] : List Value).toArray below meth c H locs 0 0 (MQ below (va_Qv (fun (u : (Nat → Int32)) => ∀ j, j < 8 → u j = sBeg j + rN fw 64 j) (wB g A (fun u : (Nat → Int32) => [(dg, .inr (2, [.ref wa, .ref st, .int rk])), (wa, .inl (g.2.1 0, 64, .inl fw)), (st, .inl (g.2.1 0, 8, .inl u))])) A) ([.ref dg] : List Value).toArray s 0 0 A) (F0 m 66 ls []) := by
    intro fu
    induction fu with
    | zero => intro t h1 h2 H locs hP hD hS ls hl; exact absurd h1 (by omega)
    | succ fu ihL1 =>
      intro t h1 h2 H locs hP hD hS ls hl
      refine lv_iload hx hb dX0_mix_66 (lv_at hl 9 rfl) ?_
      refine lv_bipush (v := (nI 64)) hx hb dX0_mix_68 (by decide) ?_
      rcases Nat.lt_or_ge t 64 with q | q
      · refine lv_icmp_ge (tgt := 201) hx hb dX0_mix_70 (by decide) (fun c9 => absurd c9 (nI_ge (by omega) (by omega))) (fun _ => ?_)
        refine lv_iload hx hb dX0_mix_73 (lv_at hl 8 rfl) ?_
        refine lv_iload hx hb dX0_mix_75 (lv_at hl 5 rfl) ?_
        refine lv_bipush (v := (nI 6)) hx hb dX0_mix_77 (by decide) ?_
        refine cSi (rest := [.int (rN fw t 7)]) ⟨hx, hb, hml, hown, hts⟩ [.int (rN fw t 4), .int (nI 6)] (c_X0_ror l g (x := (rN fw t 4)) (n := (nI 6))) (va_cwS 2 hts gX0_mix_X0_ror rfl rfl rfl (by decide +kernel) ⟨Nat.le_of_ble_eq_true rfl, Nat.le_of_ble_eq_true rfl⟩) hK hZ hS (subP hP [] rfl) rfl hl.1 rfl (Nat.le_of_ble_eq_true rfl) dX0_mix_79 ⟨Nat.zero_le _, Nat.zero_le _⟩ (fun r_38 hr_38 => ?_)
        obtain rfl : r_38 = (rorE (rN fw t 4) (nI 6)) := hr_38
        refine lv_iload hx hb dX0_mix_82 (lv_at hl 5 rfl) ?_
        refine lv_bipush (v := (nI 11)) hx hb dX0_mix_84 (by decide) ?_
        refine cSi (rest := [.int (rorE (rN fw t 4) (nI 6)), .int (rN fw t 7)]) ⟨hx, hb, hml, hown, hts⟩ [.int (rN fw t 4), .int (nI 11)] (c_X0_ror l g (x := (rN fw t 4)) (n := (nI 11))) (va_cwS 2 hts gX0_mix_X0_ror rfl rfl rfl (by decide +kernel) ⟨Nat.le_of_ble_eq_true rfl, Nat.le_of_ble_eq_true rfl⟩) hK hZ hS (subP hP [] rfl) rfl hl.1 rfl (Nat.le_of_ble_eq_true rfl) dX0_mix_86 ⟨Nat.zero_le _, Nat.zero_le _⟩ (fun r_39 hr_39 => ?_)
        obtain rfl : r_39 = (rorE (rN fw t 4) (nI 11)) := hr_39
        refine lv_ixor hx hb dX0_mix_89 ?_
        refine lv_iload hx hb dX0_mix_90 (lv_at hl 5 rfl) ?_
        refine lv_bipush (v := (nI 25)) hx hb dX0_mix_92 (by decide) ?_
        refine cSi (rest := [.int ((rorE (rN fw t 4) (nI 6)) ^^^ (rorE (rN fw t 4) (nI 11))), .int (rN fw t 7)]) ⟨hx, hb, hml, hown, hts⟩ [.int (rN fw t 4), .int (nI 25)] (c_X0_ror l g (x := (rN fw t 4)) (n := (nI 25))) (va_cwS 2 hts gX0_mix_X0_ror rfl rfl rfl (by decide +kernel) ⟨Nat.le_of_ble_eq_true rfl, Nat.le_of_ble_eq_true rfl⟩) hK hZ hS (subP hP [] rfl) rfl hl.1 rfl (Nat.le_of_ble_eq_true rfl) dX0_mix_94 ⟨Nat.zero_le _, Nat.zero_le _⟩ (fun r_40 hr_40 => ?_)
        obtain rfl : r_40 = (rorE (rN fw t 4) (nI 25)) := hr_40
        refine lv_ixor hx hb dX0_mix_97 ?_
        refine lv_iadd hx hb dX0_mix_98 ?_
        refine lv_iload hx hb dX0_mix_99 (lv_at hl 5 rfl) ?_
        refine lv_iload hx hb dX0_mix_101 (lv_at hl 6 rfl) ?_
        refine lv_iand hx hb dX0_mix_103 ?_
        refine lv_iload hx hb dX0_mix_104 (lv_at hl 5 rfl) ?_
        refine lv_iconst (v := (-1)) hx hb dX0_mix_106 (by decide) ?_
        refine lv_ixor hx hb dX0_mix_107 ?_
        refine lv_iload hx hb dX0_mix_108 (lv_at hl 7 rfl) ?_
        refine lv_iand hx hb dX0_mix_110 ?_
        refine lv_ixor hx hb dX0_mix_111 ?_
        refine lv_iadd hx hb dX0_mix_112 ?_
        refine va_gets hx hb hZ.2.2.1 hS hown (hts (.fieldLink RX0 50 "StampMaker$Digest" "ROUND_NUMBERS" "[I") (by decide +kernel)) (fun _ h9 => h9) dX0_mix_113 ?_
        refine lv_iload hx hb dX0_mix_116 (lv_at hl 9 rfl) ?_
        refine va_ti (v := .int (sK t)) hx hb hZ.2.2.2.1 hS (vp_in_nI (by omega) (by omega)) (by rw [nI_clamp (by omega)]) dX0_mix_118 ?_
        refine lv_iadd hx hb dX0_mix_119 ?_
        refine lv_aload_n hx hb dX0_mix_120 rfl (lv_at hl 0 rfl) ?_
        refine va_get (D := g.1) (ci := 2) (v := .ref wa) (C := RX0) (T := TX0) (N := 3) hx hb hts hiX0 hown hK.1 hP 0 rfl rfl 0 (by decide) (hts (.fieldLink RX0 9 "StampMaker$Digest" "w" "[I") (by decide +kernel)) (fun _ h9 => h9) rfl dX0_mix_121 ?_
        refine lv_iload hx hb dX0_mix_124 (lv_at hl 9 rfl) ?_
        refine va_iald hx hb hK.1 hP 1 0 rfl rfl (vp_in_nI (by omega) (by omega)) dX0_mix_126 ?_
        refine lv_rei (x' := fw t) (congrArg fw (nI_clamp (by omega))) ?_
        refine lv_iadd hx hb dX0_mix_127 ?_
        refine lv_rei (x' := (rU (sK t) (fw t) (rN fw t))) (rfl) ?_
        refine lv_istore (lv' := [(10, .int (rU (sK t) (fw t) (rN fw t))), (0, .ref dg), (1, .int (rN fw t 0)), (2, .int (rN fw t 1)), (3, .int (rN fw t 2)), (4, .int (rN fw t 3)), (5, .int (rN fw t 4)), (6, .int (rN fw t 5)), (7, .int (rN fw t 6)), (8, .int (rN fw t 7)), (9, .int (nI t))]) hx hb dX0_mix_128 hl (by decide) rfl (fun ls hl => ?_)
        refine lv_iload_n hx hb dX0_mix_130 rfl (lv_at hl 2 rfl) ?_
        refine lv_iconst (v := (nI 2)) hx hb dX0_mix_131 (by decide) ?_
        refine cSi (rest := []) ⟨hx, hb, hml, hown, hts⟩ [.int (rN fw t 0), .int (nI 2)] (c_X0_ror l g (x := (rN fw t 0)) (n := (nI 2))) (va_cwS 2 hts gX0_mix_X0_ror rfl rfl rfl (by decide +kernel) ⟨Nat.le_of_ble_eq_true rfl, Nat.le_of_ble_eq_true rfl⟩) hK hZ hS (subP hP [] rfl) rfl hl.1 rfl (Nat.le_of_ble_eq_true rfl) dX0_mix_132 ⟨Nat.zero_le _, Nat.zero_le _⟩ (fun r_41 hr_41 => ?_)
        obtain rfl : r_41 = (rorE (rN fw t 0) (nI 2)) := hr_41
        refine lv_iload_n hx hb dX0_mix_135 rfl (lv_at hl 2 rfl) ?_
        refine lv_bipush (v := (nI 13)) hx hb dX0_mix_136 (by decide) ?_
        refine cSi (rest := [.int (rorE (rN fw t 0) (nI 2))]) ⟨hx, hb, hml, hown, hts⟩ [.int (rN fw t 0), .int (nI 13)] (c_X0_ror l g (x := (rN fw t 0)) (n := (nI 13))) (va_cwS 2 hts gX0_mix_X0_ror rfl rfl rfl (by decide +kernel) ⟨Nat.le_of_ble_eq_true rfl, Nat.le_of_ble_eq_true rfl⟩) hK hZ hS (subP hP [] rfl) rfl hl.1 rfl (Nat.le_of_ble_eq_true rfl) dX0_mix_138 ⟨Nat.zero_le _, Nat.zero_le _⟩ (fun r_42 hr_42 => ?_)
        obtain rfl : r_42 = (rorE (rN fw t 0) (nI 13)) := hr_42
        refine lv_ixor hx hb dX0_mix_141 ?_
        refine lv_iload_n hx hb dX0_mix_142 rfl (lv_at hl 2 rfl) ?_
        refine lv_bipush (v := (nI 22)) hx hb dX0_mix_143 (by decide) ?_
        refine cSi (rest := [.int ((rorE (rN fw t 0) (nI 2)) ^^^ (rorE (rN fw t 0) (nI 13)))]) ⟨hx, hb, hml, hown, hts⟩ [.int (rN fw t 0), .int (nI 22)] (c_X0_ror l g (x := (rN fw t 0)) (n := (nI 22))) (va_cwS 2 hts gX0_mix_X0_ror rfl rfl rfl (by decide +kernel) ⟨Nat.le_of_ble_eq_true rfl, Nat.le_of_ble_eq_true rfl⟩) hK hZ hS (subP hP [] rfl) rfl hl.1 rfl (Nat.le_of_ble_eq_true rfl) dX0_mix_145 ⟨Nat.zero_le _, Nat.zero_le _⟩ (fun r_43 hr_43 => ?_)
        obtain rfl : r_43 = (rorE (rN fw t 0) (nI 22)) := hr_43
        refine lv_ixor hx hb dX0_mix_148 ?_
        refine lv_iload_n hx hb dX0_mix_149 rfl (lv_at hl 2 rfl) ?_
        refine lv_iload_n hx hb dX0_mix_150 rfl (lv_at hl 3 rfl) ?_
        refine lv_iand hx hb dX0_mix_151 ?_
        refine lv_iload_n hx hb dX0_mix_152 rfl (lv_at hl 2 rfl) ?_
        refine lv_iload_n hx hb dX0_mix_153 rfl (lv_at hl 4 rfl) ?_
        refine lv_iand hx hb dX0_mix_154 ?_
        refine lv_ixor hx hb dX0_mix_155 ?_
        refine lv_iload_n hx hb dX0_mix_156 rfl (lv_at hl 3 rfl) ?_
        refine lv_iload_n hx hb dX0_mix_157 rfl (lv_at hl 4 rfl) ?_
        refine lv_iand hx hb dX0_mix_158 ?_
        refine lv_ixor hx hb dX0_mix_159 ?_
        refine lv_iadd hx hb dX0_mix_160 ?_
        refine lv_rei (x' := (rV (rN fw t))) (rfl) ?_
        refine lv_istore (lv' := [(11, .int (rV (rN fw t))), (10, .int (rU (sK t) (fw t) (rN fw t))), (0, .ref dg), (1, .int (rN fw t 0)), (2, .int (rN fw t 1)), (3, .int (rN fw t 2)), (4, .int (rN fw t 3)), (5, .int (rN fw t 4)), (6, .int (rN fw t 5)), (7, .int (rN fw t 6)), (8, .int (rN fw t 7)), (9, .int (nI t))]) hx hb dX0_mix_161 hl (by decide) rfl (fun ls hl => ?_)
        refine lv_iload hx hb dX0_mix_163 (lv_at hl 9 rfl) ?_
        refine lv_rei (x' := (rN fw (t + 1) 7)) (rn_7 fw t) ?_
        refine lv_istore (lv' := [(8, .int (rN fw (t + 1) 7)), (11, .int (rV (rN fw t))), (10, .int (rU (sK t) (fw t) (rN fw t))), (0, .ref dg), (1, .int (rN fw t 0)), (2, .int (rN fw t 1)), (3, .int (rN fw t 2)), (4, .int (rN fw t 3)), (5, .int (rN fw t 4)), (6, .int (rN fw t 5)), (7, .int (rN fw t 6)), (9, .int (nI t))]) hx hb dX0_mix_165 hl (by decide) rfl (fun ls hl => ?_)
        refine lv_iload hx hb dX0_mix_167 (lv_at hl 9 rfl) ?_
        refine lv_rei (x' := (rN fw (t + 1) 6)) (rn_6 fw t) ?_
        refine lv_istore (lv' := [(7, .int (rN fw (t + 1) 6)), (8, .int (rN fw (t + 1) 7)), (11, .int (rV (rN fw t))), (10, .int (rU (sK t) (fw t) (rN fw t))), (0, .ref dg), (1, .int (rN fw t 0)), (2, .int (rN fw t 1)), (3, .int (rN fw t 2)), (4, .int (rN fw t 3)), (5, .int (rN fw t 4)), (6, .int (rN fw t 5)), (9, .int (nI t))]) hx hb dX0_mix_169 hl (by decide) rfl (fun ls hl => ?_)
        refine lv_iload hx hb dX0_mix_171 (lv_at hl 9 rfl) ?_
        refine lv_rei (x' := (rN fw (t + 1) 5)) (rn_5 fw t) ?_
        refine lv_istore (lv' := [(6, .int (rN fw (t + 1) 5)), (7, .int (rN fw (t + 1) 6)), (8, .int (rN fw (t + 1) 7)), (11, .int (rV (rN fw t))), (10, .int (rU (sK t) (fw t) (rN fw t))), (0, .ref dg), (1, .int (rN fw t 0)), (2, .int (rN fw t 1)), (3, .int (rN fw t 2)), (4, .int (rN fw t 3)), (5, .int (rN fw t 4)), (9, .int (nI t))]) hx hb dX0_mix_173 hl (by decide) rfl (fun ls hl => ?_)
        refine lv_iload hx hb dX0_mix_175 (lv_at hl 9 rfl) ?_
        refine lv_iload hx hb dX0_mix_177 (lv_at hl 4 rfl) ?_
        refine lv_iadd hx hb dX0_mix_179 ?_
        refine lv_rei (x' := (rN fw (t + 1) 4)) (rn_4 fw t) ?_
        refine lv_istore (lv' := [(5, .int (rN fw (t + 1) 4)), (6, .int (rN fw (t + 1) 5)), (7, .int (rN fw (t + 1) 6)), (8, .int (rN fw (t + 1) 7)), (11, .int (rV (rN fw t))), (10, .int (rU (sK t) (fw t) (rN fw t))), (0, .ref dg), (1, .int (rN fw t 0)), (2, .int (rN fw t 1)), (3, .int (rN fw t 2)), (4, .int (rN fw t 3)), (9, .int (nI t))]) hx hb dX0_mix_180 hl (by decide) rfl (fun ls hl => ?_)
        refine lv_iload_n hx hb dX0_mix_182 rfl (lv_at hl 9 rfl) ?_
        refine lv_rei (x' := (rN fw (t + 1) 3)) (rn_3 fw t) ?_
        refine lv_istore (lv' := [(4, .int (rN fw (t + 1) 3)), (5, .int (rN fw (t + 1) 4)), (6, .int (rN fw (t + 1) 5)), (7, .int (rN fw (t + 1) 6)), (8, .int (rN fw (t + 1) 7)), (11, .int (rV (rN fw t))), (10, .int (rU (sK t) (fw t) (rN fw t))), (0, .ref dg), (1, .int (rN fw t 0)), (2, .int (rN fw t 1)), (3, .int (rN fw t 2)), (9, .int (nI t))]) hx hb dX0_mix_183 hl (by decide) rfl (fun ls hl => ?_)
        refine lv_iload_n hx hb dX0_mix_185 rfl (lv_at hl 9 rfl) ?_
        refine lv_rei (x' := (rN fw (t + 1) 2)) (rn_2 fw t) ?_
        refine lv_istore_n (lv' := [(3, .int (rN fw (t + 1) 2)), (4, .int (rN fw (t + 1) 3)), (5, .int (rN fw (t + 1) 4)), (6, .int (rN fw (t + 1) 5)), (7, .int (rN fw (t + 1) 6)), (8, .int (rN fw (t + 1) 7)), (11, .int (rV (rN fw t))), (10, .int (rU (sK t) (fw t) (rN fw t))), (0, .ref dg), (1, .int (rN fw t 0)), (2, .int (rN fw t 1)), (9, .int (nI t))]) hx hb dX0_mix_186 rfl hl (by decide) rfl (fun ls hl => ?_)
        refine lv_iload_n hx hb dX0_mix_187 rfl (lv_at hl 9 rfl) ?_
        refine lv_rei (x' := (rN fw (t + 1) 1)) (rn_1 fw t) ?_
        refine lv_istore_n (lv' := [(2, .int (rN fw (t + 1) 1)), (3, .int (rN fw (t + 1) 2)), (4, .int (rN fw (t + 1) 3)), (5, .int (rN fw (t + 1) 4)), (6, .int (rN fw (t + 1) 5)), (7, .int (rN fw (t + 1) 6)), (8, .int (rN fw (t + 1) 7)), (11, .int (rV (rN fw t))), (10, .int (rU (sK t) (fw t) (rN fw t))), (0, .ref dg), (1, .int (rN fw t 0)), (9, .int (nI t))]) hx hb dX0_mix_188 rfl hl (by decide) rfl (fun ls hl => ?_)
        refine lv_iload hx hb dX0_mix_189 (lv_at hl 8 rfl) ?_
        refine lv_iload hx hb dX0_mix_191 (lv_at hl 7 rfl) ?_
        refine lv_iadd hx hb dX0_mix_193 ?_
        refine lv_rei (x' := (rN fw (t + 1) 0)) (rn_0 fw t) ?_
        refine lv_istore_n (lv' := [(1, .int (rN fw (t + 1) 0)), (2, .int (rN fw (t + 1) 1)), (3, .int (rN fw (t + 1) 2)), (4, .int (rN fw (t + 1) 3)), (5, .int (rN fw (t + 1) 4)), (6, .int (rN fw (t + 1) 5)), (7, .int (rN fw (t + 1) 6)), (8, .int (rN fw (t + 1) 7)), (11, .int (rV (rN fw t))), (10, .int (rU (sK t) (fw t) (rN fw t))), (0, .ref dg), (9, .int (nI t))]) hx hb dX0_mix_194 rfl hl (by decide) rfl (fun ls hl => ?_)
        refine lv_iinc (v := (nI (t + 1))) (lv' := [(9, .int (nI (t + 1))), (1, .int (rN fw (t + 1) 0)), (2, .int (rN fw (t + 1) 1)), (3, .int (rN fw (t + 1) 2)), (4, .int (rN fw (t + 1) 3)), (5, .int (rN fw (t + 1) 4)), (6, .int (rN fw (t + 1) 5)), (7, .int (rN fw (t + 1) 6)), (8, .int (rN fw (t + 1) 7)), (11, .int (rV (rN fw t))), (10, .int (rU (sK t) (fw t) (rN fw t))), (0, .ref dg)]) hx hb dX0_mix_195 hl (k := 11) rfl (nI_1 _) (by decide) rfl (fun ls hl => ?_)
        refine lv_goto (tgt := 66) hx hb dX0_mix_198 (by decide) ?_
        exact ihL1 (t + 1) (by omega) (by omega) _ _ hP hD hS ls (lv_sub hl [11, 1, 2, 3, 4, 5, 6, 7, 8, 0] rfl)
      · refine lv_icmp_ge (tgt := 201) hx hb dX0_mix_70 (by decide) (fun _ => ?_) (fun c9 => absurd (nI_le q (by omega)) c9)
        obtain rfl : t = 64 := by omega
        have hF0 : ∀ j, j < 8 → fs j = if j < 0 then sBeg j + rN fw 64 j else fs j := fun j _ => (if_neg (Nat.not_lt_zero j)).symm
        refine lv_aload_n hx hb dX0_mix_201 rfl (lv_at hl 0 rfl) ?_
        refine va_get (D := g.1) (ci := 2) (v := .ref st) (C := RX0) (T := TX0) (N := 3) hx hb hts hiX0 hown hK.1 hP 0 rfl rfl 1 (by decide) (hts (.fieldLink RX0 13 "StampMaker$Digest" "state" "[I") (by decide +kernel)) (fun _ h9 => h9) rfl dX0_mix_202 ?_
        refine lv_iconst (v := (nI 0)) hx hb dX0_mix_205 (by decide) ?_
        refine lv_dup2_11 hx hb dX0_mix_206 rfl rfl ?_
        refine va_iald hx hb hK.1 hP 2 0 rfl rfl (vp_in_nI (by omega) (by omega)) dX0_mix_207 ?_
        refine lv_rei (x' := fs 0) (congrArg fs (nI_clamp (by omega))) ?_
        refine lv_iload_n hx hb dX0_mix_208 rfl (lv_at hl 1 rfl) ?_
        refine lv_iadd hx hb dX0_mix_209 ?_
        refine lv_rei (x' := (sBeg 0 + rN fw 64 0)) (by rw [hF0 0 (by decide), if_neg (by decide), h0 0 (by decide)]) ?_
        refine va_iast hx hb hK.1 hP hD hS 2 0 rfl rfl (vp_in_nI (by omega) (by omega)) dX0_mix_210 (fun H locs hP hD hS => ?_)
        rw [nI_clamp (by omega)] at hP hD
        have hP : va_P g.1 vwCl [(dg, .inr (2, [.ref wa, .ref st, .int rk])), (wa, .inl (g.2.1 0, 64, .inl fw)), (st, .inl (g.2.1 0, 8, .inl (upd fs 0 (sBeg 0 + rN fw 64 0))))] H := hP
        have hD : va_D A [(dg, .inr (2, [.ref wa, .ref st, .int rk])), (wa, .inl (g.2.1 0, 64, .inl fw)), (st, .inl (g.2.1 0, 8, .inl (upd fs 0 (sBeg 0 + rN fw 64 0))))] := hD
        obtain ⟨F1, eF1⟩ : ∃ z, z = upd fs 0 (sBeg 0 + rN fw 64 0) := ⟨_, rfl⟩
        rw [← eF1] at hP hD
        have hF1 : ∀ j, j < 8 → F1 j = if j < 1 then sBeg j + rN fw 64 j else fs j := by rw [eF1]; exact accS hF0 rfl
        refine lv_aload_n hx hb dX0_mix_211 rfl (lv_at hl 0 rfl) ?_
        refine va_get (D := g.1) (ci := 2) (v := .ref st) (C := RX0) (T := TX0) (N := 3) hx hb hts hiX0 hown hK.1 hP 0 rfl rfl 1 (by decide) (hts (.fieldLink RX0 13 "StampMaker$Digest" "state" "[I") (by decide +kernel)) (fun _ h9 => h9) rfl dX0_mix_212 ?_
        refine lv_iconst (v := (nI 1)) hx hb dX0_mix_215 (by decide) ?_
        refine lv_dup2_11 hx hb dX0_mix_216 rfl rfl ?_
        refine va_iald hx hb hK.1 hP 2 0 rfl rfl (vp_in_nI (by omega) (by omega)) dX0_mix_217 ?_
        refine lv_rei (x' := F1 1) (congrArg F1 (nI_clamp (by omega))) ?_
        refine lv_iload_n hx hb dX0_mix_218 rfl (lv_at hl 2 rfl) ?_
        refine lv_iadd hx hb dX0_mix_219 ?_
        refine lv_rei (x' := (sBeg 1 + rN fw 64 1)) (by rw [hF1 1 (by decide), if_neg (by decide), h0 1 (by decide)]) ?_
        refine va_iast hx hb hK.1 hP hD hS 2 0 rfl rfl (vp_in_nI (by omega) (by omega)) dX0_mix_220 (fun H locs hP hD hS => ?_)
        rw [nI_clamp (by omega)] at hP hD
        have hP : va_P g.1 vwCl [(dg, .inr (2, [.ref wa, .ref st, .int rk])), (wa, .inl (g.2.1 0, 64, .inl fw)), (st, .inl (g.2.1 0, 8, .inl (upd F1 1 (sBeg 1 + rN fw 64 1))))] H := hP
        have hD : va_D A [(dg, .inr (2, [.ref wa, .ref st, .int rk])), (wa, .inl (g.2.1 0, 64, .inl fw)), (st, .inl (g.2.1 0, 8, .inl (upd F1 1 (sBeg 1 + rN fw 64 1))))] := hD
        obtain ⟨F2, eF2⟩ : ∃ z, z = upd F1 1 (sBeg 1 + rN fw 64 1) := ⟨_, rfl⟩
        rw [← eF2] at hP hD
        have hF2 : ∀ j, j < 8 → F2 j = if j < 2 then sBeg j + rN fw 64 j else fs j := by rw [eF2]; exact accS hF1 rfl
        refine lv_aload_n hx hb dX0_mix_221 rfl (lv_at hl 0 rfl) ?_
        refine va_get (D := g.1) (ci := 2) (v := .ref st) (C := RX0) (T := TX0) (N := 3) hx hb hts hiX0 hown hK.1 hP 0 rfl rfl 1 (by decide) (hts (.fieldLink RX0 13 "StampMaker$Digest" "state" "[I") (by decide +kernel)) (fun _ h9 => h9) rfl dX0_mix_222 ?_
        refine lv_iconst (v := (nI 2)) hx hb dX0_mix_225 (by decide) ?_
        refine lv_dup2_11 hx hb dX0_mix_226 rfl rfl ?_
        refine va_iald hx hb hK.1 hP 2 0 rfl rfl (vp_in_nI (by omega) (by omega)) dX0_mix_227 ?_
        refine lv_rei (x' := F2 2) (congrArg F2 (nI_clamp (by omega))) ?_
        refine lv_iload_n hx hb dX0_mix_228 rfl (lv_at hl 3 rfl) ?_
        refine lv_iadd hx hb dX0_mix_229 ?_
        refine lv_rei (x' := (sBeg 2 + rN fw 64 2)) (by rw [hF2 2 (by decide), if_neg (by decide), h0 2 (by decide)]) ?_
        refine va_iast hx hb hK.1 hP hD hS 2 0 rfl rfl (vp_in_nI (by omega) (by omega)) dX0_mix_230 (fun H locs hP hD hS => ?_)
        rw [nI_clamp (by omega)] at hP hD
        have hP : va_P g.1 vwCl [(dg, .inr (2, [.ref wa, .ref st, .int rk])), (wa, .inl (g.2.1 0, 64, .inl fw)), (st, .inl (g.2.1 0, 8, .inl (upd F2 2 (sBeg 2 + rN fw 64 2))))] H := hP
        have hD : va_D A [(dg, .inr (2, [.ref wa, .ref st, .int rk])), (wa, .inl (g.2.1 0, 64, .inl fw)), (st, .inl (g.2.1 0, 8, .inl (upd F2 2 (sBeg 2 + rN fw 64 2))))] := hD
        obtain ⟨F3, eF3⟩ : ∃ z, z = upd F2 2 (sBeg 2 + rN fw 64 2) := ⟨_, rfl⟩
        rw [← eF3] at hP hD
        have hF3 : ∀ j, j < 8 → F3 j = if j < 3 then sBeg j + rN fw 64 j else fs j := by rw [eF3]; exact accS hF2 rfl
        refine lv_aload_n hx hb dX0_mix_231 rfl (lv_at hl 0 rfl) ?_
        refine va_get (D := g.1) (ci := 2) (v := .ref st) (C := RX0) (T := TX0) (N := 3) hx hb hts hiX0 hown hK.1 hP 0 rfl rfl 1 (by decide) (hts (.fieldLink RX0 13 "StampMaker$Digest" "state" "[I") (by decide +kernel)) (fun _ h9 => h9) rfl dX0_mix_232 ?_
        refine lv_iconst (v := (nI 3)) hx hb dX0_mix_235 (by decide) ?_
        refine lv_dup2_11 hx hb dX0_mix_236 rfl rfl ?_
        refine va_iald hx hb hK.1 hP 2 0 rfl rfl (vp_in_nI (by omega) (by omega)) dX0_mix_237 ?_
        refine lv_rei (x' := F3 3) (congrArg F3 (nI_clamp (by omega))) ?_
        refine lv_iload hx hb dX0_mix_238 (lv_at hl 4 rfl) ?_
        refine lv_iadd hx hb dX0_mix_240 ?_
        refine lv_rei (x' := (sBeg 3 + rN fw 64 3)) (by rw [hF3 3 (by decide), if_neg (by decide), h0 3 (by decide)]) ?_
        refine va_iast hx hb hK.1 hP hD hS 2 0 rfl rfl (vp_in_nI (by omega) (by omega)) dX0_mix_241 (fun H locs hP hD hS => ?_)
        rw [nI_clamp (by omega)] at hP hD
        have hP : va_P g.1 vwCl [(dg, .inr (2, [.ref wa, .ref st, .int rk])), (wa, .inl (g.2.1 0, 64, .inl fw)), (st, .inl (g.2.1 0, 8, .inl (upd F3 3 (sBeg 3 + rN fw 64 3))))] H := hP
        have hD : va_D A [(dg, .inr (2, [.ref wa, .ref st, .int rk])), (wa, .inl (g.2.1 0, 64, .inl fw)), (st, .inl (g.2.1 0, 8, .inl (upd F3 3 (sBeg 3 + rN fw 64 3))))] := hD
        obtain ⟨F4, eF4⟩ : ∃ z, z = upd F3 3 (sBeg 3 + rN fw 64 3) := ⟨_, rfl⟩
        rw [← eF4] at hP hD
        have hF4 : ∀ j, j < 8 → F4 j = if j < 4 then sBeg j + rN fw 64 j else fs j := by rw [eF4]; exact accS hF3 rfl
        refine lv_aload_n hx hb dX0_mix_242 rfl (lv_at hl 0 rfl) ?_
        refine va_get (D := g.1) (ci := 2) (v := .ref st) (C := RX0) (T := TX0) (N := 3) hx hb hts hiX0 hown hK.1 hP 0 rfl rfl 1 (by decide) (hts (.fieldLink RX0 13 "StampMaker$Digest" "state" "[I") (by decide +kernel)) (fun _ h9 => h9) rfl dX0_mix_243 ?_
        refine lv_iconst (v := (nI 4)) hx hb dX0_mix_246 (by decide) ?_
        refine lv_dup2_11 hx hb dX0_mix_247 rfl rfl ?_
        refine va_iald hx hb hK.1 hP 2 0 rfl rfl (vp_in_nI (by omega) (by omega)) dX0_mix_248 ?_
        refine lv_rei (x' := F4 4) (congrArg F4 (nI_clamp (by omega))) ?_
        refine lv_iload hx hb dX0_mix_249 (lv_at hl 5 rfl) ?_
        refine lv_iadd hx hb dX0_mix_251 ?_
        refine lv_rei (x' := (sBeg 4 + rN fw 64 4)) (by rw [hF4 4 (by decide), if_neg (by decide), h0 4 (by decide)]) ?_
        refine va_iast hx hb hK.1 hP hD hS 2 0 rfl rfl (vp_in_nI (by omega) (by omega)) dX0_mix_252 (fun H locs hP hD hS => ?_)
        rw [nI_clamp (by omega)] at hP hD
        have hP : va_P g.1 vwCl [(dg, .inr (2, [.ref wa, .ref st, .int rk])), (wa, .inl (g.2.1 0, 64, .inl fw)), (st, .inl (g.2.1 0, 8, .inl (upd F4 4 (sBeg 4 + rN fw 64 4))))] H := hP
        have hD : va_D A [(dg, .inr (2, [.ref wa, .ref st, .int rk])), (wa, .inl (g.2.1 0, 64, .inl fw)), (st, .inl (g.2.1 0, 8, .inl (upd F4 4 (sBeg 4 + rN fw 64 4))))] := hD
        obtain ⟨F5, eF5⟩ : ∃ z, z = upd F4 4 (sBeg 4 + rN fw 64 4) := ⟨_, rfl⟩
        rw [← eF5] at hP hD
        have hF5 : ∀ j, j < 8 → F5 j = if j < 5 then sBeg j + rN fw 64 j else fs j := by rw [eF5]; exact accS hF4 rfl
        refine lv_aload_n hx hb dX0_mix_253 rfl (lv_at hl 0 rfl) ?_
        refine va_get (D := g.1) (ci := 2) (v := .ref st) (C := RX0) (T := TX0) (N := 3) hx hb hts hiX0 hown hK.1 hP 0 rfl rfl 1 (by decide) (hts (.fieldLink RX0 13 "StampMaker$Digest" "state" "[I") (by decide +kernel)) (fun _ h9 => h9) rfl dX0_mix_254 ?_
        refine lv_iconst (v := (nI 5)) hx hb dX0_mix_257 (by decide) ?_
        refine lv_dup2_11 hx hb dX0_mix_258 rfl rfl ?_
        refine va_iald hx hb hK.1 hP 2 0 rfl rfl (vp_in_nI (by omega) (by omega)) dX0_mix_259 ?_
        refine lv_rei (x' := F5 5) (congrArg F5 (nI_clamp (by omega))) ?_
        refine lv_iload hx hb dX0_mix_260 (lv_at hl 6 rfl) ?_
        refine lv_iadd hx hb dX0_mix_262 ?_
        refine lv_rei (x' := (sBeg 5 + rN fw 64 5)) (by rw [hF5 5 (by decide), if_neg (by decide), h0 5 (by decide)]) ?_
        refine va_iast hx hb hK.1 hP hD hS 2 0 rfl rfl (vp_in_nI (by omega) (by omega)) dX0_mix_263 (fun H locs hP hD hS => ?_)
        rw [nI_clamp (by omega)] at hP hD
        have hP : va_P g.1 vwCl [(dg, .inr (2, [.ref wa, .ref st, .int rk])), (wa, .inl (g.2.1 0, 64, .inl fw)), (st, .inl (g.2.1 0, 8, .inl (upd F5 5 (sBeg 5 + rN fw 64 5))))] H := hP
        have hD : va_D A [(dg, .inr (2, [.ref wa, .ref st, .int rk])), (wa, .inl (g.2.1 0, 64, .inl fw)), (st, .inl (g.2.1 0, 8, .inl (upd F5 5 (sBeg 5 + rN fw 64 5))))] := hD
        obtain ⟨F6, eF6⟩ : ∃ z, z = upd F5 5 (sBeg 5 + rN fw 64 5) := ⟨_, rfl⟩
        rw [← eF6] at hP hD
        have hF6 : ∀ j, j < 8 → F6 j = if j < 6 then sBeg j + rN fw 64 j else fs j := by rw [eF6]; exact accS hF5 rfl
        refine lv_aload_n hx hb dX0_mix_264 rfl (lv_at hl 0 rfl) ?_
        refine va_get (D := g.1) (ci := 2) (v := .ref st) (C := RX0) (T := TX0) (N := 3) hx hb hts hiX0 hown hK.1 hP 0 rfl rfl 1 (by decide) (hts (.fieldLink RX0 13 "StampMaker$Digest" "state" "[I") (by decide +kernel)) (fun _ h9 => h9) rfl dX0_mix_265 ?_
        refine lv_bipush (v := (nI 6)) hx hb dX0_mix_268 (by decide) ?_
        refine lv_dup2_11 hx hb dX0_mix_270 rfl rfl ?_
        refine va_iald hx hb hK.1 hP 2 0 rfl rfl (vp_in_nI (by omega) (by omega)) dX0_mix_271 ?_
        refine lv_rei (x' := F6 6) (congrArg F6 (nI_clamp (by omega))) ?_
        refine lv_iload hx hb dX0_mix_272 (lv_at hl 7 rfl) ?_
        refine lv_iadd hx hb dX0_mix_274 ?_
        refine lv_rei (x' := (sBeg 6 + rN fw 64 6)) (by rw [hF6 6 (by decide), if_neg (by decide), h0 6 (by decide)]) ?_
        refine va_iast hx hb hK.1 hP hD hS 2 0 rfl rfl (vp_in_nI (by omega) (by omega)) dX0_mix_275 (fun H locs hP hD hS => ?_)
        rw [nI_clamp (by omega)] at hP hD
        have hP : va_P g.1 vwCl [(dg, .inr (2, [.ref wa, .ref st, .int rk])), (wa, .inl (g.2.1 0, 64, .inl fw)), (st, .inl (g.2.1 0, 8, .inl (upd F6 6 (sBeg 6 + rN fw 64 6))))] H := hP
        have hD : va_D A [(dg, .inr (2, [.ref wa, .ref st, .int rk])), (wa, .inl (g.2.1 0, 64, .inl fw)), (st, .inl (g.2.1 0, 8, .inl (upd F6 6 (sBeg 6 + rN fw 64 6))))] := hD
        obtain ⟨F7, eF7⟩ : ∃ z, z = upd F6 6 (sBeg 6 + rN fw 64 6) := ⟨_, rfl⟩
        rw [← eF7] at hP hD
        have hF7 : ∀ j, j < 8 → F7 j = if j < 7 then sBeg j + rN fw 64 j else fs j := by rw [eF7]; exact accS hF6 rfl
        refine lv_aload_n hx hb dX0_mix_276 rfl (lv_at hl 0 rfl) ?_
        refine va_get (D := g.1) (ci := 2) (v := .ref st) (C := RX0) (T := TX0) (N := 3) hx hb hts hiX0 hown hK.1 hP 0 rfl rfl 1 (by decide) (hts (.fieldLink RX0 13 "StampMaker$Digest" "state" "[I") (by decide +kernel)) (fun _ h9 => h9) rfl dX0_mix_277 ?_
        refine lv_bipush (v := (nI 7)) hx hb dX0_mix_280 (by decide) ?_
        refine lv_dup2_11 hx hb dX0_mix_282 rfl rfl ?_
        refine va_iald hx hb hK.1 hP 2 0 rfl rfl (vp_in_nI (by omega) (by omega)) dX0_mix_283 ?_
        refine lv_rei (x' := F7 7) (congrArg F7 (nI_clamp (by omega))) ?_
        refine lv_iload hx hb dX0_mix_284 (lv_at hl 8 rfl) ?_
        refine lv_iadd hx hb dX0_mix_286 ?_
        refine lv_rei (x' := (sBeg 7 + rN fw 64 7)) (by rw [hF7 7 (by decide), if_neg (by decide), h0 7 (by decide)]) ?_
        refine va_iast hx hb hK.1 hP hD hS 2 0 rfl rfl (vp_in_nI (by omega) (by omega)) dX0_mix_287 (fun H locs hP hD hS => ?_)
        rw [nI_clamp (by omega)] at hP hD
        have hP : va_P g.1 vwCl [(dg, .inr (2, [.ref wa, .ref st, .int rk])), (wa, .inl (g.2.1 0, 64, .inl fw)), (st, .inl (g.2.1 0, 8, .inl (upd F7 7 (sBeg 7 + rN fw 64 7))))] H := hP
        have hD : va_D A [(dg, .inr (2, [.ref wa, .ref st, .int rk])), (wa, .inl (g.2.1 0, 64, .inl fw)), (st, .inl (g.2.1 0, 8, .inl (upd F7 7 (sBeg 7 + rN fw 64 7))))] := hD
        obtain ⟨F8, eF8⟩ : ∃ z, z = upd F7 7 (sBeg 7 + rN fw 64 7) := ⟨_, rfl⟩
        rw [← eF8] at hP hD
        have hF8 : ∀ j, j < 8 → F8 j = if j < 8 then sBeg j + rN fw 64 j else fs j := by rw [eF8]; exact accS hF7 rfl
        exact endWv F8 hx hb hr hlocks hS dX0_mix_288 hP hD (fun j hj => by rw [hF8 j hj, if_pos hj])
  exact L1 65 0 (by omega) (by omega) _ _ hP hD hS ls (lv_sub hl [9, 8, 7, 6, 5, 4, 3, 2, 1, 0] rfl)

set_option maxHeartbeats 4000000 in
set_option maxRecDepth 100000 in
/-- the digest reckoned -/
theorem c_X0_reckon (l : Launch) (g : gE) (hsz : Nat) (dg wa st : Nat) (rk : Int32) (fw fs : Nat → Int32) (k kb : Nat) (fr un cl : Int32) (f : Nat → Int32) (sz N : Nat) (hz : sz ≤ 32) (hN : N < 36028797018963968) : Met l yX0_reckon wsX0_reckon ({ frames := 3, cells := 0, slots := 0, locals := 70 }) (va_Pc [.ref dg, .ref k, .long (lN N)] (wr g [(dg, .inr (2, [.ref wa, .ref st, .int rk])), (wa, .inl (g.2.1 0, 64, .inl fw)), (st, .inl (g.2.1 0, 8, .inl fs)), (k, .inr (3, [.int fr, .int un, .ref kb, .int (nI sz), .int cl])), (kb, .inl (g.2.1 1, 32, .inl f))] hsz)) (va_Qv (fun (u : ((Nat → Int32) × (Nat → Int32))) => ∀ j, j < 8 → u.2 j = dG f sz N j) (wB g (va_A [(dg, .inr (2, [.ref wa, .ref st, .int rk])), (wa, .inl (g.2.1 0, 64, .inl fw)), (st, .inl (g.2.1 0, 8, .inl fs)), (k, .inr (3, [.int fr, .int un, .ref kb, .int (nI sz), .int cl])), (kb, .inl (g.2.1 1, 32, .inl f))] hsz) (fun u : ((Nat → Int32) × (Nat → Int32)) => [(dg, .inr (2, [.ref wa, .ref st, .int (nI 1)])), (wa, .inl (g.2.1 0, 64, .inl u.1)), (st, .inl (g.2.1 0, 8, .inl u.2)), (k, .inr (3, [.int fr, .int un, .ref kb, .int (nI sz), .int cl])), (kb, .inl (g.2.1 1, 32, .inl f))])) (va_A [(dg, .inr (2, [.ref wa, .ref st, .int rk])), (wa, .inl (g.2.1 0, 64, .inl fw)), (st, .inl (g.2.1 0, 8, .inl fs)), (k, .inr (3, [.int fr, .int un, .ref kb, .int (nI sz), .int cl])), (kb, .inl (g.2.1 1, 32, .inl f))] hsz)) 0 0 (va_A [(dg, .inr (2, [.ref wa, .ref st, .int rk])), (wa, .inl (g.2.1 0, 64, .inl fw)), (st, .inl (g.2.1 0, 8, .inl fs)), (k, .inr (3, [.int fr, .int un, .ref kb, .int (nI sz), .int cl])), (kb, .inl (g.2.1 1, 32, .inl f))] hsz) := by
  refine ofWv (cc := cX0_reckon) (maxL := 5) (ret := none) (by decide) rfl (Nat.le_of_ble_eq_true rfl) (fun p e s m below meth c hx hb hr hml hts hown hlocks hnm A H hH hA hP hD hK hZ hS ls hl => ?_)
  have hown : s.vm.findClass RX0 = some m.cls := hown
  have hl : lv_has ls 5 [(0, .ref dg), (1, .ref k), (2, .long (lN N))] := hl
  have hiX0 : ∀ w ∈ wsX00, w ∈ wsX0_reckon := by decide +kernel
  refine lv_iconst (v := (nI 0)) hx hb dX0_reckon_0 (by decide) ?_
  refine lv_istore (lv' := [(4, .int (nI 0)), (0, .ref dg), (1, .ref k), (2, .long (lN N))]) hx hb dX0_reckon_1 hl (by decide) rfl (fun ls hl => ?_)
  have L1 : ∀ (fu : Nat) (t : Nat) (F : Nat → Int32), (15 ≤ t + fu) → (t ≤ 14) → (∀ j, j < t → F j = mW f sz N j) → ∀ (H : Heap) (locs : List Loc), va_P g.1 vwCl [(dg, .inr (2, [.ref wa, .ref st, .int rk])), (wa, .inl (g.2.1 0, 64, .inl F)), (st, .inl (g.2.1 0, 8, .inl fs)), (k, .inr (3, [.int fr, .int un, .ref kb, .int (nI sz), .int cl])), (kb, .inl (g.2.1 1, 32, .inl f))] H → va_D A [(dg, .inr (2, [.ref wa, .ref st, .int rk])), (wa, .inl (g.2.1 0, 64, .inl F)), (st, .inl (g.2.1 0, 8, .inl fs)), (k, .inr (3, [.int fr, .int un, .ref kb, .int (nI sz), .int cl])), (kb, .inl (g.2.1 1, 32, .inl f))] → va_S A s.heap H locs → ∀ ls : Array Slot, lv_has ls 5 [(0, .ref dg), (1, .ref k), (2, .long (lN N)), (4, .int (nI t))] → W p l e (headSpec wsX0_reckon ({ frames := 3, cells := 0, slots := 0, locals := 70 } : Room)).room s m ([.ref dg, .ref k, .long (lN N)] : List Value).toArray below meth c H locs 0 0 (MQ below (va_Qv (fun (u : ((Nat → Int32) × (Nat → Int32))) => ∀ j, j < 8 → u.2 j = dG f sz N j) (wB g A (fun u : ((Nat → Int32) × (Nat → Int32)) => [(dg, .inr (2, [.ref wa, .ref st, .int (nI 1)])), (wa, .inl (g.2.1 0, 64, .inl u.1)), (st, .inl (g.2.1 0, 8, .inl u.2)), (k, .inr (3, [.int fr, .int un, .ref kb, .int (nI sz), .int cl])), (kb, .inl (g.2.1 1, 32, .inl f))])) A) ([.ref dg, .ref k, .long (lN N)] : List Value).toArray s 0 0 A) (F0 m 3 ls []) := by
    intro fu
    induction fu with
    | zero => intro t F h1 h2 h3 H locs hP hD hS ls hl; exact absurd h1 (by omega)
    | succ fu ihL1 =>
      intro t F h1 h2 h3 H locs hP hD hS ls hl
      refine lv_iload hx hb dX0_reckon_3 (lv_at hl 3 rfl) ?_
      refine lv_bipush (v := (nI 14)) hx hb dX0_reckon_5 (by decide) ?_
      rcases Nat.lt_or_ge t 14 with q | q
      · refine lv_icmp_ge (tgt := 32) hx hb dX0_reckon_7 (by decide) (fun c9 => absurd c9 (nI_ge (by omega) (by omega))) (fun _ => ?_)
        refine lv_aload_n hx hb dX0_reckon_10 rfl (lv_at hl 0 rfl) ?_
        refine va_get (D := g.1) (ci := 2) (v := .ref wa) (C := RX0) (T := TX0) (N := 3) hx hb hts hiX0 hown hK.1 hP 0 rfl rfl 0 (by decide) (hts (.fieldLink RX0 9 "StampMaker$Digest" "w" "[I") (by decide +kernel)) (fun _ h9 => h9) rfl dX0_reckon_11 ?_
        refine lv_iload hx hb dX0_reckon_14 (lv_at hl 3 rfl) ?_
        refine lv_aload_n hx hb dX0_reckon_16 rfl (lv_at hl 1 rfl) ?_
        refine lv_lload_n hx hb dX0_reckon_17 rfl (lv_at hl 2 rfl) ?_
        refine lv_iconst (v := (nI 4)) hx hb dX0_reckon_18 (by decide) ?_
        refine lv_iload hx hb dX0_reckon_19 (lv_at hl 3 rfl) ?_
        refine lv_imul hx hb dX0_reckon_21 ?_
        refine lv_rei (x' := (nI (4 * t))) (pk_mul _ _) ?_
        refine cSi (rest := [.int (nI t), .ref wa]) ⟨hx, hb, hml, hown, hts⟩ [.ref k, .long (lN N), .int (nI (4 * t))] (c_X0_numberOf l g (k := k) (kb := kb) (fr := fr) (un := un) (cl := cl) (f := f) (sz := sz) (N := N) (t := t) hz hN q) (va_cwS 3 hts gX0_reckon_X0_numberOf rfl rfl rfl (by decide +kernel) ⟨Nat.le_of_ble_eq_true rfl, Nat.le_of_ble_eq_true rfl⟩) hK hZ hS (subP hP [3, 4] rfl) rfl hl.1 rfl (Nat.le_of_ble_eq_true rfl) dX0_reckon_22 ⟨Nat.zero_le _, Nat.zero_le _⟩ (fun r_44 hr_44 => ?_)
        obtain rfl : r_44 = (nI (m4 f sz N t)) := hr_44
        refine va_iast hx hb hK.1 hP hD hS 1 0 rfl rfl (vp_in_nI (by omega) (by omega)) dX0_reckon_25 (fun H locs hP hD hS => ?_)
        rw [nI_clamp (by omega)] at hP hD
        have hP : va_P g.1 vwCl [(dg, .inr (2, [.ref wa, .ref st, .int rk])), (wa, .inl (g.2.1 0, 64, .inl (upd F t (nI (m4 f sz N t))))), (st, .inl (g.2.1 0, 8, .inl fs)), (k, .inr (3, [.int fr, .int un, .ref kb, .int (nI sz), .int cl])), (kb, .inl (g.2.1 1, 32, .inl f))] H := hP
        have hD : va_D A [(dg, .inr (2, [.ref wa, .ref st, .int rk])), (wa, .inl (g.2.1 0, 64, .inl (upd F t (nI (m4 f sz N t))))), (st, .inl (g.2.1 0, 8, .inl fs)), (k, .inr (3, [.int fr, .int un, .ref kb, .int (nI sz), .int cl])), (kb, .inl (g.2.1 1, 32, .inl f))] := hD
        refine lv_iinc (v := (nI (t + 1))) (lv' := [(4, .int (nI (t + 1))), (0, .ref dg), (1, .ref k), (2, .long (lN N))]) hx hb dX0_reckon_26 hl (k := 3) rfl (nI_1 _) (by decide) rfl (fun ls hl => ?_)
        refine lv_goto (tgt := 3) hx hb dX0_reckon_29 (by decide) ?_
        exact ihL1 (t + 1) (upd F t (nI (m4 f sz N t))) (by omega) (by omega) (fillS h3 (by unfold mW; rw [if_pos q])) _ _ hP hD hS ls (lv_sub hl [1, 2, 3, 0] rfl)
      · refine lv_icmp_ge (tgt := 32) hx hb dX0_reckon_7 (by decide) (fun _ => ?_) (fun c9 => absurd (nI_le q (by omega)) c9)
        obtain rfl : t = 14 := by omega
        refine lv_aload_n hx hb dX0_reckon_32 rfl (lv_at hl 0 rfl) ?_
        refine va_get (D := g.1) (ci := 2) (v := .ref wa) (C := RX0) (T := TX0) (N := 3) hx hb hts hiX0 hown hK.1 hP 0 rfl rfl 0 (by decide) (hts (.fieldLink RX0 9 "StampMaker$Digest" "w" "[I") (by decide +kernel)) (fun _ h9 => h9) rfl dX0_reckon_33 ?_
        refine lv_bipush (v := (nI 14)) hx hb dX0_reckon_36 (by decide) ?_
        refine lv_iconst (v := (nI 0)) hx hb dX0_reckon_38 (by decide) ?_
        refine va_iast hx hb hK.1 hP hD hS 1 0 rfl rfl (vp_in_nI (by omega) (by omega)) dX0_reckon_39 (fun H locs hP hD hS => ?_)
        rw [nI_clamp (by omega)] at hP hD
        have hP : va_P g.1 vwCl [(dg, .inr (2, [.ref wa, .ref st, .int rk])), (wa, .inl (g.2.1 0, 64, .inl (upd F 14 (nI 0)))), (st, .inl (g.2.1 0, 8, .inl fs)), (k, .inr (3, [.int fr, .int un, .ref kb, .int (nI sz), .int cl])), (kb, .inl (g.2.1 1, 32, .inl f))] H := hP
        have hD : va_D A [(dg, .inr (2, [.ref wa, .ref st, .int rk])), (wa, .inl (g.2.1 0, 64, .inl (upd F 14 (nI 0)))), (st, .inl (g.2.1 0, 8, .inl fs)), (k, .inr (3, [.int fr, .int un, .ref kb, .int (nI sz), .int cl])), (kb, .inl (g.2.1 1, 32, .inl f))] := hD
        refine lv_aload_n hx hb dX0_reckon_40 rfl (lv_at hl 0 rfl) ?_
        refine va_get (D := g.1) (ci := 2) (v := .ref wa) (C := RX0) (T := TX0) (N := 3) hx hb hts hiX0 hown hK.1 hP 0 rfl rfl 0 (by decide) (hts (.fieldLink RX0 9 "StampMaker$Digest" "w" "[I") (by decide +kernel)) (fun _ h9 => h9) rfl dX0_reckon_41 ?_
        refine lv_bipush (v := (nI 15)) hx hb dX0_reckon_44 (by decide) ?_
        refine lv_bipush (v := (nI 8)) hx hb dX0_reckon_46 (by decide) ?_
        refine lv_aload_n hx hb dX0_reckon_48 rfl (lv_at hl 1 rfl) ?_
        refine cVi (rest := [.int (nI 8), .int (nI 15), .ref wa]) ⟨hx, hb, hml, hown, hts⟩ [] (c_X2_size l g (k := k) (kb := kb) (fr := fr) (un := un) (cn := (nI sz)) (cl := cl)) (cwV 0 hts gX0_reckon_X2_size rfl rfl rfl (by decide +kernel) ⟨Nat.le_of_ble_eq_true rfl, Nat.le_of_ble_eq_true rfl⟩) hK hZ hS (subP hP [3] rfl) (va_recv hK.1 hP (ci := 3) (q0 := 3) rfl rfl) rfl hl.1 rfl (Nat.le_of_ble_eq_true rfl) dX0_reckon_49 ⟨Nat.zero_le _, Nat.zero_le _⟩ (fun r_45 hr_45 => ?_)
        obtain rfl : r_45 = (nI sz) := hr_45
        refine lv_bipush (v := (nI 7)) hx hb dX0_reckon_52 (by decide) ?_
        refine lv_iadd hx hb dX0_reckon_54 ?_
        refine lv_rei (x' := (nI (sz + 7))) (nI_add _ _) ?_
        refine lv_imul hx hb dX0_reckon_55 ?_
        refine lv_rei (x' := (nI (8 * (sz + 7)))) (pk_mul _ _) ?_
        refine va_iast hx hb hK.1 hP hD hS 1 0 rfl rfl (vp_in_nI (by omega) (by omega)) dX0_reckon_56 (fun H locs hP hD hS => ?_)
        rw [nI_clamp (by omega)] at hP hD
        have hP : va_P g.1 vwCl [(dg, .inr (2, [.ref wa, .ref st, .int rk])), (wa, .inl (g.2.1 0, 64, .inl (upd (upd F 14 (nI 0)) 15 (nI (8 * (sz + 7)))))), (st, .inl (g.2.1 0, 8, .inl fs)), (k, .inr (3, [.int fr, .int un, .ref kb, .int (nI sz), .int cl])), (kb, .inl (g.2.1 1, 32, .inl f))] H := hP
        have hD : va_D A [(dg, .inr (2, [.ref wa, .ref st, .int rk])), (wa, .inl (g.2.1 0, 64, .inl (upd (upd F 14 (nI 0)) 15 (nI (8 * (sz + 7)))))), (st, .inl (g.2.1 0, 8, .inl fs)), (k, .inr (3, [.int fr, .int un, .ref kb, .int (nI sz), .int cl])), (kb, .inl (g.2.1 1, 32, .inl f))] := hD
        refine lv_aload_n hx hb dX0_reckon_57 rfl (lv_at hl 0 rfl) ?_
        obtain ⟨G1, eG1⟩ : ∃ z, z = upd (upd F 14 (nI 0)) 15 (nI (8 * (sz + 7))) := ⟨_, rfl⟩
        rw [← eG1] at hP hD
        have hG1 : ∀ j, j < 16 → G1 j = mW f sz N j := by rw [eG1]; exact fillS (fillS h3 rfl) rfl
        refine wVv (rest := []) ⟨hx, hb, hml, hown, hts⟩ [] [0, 1] (c_X0_stretch l g H.size (dg := dg) (wa := wa) (st := st) (rk := rk) (f := G1)) (cwV 0 hts gX0_reckon_X0_stretch rfl rfl rfl (by decide +kernel) ⟨Nat.le_of_ble_eq_true rfl, Nat.le_of_ble_eq_true rfl⟩) hK hZ hS hP hD hA rfl (by decide) (fun _ => Nat.le_of_ble_eq_true rfl) (fun _ => rfl) (va_recv hK.1 hP (ci := 2) (q0 := 0) rfl rfl) rfl hl.1 rfl (Nat.le_of_ble_eq_true rfl) dX0_reckon_58 ⟨Nat.le_of_ble_eq_true rfl, Nat.le_of_ble_eq_true rfl⟩ (fun u H locs hz1 hP hD hS => ?_)
        obtain ⟨G2, rfl⟩ : ∃ z, z = u := ⟨_, rfl⟩
        have hP : va_P g.1 vwCl [(dg, .inr (2, [.ref wa, .ref st, .int rk])), (wa, .inl (g.2.1 0, 64, .inl G2)), (st, .inl (g.2.1 0, 8, .inl fs)), (k, .inr (3, [.int fr, .int un, .ref kb, .int (nI sz), .int cl])), (kb, .inl (g.2.1 1, 32, .inl f))] H := hP
        have hD : va_D A [(dg, .inr (2, [.ref wa, .ref st, .int rk])), (wa, .inl (g.2.1 0, 64, .inl G2)), (st, .inl (g.2.1 0, 8, .inl fs)), (k, .inr (3, [.int fr, .int un, .ref kb, .int (nI sz), .int cl])), (kb, .inl (g.2.1 1, 32, .inl f))] := hD
        refine lv_iconst (v := (nI 0)) hx hb dX0_reckon_61 (by decide) ?_
        refine lv_istore (lv' := [(4, .int (nI 0)), (0, .ref dg), (1, .ref k), (2, .long (lN N))]) hx hb dX0_reckon_62 hl (by decide) rfl (fun ls hl => ?_)
        have L2 : ∀ (fu : Nat) (i : Nat) (S : Nat → Int32), (9 ≤ i + fu) → (i ≤ 8) → (∀ j, j < i → S j = sBeg j) → ∀ (H : Heap) (locs : List Loc), va_P g.1 vwCl [(dg, .inr (2, [.ref wa, .ref st, .int rk])), (wa, .inl (g.2.1 0, 64, .inl G2)), (st, .inl (g.2.1 0, 8, .inl S)), (k, .inr (3, [.int fr, .int un, .ref kb, .int (nI sz), .int cl])), (kb, .inl (g.2.1 1, 32, .inl f))] H → va_D A [(dg, .inr (2, [.ref wa, .ref st, .int rk])), (wa, .inl (g.2.1 0, 64, .inl G2)), (st, .inl (g.2.1 0, 8, .inl S)), (k, .inr (3, [.int fr, .int un, .ref kb, .int (nI sz), .int cl])), (kb, .inl (g.2.1 1, 32, .inl f))] → va_S A s.heap H locs → ∀ ls : Array Slot, lv_has ls 5 [(0, .ref dg), (1, .ref k), (2, .long (lN N)), (4, .int (nI i))] → W p l e (headSpec wsX0_reckon ({ frames := 3, cells := 0, slots := 0, locals := 70 } : Room)).room s m ([.ref dg, .ref k, .long (lN N)] : List Value).toArray below meth c H locs 0 0 (MQ below (va_Qv (fun (u : ((Nat → Int32) × (Nat → Int32))) => ∀ j, j < 8 → u.2 j = dG f sz N j) (wB g A (fun u : ((Nat → Int32) × (Nat → Int32)) => [(dg, .inr (2, [.ref wa, .ref st, .int (nI 1)])), (wa, .inl (g.2.1 0, 64, .inl u.1)), (st, .inl (g.2.1 0, 8, .inl u.2)), (k, .inr (3, [.int fr, .int un, .ref kb, .int (nI sz), .int cl])), (kb, .inl (g.2.1 1, 32, .inl f))])) A) ([.ref dg, .ref k, .long (lN N)] : List Value).toArray s 0 0 A) (F0 m 64 ls []) := by
          intro fu
          induction fu with
          | zero => intro i S k1 k2 k3 H locs hP hD hS ls hl; exact absurd k1 (by omega)
          | succ fu ihL2 =>
            intro i S k1 k2 k3 H locs hP hD hS ls hl
            refine lv_iload hx hb dX0_reckon_64 (lv_at hl 3 rfl) ?_
            refine lv_bipush (v := (nI 8)) hx hb dX0_reckon_66 (by decide) ?_
            rcases Nat.lt_or_ge i 8 with q2 | q2
            · refine lv_icmp_ge (tgt := 90) hx hb dX0_reckon_68 (by decide) (fun c9 => absurd c9 (nI_ge (by omega) (by omega))) (fun _ => ?_)
              refine lv_aload_n hx hb dX0_reckon_71 rfl (lv_at hl 0 rfl) ?_
              refine va_get (D := g.1) (ci := 2) (v := .ref st) (C := RX0) (T := TX0) (N := 3) hx hb hts hiX0 hown hK.1 hP 0 rfl rfl 1 (by decide) (hts (.fieldLink RX0 13 "StampMaker$Digest" "state" "[I") (by decide +kernel)) (fun _ h9 => h9) rfl dX0_reckon_72 ?_
              refine lv_iload hx hb dX0_reckon_75 (lv_at hl 3 rfl) ?_
              refine va_gets hx hb hZ.1 hS hown (hts (.fieldLink RX0 33 "StampMaker$Digest" "START" "[I") (by decide +kernel)) (fun _ h9 => h9) dX0_reckon_77 ?_
              refine lv_iload hx hb dX0_reckon_80 (lv_at hl 3 rfl) ?_
              refine va_ti (v := .int (sBeg i)) hx hb hZ.2.1 hS (vp_in_nI (by omega) (by omega)) (by rw [nI_clamp (by omega)]) dX0_reckon_82 ?_
              refine va_iast hx hb hK.1 hP hD hS 2 0 rfl rfl (vp_in_nI (by omega) (by omega)) dX0_reckon_83 (fun H locs hP hD hS => ?_)
              rw [nI_clamp (by omega)] at hP hD
              have hP : va_P g.1 vwCl [(dg, .inr (2, [.ref wa, .ref st, .int rk])), (wa, .inl (g.2.1 0, 64, .inl G2)), (st, .inl (g.2.1 0, 8, .inl (upd S i (sBeg i)))), (k, .inr (3, [.int fr, .int un, .ref kb, .int (nI sz), .int cl])), (kb, .inl (g.2.1 1, 32, .inl f))] H := hP
              have hD : va_D A [(dg, .inr (2, [.ref wa, .ref st, .int rk])), (wa, .inl (g.2.1 0, 64, .inl G2)), (st, .inl (g.2.1 0, 8, .inl (upd S i (sBeg i)))), (k, .inr (3, [.int fr, .int un, .ref kb, .int (nI sz), .int cl])), (kb, .inl (g.2.1 1, 32, .inl f))] := hD
              refine lv_iinc (v := (nI (i + 1))) (lv' := [(4, .int (nI (i + 1))), (0, .ref dg), (1, .ref k), (2, .long (lN N))]) hx hb dX0_reckon_84 hl (k := 3) rfl (nI_1 _) (by decide) rfl (fun ls hl => ?_)
              refine lv_goto (tgt := 64) hx hb dX0_reckon_87 (by decide) ?_
              exact ihL2 (i + 1) (upd S i (sBeg i)) (by omega) (by omega) (fillS k3 rfl) _ _ hP hD hS ls (lv_sub hl [1, 2, 3, 0] rfl)
            · refine lv_icmp_ge (tgt := 90) hx hb dX0_reckon_68 (by decide) (fun _ => ?_) (fun c9 => absurd (nI_le q2 (by omega)) c9)
              refine lv_aload_n hx hb dX0_reckon_90 rfl (lv_at hl 0 rfl) ?_
              refine wVv (rest := []) ⟨hx, hb, hml, hown, hts⟩ [] [0, 1, 2] (c_X0_mix l g H.size (dg := dg) (wa := wa) (st := st) (rk := rk) (fw := G2) (fs := S) (fun j hj => k3 j (by omega))) (cwV 0 hts gX0_reckon_X0_mix rfl rfl rfl (by decide +kernel) ⟨Nat.le_of_ble_eq_true rfl, Nat.le_of_ble_eq_true rfl⟩) hK hZ hS hP hD hA rfl (by decide) (fun _ => Nat.le_of_ble_eq_true rfl) (fun _ => rfl) (va_recv hK.1 hP (ci := 2) (q0 := 0) rfl rfl) rfl hl.1 rfl (Nat.le_of_ble_eq_true rfl) dX0_reckon_91 ⟨Nat.le_of_ble_eq_true rfl, Nat.le_of_ble_eq_true rfl⟩ (fun u H locs hz2 hP hD hS => ?_)
              obtain ⟨S3, rfl⟩ : ∃ z, z = u := ⟨_, rfl⟩
              have hP : va_P g.1 vwCl [(dg, .inr (2, [.ref wa, .ref st, .int rk])), (wa, .inl (g.2.1 0, 64, .inl G2)), (st, .inl (g.2.1 0, 8, .inl S3)), (k, .inr (3, [.int fr, .int un, .ref kb, .int (nI sz), .int cl])), (kb, .inl (g.2.1 1, 32, .inl f))] H := hP
              have hD : va_D A [(dg, .inr (2, [.ref wa, .ref st, .int rk])), (wa, .inl (g.2.1 0, 64, .inl G2)), (st, .inl (g.2.1 0, 8, .inl S3)), (k, .inr (3, [.int fr, .int un, .ref kb, .int (nI sz), .int cl])), (kb, .inl (g.2.1 1, 32, .inl f))] := hD
              refine lv_aload_n hx hb dX0_reckon_94 rfl (lv_at hl 0 rfl) ?_
              refine lv_iconst (v := (nI 1)) hx hb dX0_reckon_95 (by decide) ?_
              refine va_put (D := g.1) (ci := 2) (v := .int (nI 1)) (ty := .boolean) (C := RX0) (T := TX0) (N := 3) hx hb hts hiX0 tyX0 tyX0_ok nmX0 hown hK.1 hP hD hS 0 rfl rfl 2 (by decide) (hts (.fieldLink RX0 16 "StampMaker$Digest" "reckoned" "Z") (by decide +kernel)) (fun _ h9 => h9) rfl (by decide +kernel) (by decide) (by decide) (Nat.le_of_ble_eq_true rfl) dX0_reckon_96 (fun H locs hP hD hS => ?_)
              have hP : va_P g.1 vwCl [(dg, .inr (2, [.ref wa, .ref st, .int (nI 1)])), (wa, .inl (g.2.1 0, 64, .inl G2)), (st, .inl (g.2.1 0, 8, .inl S3)), (k, .inr (3, [.int fr, .int un, .ref kb, .int (nI sz), .int cl])), (kb, .inl (g.2.1 1, 32, .inl f))] H := hP
              have hD : va_D A [(dg, .inr (2, [.ref wa, .ref st, .int (nI 1)])), (wa, .inl (g.2.1 0, 64, .inl G2)), (st, .inl (g.2.1 0, 8, .inl S3)), (k, .inr (3, [.int fr, .int un, .ref kb, .int (nI sz), .int cl])), (kb, .inl (g.2.1 1, 32, .inl f))] := hD
              exact endWv (G2, S3) hx hb hr hlocks hS dX0_reckon_99 hP hD (fun j hj => by
                                  have e1 : (G2, S3).2 j = sBeg j + rN G2 64 j := hz2 j hj
                                  rw [e1]
                                  unfold dG
                                  rw [rN_cong (n := 64) (fun i hi => (hz1 i hi).trans (wF_cong (fun j hj => hG1 j hj) 48 i (by omega))) 64 (Nat.le_refl _)])
        exact L2 9 0 fs (by omega) (by omega) (fun j hj => absurd hj (Nat.not_lt_zero j)) _ _ hP hD hS ls (lv_sub hl [1, 2, 3, 0] rfl)
  exact L1 15 0 fw (by omega) (by omega) (fun j hj => absurd hj (Nat.not_lt_zero j)) _ _ hP hD hS ls (lv_sub hl [1, 2, 3, 0] rfl)

set_option maxHeartbeats 4000000 in
set_option maxRecDepth 100000 in
/-- was one reckoned -/
theorem c_X0_isReckoned (l : Launch) (g : gE) (dg wa st : Nat) (rk : Int32) (hk : rk = 0 ∨ rk = 1) : Met l yX0_isReckoned wsX0_isReckoned ({ frames := 0, cells := 0, slots := 0, locals := 0 }) (va_Pc [.ref dg] (ro g [(dg, .inr (2, [.ref wa, .ref st, .int rk]))])) (vp_Si (fun r : Int32 => r = rk)) 0 0 nA := by
  refine ofRo (cc := cX0_isReckoned) (maxL := 1) (ret := (some .boolean)) (by decide) rfl (Nat.le_of_ble_eq_true rfl) (fun p e s m below meth c hx hb hr hml hts hown hlocks hnm hP hK hZ hS ls hl => ?_)
  have hown : s.vm.findClass RX0 = some m.cls := hown
  have hl : lv_has ls 1 [(0, .ref dg)] := hl
  have hiX0 : ∀ w ∈ wsX00, w ∈ wsX0_isReckoned := by decide +kernel
  refine lv_aload_n hx hb dX0_isReckoned_0 rfl (lv_at hl 0 rfl) ?_
  refine va_get (D := g.1) (ci := 2) (v := .int rk) (C := RX0) (T := TX0) (N := 3) hx hb hts hiX0 hown hK.1 hP 0 rfl rfl 2 (by decide) (hts (.fieldLink RX0 16 "StampMaker$Digest" "reckoned" "Z") (by decide +kernel)) (fun _ h9 => h9) rfl dX0_isReckoned_1 ?_
  exact endRz hx hb hr hlocks dX0_isReckoned_4 (by rcases hk with rfl | rfl <;> decide) (rfl)

set_option maxHeartbeats 4000000 in
set_option maxRecDepth 100000 in
/-- 25 bits -/
theorem c_X0_first25Bits (l : Launch) (g : gE) (dg wa st : Nat) (rk : Int32) (fs : Nat → Int32)  : Met l yX0_first25Bits wsX0_first25Bits ({ frames := 0, cells := 0, slots := 0, locals := 0 }) (va_Pc [.ref dg] (ro g [(dg, .inr (2, [.ref wa, .ref st, .int rk])), (st, .inl (g.2.1 0, 8, .inl fs))])) (vp_Si (fun r : Int32 => r = fB (fs 0))) 0 0 nA := by
  refine ofRo (cc := cX0_first25Bits) (maxL := 1) (ret := (some .int)) (by decide) rfl (Nat.le_of_ble_eq_true rfl) (fun p e s m below meth c hx hb hr hml hts hown hlocks hnm hP hK hZ hS ls hl => ?_)
  have hown : s.vm.findClass RX0 = some m.cls := hown
  have hl : lv_has ls 1 [(0, .ref dg)] := hl
  have hiX0 : ∀ w ∈ wsX00, w ∈ wsX0_first25Bits := by decide +kernel
  refine lv_aload_n hx hb dX0_first25Bits_0 rfl (lv_at hl 0 rfl) ?_
  refine va_get (D := g.1) (ci := 2) (v := .ref st) (C := RX0) (T := TX0) (N := 3) hx hb hts hiX0 hown hK.1 hP 0 rfl rfl 1 (by decide) (hts (.fieldLink RX0 13 "StampMaker$Digest" "state" "[I") (by decide +kernel)) (fun _ h9 => h9) rfl dX0_first25Bits_1 ?_
  refine lv_iconst (v := (nI 0)) hx hb dX0_first25Bits_4 (by decide) ?_
  refine va_iald hx hb hK.1 hP 1 0 rfl rfl (vp_in_nI (by omega) (by omega)) dX0_first25Bits_5 ?_
  refine lv_rei (x' := fs 0) (congrArg fs (nI_clamp (by omega))) ?_
  refine lv_bipush (v := (nI 7)) hx hb dX0_first25Bits_6 (by decide) ?_
  refine lv_iushr hx hb dX0_first25Bits_8 rfl ?_
  exact endRi hx hb hr hlocks dX0_first25Bits_9 (rfl)

set_option maxHeartbeats 4000000 in
set_option maxRecDepth 100000 in
/-- byte i of the digest -/
theorem c_X0_octetAt (l : Launch) (g : gE) (dg wa st : Nat) (rk : Int32) (fs : Nat → Int32) (i : Nat) (hi : i < 32) : Met l yX0_octetAt wsX0_octetAt ({ frames := 0, cells := 0, slots := 0, locals := 0 }) (va_Pc [.ref dg, .int (nI i)] (ro g [(dg, .inr (2, [.ref wa, .ref st, .int rk])), (st, .inl (g.2.1 0, 8, .inl fs))])) (vp_Si (fun r : Int32 => r = oB (fs (i / 4)) (24 - 8 * (i % 4)))) 0 0 nA := by
  refine ofRo (cc := cX0_octetAt) (maxL := 2) (ret := (some .byte)) (by decide) rfl (Nat.le_of_ble_eq_true rfl) (fun p e s m below meth c hx hb hr hml hts hown hlocks hnm hP hK hZ hS ls hl => ?_)
  have hown : s.vm.findClass RX0 = some m.cls := hown
  have hl : lv_has ls 2 [(0, .ref dg), (1, .int (nI i))] := hl
  have hiX0 : ∀ w ∈ wsX00, w ∈ wsX0_octetAt := by decide +kernel
  refine lv_iload_n hx hb dX0_octetAt_0 rfl (lv_at hl 1 rfl) ?_
  refine lv_if_lt (tgt := 32) hx hb dX0_octetAt_1 (by decide) (fun c9 => absurd c9 (nI_pos (by omega))) (fun _ => ?_)
  refine lv_iload_n hx hb dX0_octetAt_4 rfl (lv_at hl 1 rfl) ?_
  refine lv_bipush (v := (nI 32)) hx hb dX0_octetAt_5 (by decide) ?_
  refine lv_icmp_ge (tgt := 32) hx hb dX0_octetAt_7 (by decide) (fun c9 => absurd c9 (nI_ge (by omega) (by omega))) (fun _ => ?_)
  refine lv_aload_n hx hb dX0_octetAt_10 rfl (lv_at hl 0 rfl) ?_
  refine va_get (D := g.1) (ci := 2) (v := .ref st) (C := RX0) (T := TX0) (N := 3) hx hb hts hiX0 hown hK.1 hP 0 rfl rfl 1 (by decide) (hts (.fieldLink RX0 13 "StampMaker$Digest" "state" "[I") (by decide +kernel)) (fun _ h9 => h9) rfl dX0_octetAt_11 ?_
  refine lv_iload_n hx hb dX0_octetAt_14 rfl (lv_at hl 1 rfl) ?_
  refine lv_iconst (v := (nI 2)) hx hb dX0_octetAt_15 (by decide) ?_
  refine lv_ishr hx hb dX0_octetAt_16 ?_
  refine lv_rei (x' := (nI (i / 4))) (pk_shrN (by omega) _ 2 (by decide)) ?_
  refine va_iald hx hb hK.1 hP 1 0 rfl rfl (vp_in_nI (by omega) (by omega)) dX0_octetAt_17 ?_
  refine lv_rei (x' := fs (i / 4)) (congrArg fs (nI_clamp (by omega))) ?_
  refine lv_bipush (v := (nI 24)) hx hb dX0_octetAt_18 (by decide) ?_
  refine lv_bipush (v := (nI 8)) hx hb dX0_octetAt_20 (by decide) ?_
  refine lv_iload_n hx hb dX0_octetAt_22 rfl (lv_at hl 1 rfl) ?_
  refine lv_iconst (v := (nI 3)) hx hb dX0_octetAt_23 (by decide) ?_
  refine lv_iand hx hb dX0_octetAt_24 ?_
  refine lv_rei (x' := (nI (i % 4))) (andN 2 (by omega) rfl (by decide)) ?_
  refine lv_imul hx hb dX0_octetAt_25 ?_
  refine lv_rei (x' := (nI (8 * (i % 4)))) (pk_mul _ _) ?_
  refine lv_isub hx hb dX0_octetAt_26 ?_
  refine lv_rei (x' := (nI (24 - 8 * (i % 4)))) (pk_sub (by omega)) ?_
  refine lv_iushr hx hb dX0_octetAt_27 rfl ?_
  refine lv_i2b hx hb dX0_octetAt_28 rfl ?_
  refine lv_goto (tgt := 33) hx hb dX0_octetAt_29 (by decide) ?_
  exact endRz hx hb hr hlocks dX0_octetAt_33 (pk_nb _) (rfl)
