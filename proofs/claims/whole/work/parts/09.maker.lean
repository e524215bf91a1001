/-- what first answers -/
def fi (x sp : Int32) (fd fch : Nat → Int32) : Int32 := if ¬ (0 ≤ x.toInt ∧ x.toInt ≤ 2) then -22 else if sp < 0 then -1 else if x = 0 then sp else if x = nI 1 then fd sp.toNatClampNeg else fch sp.toNatClampNeg
set_option maxHeartbeats 4000000 in
set_option maxRecDepth 100000 in
/-- what became of serial j -/
theorem c_X3_fateOf_in (l : Launch) (g : gE) (lg fa da ch : Nat) (ff : Nat → Int32) (j : Nat) (hj : j < 16384) : Met l yX3_fateOf wsX3_fateOf ({ frames := 1, cells := 0, slots := 0, locals := 21 }) (va_Pc [.ref lg, .long (lN j)] (ro g [(lg, .inr (4, [.ref fa, .ref da, .ref ch])), (fa, .inl (g.2.1 1, 16384, .inl ff))])) (vp_Si (fun r : Int32 => r = ff j)) 0 0 nA := by
  refine ofRo (cc := cX3_fateOf) (maxL := 3) (ret := (some .int)) (by decide) rfl (Nat.le_of_ble_eq_true rfl) (fun p e s m below meth c hx hb hr hml hts hown hlocks hnm hP hK hZ hS ls hl => ?_)
  have hown : s.vm.findClass RX3 = some m.cls := hown
  have hl : lv_has ls 3 [(0, .ref lg), (1, .long (lN j))] := hl
  have hiX3 : ∀ w ∈ wsX30, w ∈ wsX3_fateOf := by decide +kernel
  have tj := tl_n (n := j) (by omega)
  refine lv_lload_n hx hb dX3_fateOf_0 rfl (lv_at hl 1 rfl) ?_
  refine cSi (rest := []) ⟨hx, hb, hml, hown, hts⟩ [.long (lN j)] (c_X3_isSerial l g (x := (lN j))) (va_cwS 1 hts gX3_fateOf_X3_isSerial rfl rfl rfl (by decide +kernel) ⟨Nat.le_of_ble_eq_true rfl, Nat.le_of_ble_eq_true rfl⟩) hK hZ hS (subP hP [] rfl) rfl hl.1 rfl (Nat.le_of_ble_eq_true rfl) dX3_fateOf_1 ⟨Nat.zero_le _, Nat.zero_le _⟩ (fun r_46 hr_46 => ?_)
  obtain rfl : r_46 = (inI (lN j).toInt 0 16383) := hr_46
  refine lv_if_eq (tgt := 17) hx hb dX3_fateOf_4 (by decide) (fun c9 => absurd c9 (by rw [inI_1 (by omega) (by omega)]; decide)) (fun _ => ?_)
  refine lv_aload_n hx hb dX3_fateOf_7 rfl (lv_at hl 0 rfl) ?_
  refine va_get (D := g.1) (ci := 4) (v := .ref fa) (C := RX3) (T := TX3) (N := 3) hx hb hts hiX3 hown hK.1 hP 0 rfl rfl 0 (by decide) (hts (.fieldLink RX3 9 "StampMaker$Ledger" "fates" "[B") (by decide +kernel)) (fun _ h9 => h9) rfl dX3_fateOf_8 ?_
  refine lv_lload_n hx hb dX3_fateOf_11 rfl (lv_at hl 1 rfl) ?_
  refine lv_l2i hx hb dX3_fateOf_12 rfl ?_
  refine lv_rei (x' := (nI j)) (lN_i j) ?_
  refine va_bald hx hb hK.1 hP 1 1 rfl rfl (vp_in_nI (by omega) (by omega)) dX3_fateOf_13 ?_
  refine lv_rei (x' := ff j) (congrArg ff (nI_clamp (by omega))) ?_
  refine lv_goto (tgt := 18) hx hb dX3_fateOf_14 (by decide) ?_
  exact endRi hx hb hr hlocks dX3_fateOf_18 (rfl)

set_option maxHeartbeats 4000000 in
set_option maxRecDepth 100000 in
/-- none such -/
theorem c_X3_fateOf_out (l : Launch) (g : gE) (lg fa da ch : Nat) (ff : Nat → Int32) (x : Int64) (hx0 : ¬ (0 ≤ x.toInt ∧ x.toInt ≤ 16383)) : Met l yX3_fateOf wsX3_fateOf ({ frames := 1, cells := 0, slots := 0, locals := 21 }) (va_Pc [.ref lg, .long x] (ro g [(lg, .inr (4, [.ref fa, .ref da, .ref ch])), (fa, .inl (g.2.1 1, 16384, .inl ff))])) (vp_Si (fun r : Int32 => r = nI 0)) 0 0 nA := by
  refine ofRo (cc := cX3_fateOf) (maxL := 3) (ret := (some .int)) (by decide) rfl (Nat.le_of_ble_eq_true rfl) (fun p e s m below meth c hx hb hr hml hts hown hlocks hnm hP hK hZ hS ls hl => ?_)
  have hown : s.vm.findClass RX3 = some m.cls := hown
  have hl : lv_has ls 3 [(0, .ref lg), (1, .long x)] := hl
  have hiX3 : ∀ w ∈ wsX30, w ∈ wsX3_fateOf := by decide +kernel
  refine lv_lload_n hx hb dX3_fateOf_0 rfl (lv_at hl 1 rfl) ?_
  refine cSi (rest := []) ⟨hx, hb, hml, hown, hts⟩ [.long x] (c_X3_isSerial l g (x := x)) (va_cwS 1 hts gX3_fateOf_X3_isSerial rfl rfl rfl (by decide +kernel) ⟨Nat.le_of_ble_eq_true rfl, Nat.le_of_ble_eq_true rfl⟩) hK hZ hS (subP hP [] rfl) rfl hl.1 rfl (Nat.le_of_ble_eq_true rfl) dX3_fateOf_1 ⟨Nat.zero_le _, Nat.zero_le _⟩ (fun r_47 hr_47 => ?_)
  obtain rfl : r_47 = (inI x.toInt 0 16383) := hr_47
  refine lv_if_eq (tgt := 17) hx hb dX3_fateOf_4 (by decide) (fun _ => ?_) (fun c9 => absurd (inI_0 hx0) c9)
  refine lv_iconst (v := (nI 0)) hx hb dX3_fateOf_17 (by decide) ?_
  exact endRi hx hb hr hlocks dX3_fateOf_18 (rfl)

set_option maxHeartbeats 4000000 in
set_option maxRecDepth 100000 in
/-- of serial j -/
theorem c_X3_dayOf (l : Launch) (g : gE) (lg fa da ch : Nat) (fd : Nat → Int32) (j : Nat) (hj : j < 16384) : Met l yX3_dayOf wsX3_dayOf ({ frames := 1, cells := 0, slots := 0, locals := 21 }) (va_Pc [.ref lg, .int (nI j)] (ro g [(lg, .inr (4, [.ref fa, .ref da, .ref ch])), (da, .inl (g.2.1 0, 16384, .inl fd))])) (vp_Si (fun r : Int32 => r = fd j)) 0 0 nA := by
  refine ofRo (cc := cX3_dayOf) (maxL := 2) (ret := (some .int)) (by decide) rfl (Nat.le_of_ble_eq_true rfl) (fun p e s m below meth c hx hb hr hml hts hown hlocks hnm hP hK hZ hS ls hl => ?_)
  have hown : s.vm.findClass RX3 = some m.cls := hown
  have hl : lv_has ls 2 [(0, .ref lg), (1, .int (nI j))] := hl
  have hiX3 : ∀ w ∈ wsX30, w ∈ wsX3_dayOf := by decide +kernel
  have tj := tl_n (n := j) (by omega)
  refine lv_iload_n hx hb dX3_dayOf_0 rfl (lv_at hl 1 rfl) ?_
  refine lv_i2l hx hb dX3_dayOf_1 rfl ?_
  refine lv_rel (x' := (lN j)) (nI_L (by omega)) ?_
  refine cSi (rest := []) ⟨hx, hb, hml, hown, hts⟩ [.long (lN j)] (c_X3_isSerial l g (x := (lN j))) (va_cwS 1 hts gX3_dayOf_X3_isSerial rfl rfl rfl (by decide +kernel) ⟨Nat.le_of_ble_eq_true rfl, Nat.le_of_ble_eq_true rfl⟩) hK hZ hS (subP hP [] rfl) rfl hl.1 rfl (Nat.le_of_ble_eq_true rfl) dX3_dayOf_2 ⟨Nat.zero_le _, Nat.zero_le _⟩ (fun r_48 hr_48 => ?_)
  obtain rfl : r_48 = (inI (lN j).toInt 0 16383) := hr_48
  refine lv_if_eq (tgt := 17) hx hb dX3_dayOf_5 (by decide) (fun c9 => absurd c9 (by rw [inI_1 (by omega) (by omega)]; decide)) (fun _ => ?_)
  refine lv_aload_n hx hb dX3_dayOf_8 rfl (lv_at hl 0 rfl) ?_
  refine va_get (D := g.1) (ci := 4) (v := .ref da) (C := RX3) (T := TX3) (N := 3) hx hb hts hiX3 hown hK.1 hP 0 rfl rfl 1 (by decide) (hts (.fieldLink RX3 15 "StampMaker$Ledger" "days" "[I") (by decide +kernel)) (fun _ h9 => h9) rfl dX3_dayOf_9 ?_
  refine lv_iload_n hx hb dX3_dayOf_12 rfl (lv_at hl 1 rfl) ?_
  refine va_iald hx hb hK.1 hP 1 0 rfl rfl (vp_in_nI (by omega) (by omega)) dX3_dayOf_13 ?_
  refine lv_rei (x' := fd j) (congrArg fd (nI_clamp (by omega))) ?_
  refine lv_goto (tgt := 18) hx hb dX3_dayOf_14 (by decide) ?_
  exact endRi hx hb hr hlocks dX3_dayOf_18 (rfl)

set_option maxHeartbeats 4000000 in
set_option maxRecDepth 100000 in
/-- of serial j -/
theorem c_X3_checkOf (l : Launch) (g : gE) (lg fa da ch : Nat) (fc : Nat → Int32) (j : Nat) (hj : j < 16384) : Met l yX3_checkOf wsX3_checkOf ({ frames := 1, cells := 0, slots := 0, locals := 21 }) (va_Pc [.ref lg, .int (nI j)] (ro g [(lg, .inr (4, [.ref fa, .ref da, .ref ch])), (ch, .inl (g.2.1 0, 16384, .inl fc))])) (vp_Si (fun r : Int32 => r = fc j)) 0 0 nA := by
  refine ofRo (cc := cX3_checkOf) (maxL := 2) (ret := (some .int)) (by decide) rfl (Nat.le_of_ble_eq_true rfl) (fun p e s m below meth c hx hb hr hml hts hown hlocks hnm hP hK hZ hS ls hl => ?_)
  have hown : s.vm.findClass RX3 = some m.cls := hown
  have hl : lv_has ls 2 [(0, .ref lg), (1, .int (nI j))] := hl
  have hiX3 : ∀ w ∈ wsX30, w ∈ wsX3_checkOf := by decide +kernel
  have tj := tl_n (n := j) (by omega)
  refine lv_iload_n hx hb dX3_checkOf_0 rfl (lv_at hl 1 rfl) ?_
  refine lv_i2l hx hb dX3_checkOf_1 rfl ?_
  refine lv_rel (x' := (lN j)) (nI_L (by omega)) ?_
  refine cSi (rest := []) ⟨hx, hb, hml, hown, hts⟩ [.long (lN j)] (c_X3_isSerial l g (x := (lN j))) (va_cwS 1 hts gX3_checkOf_X3_isSerial rfl rfl rfl (by decide +kernel) ⟨Nat.le_of_ble_eq_true rfl, Nat.le_of_ble_eq_true rfl⟩) hK hZ hS (subP hP [] rfl) rfl hl.1 rfl (Nat.le_of_ble_eq_true rfl) dX3_checkOf_2 ⟨Nat.zero_le _, Nat.zero_le _⟩ (fun r_49 hr_49 => ?_)
  obtain rfl : r_49 = (inI (lN j).toInt 0 16383) := hr_49
  refine lv_if_eq (tgt := 17) hx hb dX3_checkOf_5 (by decide) (fun c9 => absurd c9 (by rw [inI_1 (by omega) (by omega)]; decide)) (fun _ => ?_)
  refine lv_aload_n hx hb dX3_checkOf_8 rfl (lv_at hl 0 rfl) ?_
  refine va_get (D := g.1) (ci := 4) (v := .ref ch) (C := RX3) (T := TX3) (N := 3) hx hb hts hiX3 hown hK.1 hP 0 rfl rfl 2 (by decide) (hts (.fieldLink RX3 19 "StampMaker$Ledger" "checks" "[I") (by decide +kernel)) (fun _ h9 => h9) rfl dX3_checkOf_9 ?_
  refine lv_iload_n hx hb dX3_checkOf_12 rfl (lv_at hl 1 rfl) ?_
  refine va_iald hx hb hK.1 hP 1 0 rfl rfl (vp_in_nI (by omega) (by omega)) dX3_checkOf_13 ?_
  refine lv_rei (x' := fc j) (congrArg fc (nI_clamp (by omega))) ?_
  refine lv_goto (tgt := 18) hx hb dX3_checkOf_14 (by decide) ?_
  exact endRi hx hb hr hlocks dX3_checkOf_18 (rfl)

set_option maxHeartbeats 4000000 in
set_option maxRecDepth 100000 in
/-- spent -/
theorem c_X3_spend (l : Launch) (g : gE) (hsz : Nat) (lg fa da ch : Nat) (ff fd fc : Nat → Int32) (j : Nat) (xd xc : Int32) (hj : j < 16384) : Met l yX3_spend wsX3_spend ({ frames := 1, cells := 0, slots := 0, locals := 21 }) (va_Pc [.ref lg, .int (nI j), .int xd, .int xc] (wr g [(lg, .inr (4, [.ref fa, .ref da, .ref ch])), (fa, .inl (g.2.1 1, 16384, .inl ff)), (da, .inl (g.2.1 0, 16384, .inl fd)), (ch, .inl (g.2.1 0, 16384, .inl fc))] hsz)) (va_Qv (fun (u : Unit) => True) (wB g (va_A [(lg, .inr (4, [.ref fa, .ref da, .ref ch])), (fa, .inl (g.2.1 1, 16384, .inl ff)), (da, .inl (g.2.1 0, 16384, .inl fd)), (ch, .inl (g.2.1 0, 16384, .inl fc))] hsz) (fun u : Unit => [(lg, .inr (4, [.ref fa, .ref da, .ref ch])), (fa, .inl (g.2.1 1, 16384, .inl (upd ff j (nI 1)))), (da, .inl (g.2.1 0, 16384, .inl (upd fd j xd))), (ch, .inl (g.2.1 0, 16384, .inl (upd fc j xc)))])) (va_A [(lg, .inr (4, [.ref fa, .ref da, .ref ch])), (fa, .inl (g.2.1 1, 16384, .inl ff)), (da, .inl (g.2.1 0, 16384, .inl fd)), (ch, .inl (g.2.1 0, 16384, .inl fc))] hsz)) 0 0 (va_A [(lg, .inr (4, [.ref fa, .ref da, .ref ch])), (fa, .inl (g.2.1 1, 16384, .inl ff)), (da, .inl (g.2.1 0, 16384, .inl fd)), (ch, .inl (g.2.1 0, 16384, .inl fc))] hsz) := by
  refine ofWv (cc := cX3_spend) (maxL := 4) (ret := none) (by decide) rfl (Nat.le_of_ble_eq_true rfl) (fun p e s m below meth c hx hb hr hml hts hown hlocks hnm A H hH hA hP hD hK hZ hS ls hl => ?_)
  have hown : s.vm.findClass RX3 = some m.cls := hown
  have hl : lv_has ls 4 [(0, .ref lg), (1, .int (nI j)), (2, .int xd), (3, .int xc)] := hl
  have hiX3 : ∀ w ∈ wsX30, w ∈ wsX3_spend := by decide +kernel
  have tj := tl_n (n := j) (by omega)
  refine lv_iload_n hx hb dX3_spend_0 rfl (lv_at hl 1 rfl) ?_
  refine lv_i2l hx hb dX3_spend_1 rfl ?_
  refine lv_rel (x' := (lN j)) (nI_L (by omega)) ?_
  refine cSi (rest := []) ⟨hx, hb, hml, hown, hts⟩ [.long (lN j)] (c_X3_isSerial l g (x := (lN j))) (va_cwS 1 hts gX3_spend_X3_isSerial rfl rfl rfl (by decide +kernel) ⟨Nat.le_of_ble_eq_true rfl, Nat.le_of_ble_eq_true rfl⟩) hK hZ hS (subP hP [] rfl) rfl hl.1 rfl (Nat.le_of_ble_eq_true rfl) dX3_spend_2 ⟨Nat.zero_le _, Nat.zero_le _⟩ (fun r_50 hr_50 => ?_)
  obtain rfl : r_50 = (inI (lN j).toInt 0 16383) := hr_50
  refine lv_if_ne (tgt := 9) hx hb dX3_spend_5 (by decide) (fun _ => ?_) (fun c9 => absurd c9 (by rw [inI_1 (by omega) (by omega)]; decide))
  refine lv_aload_n hx hb dX3_spend_9 rfl (lv_at hl 0 rfl) ?_
  refine va_get (D := g.1) (ci := 4) (v := .ref fa) (C := RX3) (T := TX3) (N := 3) hx hb hts hiX3 hown hK.1 hP 0 rfl rfl 0 (by decide) (hts (.fieldLink RX3 9 "StampMaker$Ledger" "fates" "[B") (by decide +kernel)) (fun _ h9 => h9) rfl dX3_spend_10 ?_
  refine lv_iload_n hx hb dX3_spend_13 rfl (lv_at hl 1 rfl) ?_
  refine lv_iconst (v := (nI 1)) hx hb dX3_spend_14 (by decide) ?_
  refine va_bast hx hb hK.1 hP hD hS 1 1 rfl rfl (vp_in_nI (by omega) (by omega)) dX3_spend_15 (fun H locs hP hD hS => ?_)
  rw [nI_clamp (by omega)] at hP hD
  rw [(by decide : vp_nar .byte (nI 1) = nI 1)] at hP hD
  have hP : va_P g.1 vwCl [(lg, .inr (4, [.ref fa, .ref da, .ref ch])), (fa, .inl (g.2.1 1, 16384, .inl (upd ff j (nI 1)))), (da, .inl (g.2.1 0, 16384, .inl fd)), (ch, .inl (g.2.1 0, 16384, .inl fc))] H := hP
  have hD : va_D A [(lg, .inr (4, [.ref fa, .ref da, .ref ch])), (fa, .inl (g.2.1 1, 16384, .inl (upd ff j (nI 1)))), (da, .inl (g.2.1 0, 16384, .inl fd)), (ch, .inl (g.2.1 0, 16384, .inl fc))] := hD
  refine lv_aload_n hx hb dX3_spend_16 rfl (lv_at hl 0 rfl) ?_
  refine va_get (D := g.1) (ci := 4) (v := .ref da) (C := RX3) (T := TX3) (N := 3) hx hb hts hiX3 hown hK.1 hP 0 rfl rfl 1 (by decide) (hts (.fieldLink RX3 15 "StampMaker$Ledger" "days" "[I") (by decide +kernel)) (fun _ h9 => h9) rfl dX3_spend_17 ?_
  refine lv_iload_n hx hb dX3_spend_20 rfl (lv_at hl 1 rfl) ?_
  refine lv_iload_n hx hb dX3_spend_21 rfl (lv_at hl 2 rfl) ?_
  refine va_iast hx hb hK.1 hP hD hS 2 0 rfl rfl (vp_in_nI (by omega) (by omega)) dX3_spend_22 (fun H locs hP hD hS => ?_)
  rw [nI_clamp (by omega)] at hP hD
  have hP : va_P g.1 vwCl [(lg, .inr (4, [.ref fa, .ref da, .ref ch])), (fa, .inl (g.2.1 1, 16384, .inl (upd ff j (nI 1)))), (da, .inl (g.2.1 0, 16384, .inl (upd fd j xd))), (ch, .inl (g.2.1 0, 16384, .inl fc))] H := hP
  have hD : va_D A [(lg, .inr (4, [.ref fa, .ref da, .ref ch])), (fa, .inl (g.2.1 1, 16384, .inl (upd ff j (nI 1)))), (da, .inl (g.2.1 0, 16384, .inl (upd fd j xd))), (ch, .inl (g.2.1 0, 16384, .inl fc))] := hD
  refine lv_aload_n hx hb dX3_spend_23 rfl (lv_at hl 0 rfl) ?_
  refine va_get (D := g.1) (ci := 4) (v := .ref ch) (C := RX3) (T := TX3) (N := 3) hx hb hts hiX3 hown hK.1 hP 0 rfl rfl 2 (by decide) (hts (.fieldLink RX3 19 "StampMaker$Ledger" "checks" "[I") (by decide +kernel)) (fun _ h9 => h9) rfl dX3_spend_24 ?_
  refine lv_iload_n hx hb dX3_spend_27 rfl (lv_at hl 1 rfl) ?_
  refine lv_iload_n hx hb dX3_spend_28 rfl (lv_at hl 3 rfl) ?_
  refine va_iast hx hb hK.1 hP hD hS 3 0 rfl rfl (vp_in_nI (by omega) (by omega)) dX3_spend_29 (fun H locs hP hD hS => ?_)
  rw [nI_clamp (by omega)] at hP hD
  have hP : va_P g.1 vwCl [(lg, .inr (4, [.ref fa, .ref da, .ref ch])), (fa, .inl (g.2.1 1, 16384, .inl (upd ff j (nI 1)))), (da, .inl (g.2.1 0, 16384, .inl (upd fd j xd))), (ch, .inl (g.2.1 0, 16384, .inl (upd fc j xc)))] H := hP
  have hD : va_D A [(lg, .inr (4, [.ref fa, .ref da, .ref ch])), (fa, .inl (g.2.1 1, 16384, .inl (upd ff j (nI 1)))), (da, .inl (g.2.1 0, 16384, .inl (upd fd j xd))), (ch, .inl (g.2.1 0, 16384, .inl (upd fc j xc)))] := hD
  exact endWv () hx hb hr hlocks hS dX3_spend_30 hP hD (trivial)

set_option maxHeartbeats 4000000 in
set_option maxRecDepth 100000 in
/-- given back -/
theorem c_X3_giveBack (l : Launch) (g : gE) (hsz : Nat) (lg fa da ch : Nat) (ff : Nat → Int32) (j : Nat) (hj : j < 16384) : Met l yX3_giveBack wsX3_giveBack ({ frames := 1, cells := 0, slots := 0, locals := 21 }) (va_Pc [.ref lg, .int (nI j)] (wr g [(lg, .inr (4, [.ref fa, .ref da, .ref ch])), (fa, .inl (g.2.1 1, 16384, .inl ff))] hsz)) (va_Qv (fun (u : Unit) => True) (wB g (va_A [(lg, .inr (4, [.ref fa, .ref da, .ref ch])), (fa, .inl (g.2.1 1, 16384, .inl ff))] hsz) (fun u : Unit => [(lg, .inr (4, [.ref fa, .ref da, .ref ch])), (fa, .inl (g.2.1 1, 16384, .inl (upd ff j (nI 2))))])) (va_A [(lg, .inr (4, [.ref fa, .ref da, .ref ch])), (fa, .inl (g.2.1 1, 16384, .inl ff))] hsz)) 0 0 (va_A [(lg, .inr (4, [.ref fa, .ref da, .ref ch])), (fa, .inl (g.2.1 1, 16384, .inl ff))] hsz) := by
  refine ofWv (cc := cX3_giveBack) (maxL := 2) (ret := none) (by decide) rfl (Nat.le_of_ble_eq_true rfl) (fun p e s m below meth c hx hb hr hml hts hown hlocks hnm A H hH hA hP hD hK hZ hS ls hl => ?_)
  have hown : s.vm.findClass RX3 = some m.cls := hown
  have hl : lv_has ls 2 [(0, .ref lg), (1, .int (nI j))] := hl
  have hiX3 : ∀ w ∈ wsX30, w ∈ wsX3_giveBack := by decide +kernel
  have tj := tl_n (n := j) (by omega)
  refine lv_iload_n hx hb dX3_giveBack_0 rfl (lv_at hl 1 rfl) ?_
  refine lv_i2l hx hb dX3_giveBack_1 rfl ?_
  refine lv_rel (x' := (lN j)) (nI_L (by omega)) ?_
  refine cSi (rest := []) ⟨hx, hb, hml, hown, hts⟩ [.long (lN j)] (c_X3_isSerial l g (x := (lN j))) (va_cwS 1 hts gX3_giveBack_X3_isSerial rfl rfl rfl (by decide +kernel) ⟨Nat.le_of_ble_eq_true rfl, Nat.le_of_ble_eq_true rfl⟩) hK hZ hS (subP hP [] rfl) rfl hl.1 rfl (Nat.le_of_ble_eq_true rfl) dX3_giveBack_2 ⟨Nat.zero_le _, Nat.zero_le _⟩ (fun r_51 hr_51 => ?_)
  obtain rfl : r_51 = (inI (lN j).toInt 0 16383) := hr_51
  refine lv_if_eq (tgt := 15) hx hb dX3_giveBack_5 (by decide) (fun c9 => absurd c9 (by rw [inI_1 (by omega) (by omega)]; decide)) (fun _ => ?_)
  refine lv_aload_n hx hb dX3_giveBack_8 rfl (lv_at hl 0 rfl) ?_
  refine va_get (D := g.1) (ci := 4) (v := .ref fa) (C := RX3) (T := TX3) (N := 3) hx hb hts hiX3 hown hK.1 hP 0 rfl rfl 0 (by decide) (hts (.fieldLink RX3 9 "StampMaker$Ledger" "fates" "[B") (by decide +kernel)) (fun _ h9 => h9) rfl dX3_giveBack_9 ?_
  refine lv_iload_n hx hb dX3_giveBack_12 rfl (lv_at hl 1 rfl) ?_
  refine lv_iconst (v := (nI 2)) hx hb dX3_giveBack_13 (by decide) ?_
  refine va_bast hx hb hK.1 hP hD hS 1 1 rfl rfl (vp_in_nI (by omega) (by omega)) dX3_giveBack_14 (fun H locs hP hD hS => ?_)
  rw [nI_clamp (by omega)] at hP hD
  rw [(by decide : vp_nar .byte (nI 2) = nI 2)] at hP hD
  have hP : va_P g.1 vwCl [(lg, .inr (4, [.ref fa, .ref da, .ref ch])), (fa, .inl (g.2.1 1, 16384, .inl (upd ff j (nI 2))))] H := hP
  have hD : va_D A [(lg, .inr (4, [.ref fa, .ref da, .ref ch])), (fa, .inl (g.2.1 1, 16384, .inl (upd ff j (nI 2))))] := hD
  exact endWv () hx hb hr hlocks hS dX3_giveBack_15 hP hD (trivial)

set_option maxHeartbeats 4000000 in
set_option maxRecDepth 100000 in
/-- a key made -/
theorem c_X2_init (l : Launch) (g : gE) (hsz : Nat) (k : Nat) (fr un : Int32)  : Met l yX2_init wsX2_init ({ frames := 1, cells := 1, slots := 32, locals := 12 }) (va_Pc [.ref k, .int fr, .int un] (wr g [(k, .inr (3, [.int 0, .int 0, .null, .int 0, .int 0]))] hsz)) (va_Qv (fun (u : Nat) => True) (wB g (va_A [(k, .inr (3, [.int 0, .int 0, .null, .int 0, .int 0]))] hsz) (fun u : Nat => [(k, .inr (3, [.int fr, .int un, .ref u, .int 0, .int 0])), (u, .inl (g.2.1 1, 32, .inl (fun _ => 0)))])) (va_A [(k, .inr (3, [.int 0, .int 0, .null, .int 0, .int 0]))] hsz)) 1 32 (va_A [(k, .inr (3, [.int 0, .int 0, .null, .int 0, .int 0]))] hsz) := by
  refine ofWv (cc := cX2_init) (maxL := 3) (ret := none) (by decide) rfl (Nat.le_of_ble_eq_true rfl) (fun p e s m below meth c hx hb hr hml hts hown hlocks hnm A H hH hA hP hD hK hZ hS ls hl => ?_)
  have hown : s.vm.findClass RX2 = some m.cls := hown
  have hl : lv_has ls 3 [(0, .ref k), (1, .int fr), (2, .int un)] := hl
  have hiX2 : ∀ w ∈ wsX20, w ∈ wsX2_init := by decide +kernel
  refine lv_aload_n hx hb dX2_init_0 rfl (lv_at hl 0 rfl) ?_
  refine W.objInit hx hb hown (hts (.methodLink RX2 1 objectInit) (by decide +kernel)) (hts (.instanceMethod objectInit) (by decide +kernel)) (hts (.code objectInit ⟨#[0xb1]⟩ 1 none) (by decide +kernel)) rfl (by rw [hml]; exact hl.1) rfl dX2_init_1 (Nat.le_of_ble_eq_true rfl) (Nat.le_of_ble_eq_true rfl) ?_
  refine W.eq (g2 := F0 m 4 ls []) rfl ?_
  refine lv_aload_n hx hb dX2_init_4 rfl (lv_at hl 0 rfl) ?_
  refine lv_bipush (v := (nI 32)) hx hb dX2_init_5 (by decide) ?_
  refine va_newa (atype := .byte) (ty := .byte) (N' := 32) (a0 := (32, .inl (fun _ => 0))) hx hb (hts (.arrayClass .byte) (by decide +kernel)) rfl hK.1 hP hD hS hA (fun _ => rfl) (by decide) (by decide) (by decide) (Nat.le_of_ble_eq_true rfl) (Nat.le_of_ble_eq_true rfl) dX2_init_7 (fun qb cA H hK9 hP hD hS => ?_)
  obtain rfl : cA = g.2.1 1 := Option.some.inj ((va_nm_byte (hK9.2 5 _ rfl).2).symm.trans (va_nm_byte (hK.1.2 1 _ rfl).2))
  have hP : va_P g.1 vwCl [(k, .inr (3, [.int 0, .int 0, .null, .int 0, .int 0])), (qb, .inl (g.2.1 1, 32, .inl (fun _ => 0)))] H := hP
  have hD : va_D A [(k, .inr (3, [.int 0, .int 0, .null, .int 0, .int 0])), (qb, .inl (g.2.1 1, 32, .inl (fun _ => 0)))] := hD
  refine va_putF (D := g.1) (ci := 3) (v := .ref qb) (ty := .array .byte) (C := RX2) (T := TX2) (N := 5) hx hb hts hiX2 tyX2 tyX2_ok nmX2 hown hK.1 hP hD hS 0 rfl rfl 2 (by decide) (hts (.fieldLink RX2 9 "StampMaker$Key" "bytes" "[B") (by decide +kernel)) (fun _ h9 => h9) rfl hnm rfl (by decide +kernel) rfl rfl (Nat.le_of_ble_eq_true rfl) dX2_init_9 (fun H locs hP hD hS => ?_)
  have hP : va_P g.1 vwCl [(k, .inr (3, [.int 0, .int 0, .ref qb, .int 0, .int 0])), (qb, .inl (g.2.1 1, 32, .inl (fun _ => 0)))] H := hP
  have hD : va_D A [(k, .inr (3, [.int 0, .int 0, .ref qb, .int 0, .int 0])), (qb, .inl (g.2.1 1, 32, .inl (fun _ => 0)))] := hD
  refine lv_aload_n hx hb dX2_init_12 rfl (lv_at hl 0 rfl) ?_
  refine lv_iload_n hx hb dX2_init_13 rfl (lv_at hl 1 rfl) ?_
  refine va_putF (D := g.1) (ci := 3) (v := .int fr) (ty := .int) (C := RX2) (T := TX2) (N := 5) hx hb hts hiX2 tyX2 tyX2_ok nmX2 hown hK.1 hP hD hS 0 rfl rfl 0 (by decide) (hts (.fieldLink RX2 13 "StampMaker$Key" "from" "I") (by decide +kernel)) (fun _ h9 => h9) rfl hnm rfl (by decide +kernel) rfl rfl (Nat.le_of_ble_eq_true rfl) dX2_init_14 (fun H locs hP hD hS => ?_)
  have hP : va_P g.1 vwCl [(k, .inr (3, [.int fr, .int 0, .ref qb, .int 0, .int 0])), (qb, .inl (g.2.1 1, 32, .inl (fun _ => 0)))] H := hP
  have hD : va_D A [(k, .inr (3, [.int fr, .int 0, .ref qb, .int 0, .int 0])), (qb, .inl (g.2.1 1, 32, .inl (fun _ => 0)))] := hD
  refine lv_aload_n hx hb dX2_init_17 rfl (lv_at hl 0 rfl) ?_
  refine lv_iload_n hx hb dX2_init_18 rfl (lv_at hl 2 rfl) ?_
  refine va_putF (D := g.1) (ci := 3) (v := .int un) (ty := .int) (C := RX2) (T := TX2) (N := 5) hx hb hts hiX2 tyX2 tyX2_ok nmX2 hown hK.1 hP hD hS 0 rfl rfl 1 (by decide) (hts (.fieldLink RX2 17 "StampMaker$Key" "until" "I") (by decide +kernel)) (fun _ h9 => h9) rfl hnm rfl (by decide +kernel) rfl rfl (Nat.le_of_ble_eq_true rfl) dX2_init_19 (fun H locs hP hD hS => ?_)
  have hP : va_P g.1 vwCl [(k, .inr (3, [.int fr, .int un, .ref qb, .int 0, .int 0])), (qb, .inl (g.2.1 1, 32, .inl (fun _ => 0)))] H := hP
  have hD : va_D A [(k, .inr (3, [.int fr, .int un, .ref qb, .int 0, .int 0])), (qb, .inl (g.2.1 1, 32, .inl (fun _ => 0)))] := hD
  refine W.widen (k := 1) (n := 32) (Nat.le_of_ble_eq_true rfl) (Nat.le_of_ble_eq_true rfl) ?_
  exact endWv qb hx hb hr hlocks hS dX2_init_22 hP hD (trivial)

set_option maxHeartbeats 4000000 in
set_option maxRecDepth 100000 in
/-- a byte more -/
theorem c_X2_take_yes (l : Launch) (g : gE) (hsz : Nat) (k kb : Nat) (fr un xb : Int32) (f : Nat → Int32) (nz : Nat) (hz : nz < 32) : Met l yX2_take wsX2_take ({ frames := 0, cells := 0, slots := 0, locals := 0 }) (va_Pc [.ref k, .int xb] (wr g [(k, .inr (3, [.int fr, .int un, .ref kb, .int (nI nz), .int 0])), (kb, .inl (g.2.1 1, 32, .inl f))] hsz)) (va_Qv (fun (u : Unit) => True) (wB g (va_A [(k, .inr (3, [.int fr, .int un, .ref kb, .int (nI nz), .int 0])), (kb, .inl (g.2.1 1, 32, .inl f))] hsz) (fun u : Unit => [(k, .inr (3, [.int fr, .int un, .ref kb, .int (nI (nz + 1)), .int 0])), (kb, .inl (g.2.1 1, 32, .inl (upd f nz (vp_nar .byte xb))))])) (va_A [(k, .inr (3, [.int fr, .int un, .ref kb, .int (nI nz), .int 0])), (kb, .inl (g.2.1 1, 32, .inl f))] hsz)) 0 0 (va_A [(k, .inr (3, [.int fr, .int un, .ref kb, .int (nI nz), .int 0])), (kb, .inl (g.2.1 1, 32, .inl f))] hsz) := by
  refine ofWv (cc := cX2_take) (maxL := 2) (ret := none) (by decide) rfl (Nat.le_of_ble_eq_true rfl) (fun p e s m below meth c hx hb hr hml hts hown hlocks hnm A H hH hA hP hD hK hZ hS ls hl => ?_)
  have hown : s.vm.findClass RX2 = some m.cls := hown
  have hl : lv_has ls 2 [(0, .ref k), (1, .int xb)] := hl
  have hiX2 : ∀ w ∈ wsX20, w ∈ wsX2_take := by decide +kernel
  refine lv_aload_n hx hb dX2_take_0 rfl (lv_at hl 0 rfl) ?_
  refine va_get (D := g.1) (ci := 3) (v := .int 0) (C := RX2) (T := TX2) (N := 5) hx hb hts hiX2 hown hK.1 hP 0 rfl rfl 4 (by decide) (hts (.fieldLink RX2 20 "StampMaker$Key" "closed" "Z") (by decide +kernel)) (fun _ h9 => h9) rfl dX2_take_1 ?_
  refine lv_if_ne (tgt := 16) hx hb dX2_take_4 (by decide) (fun c9 => absurd (rfl) c9) (fun _ => ?_)
  refine lv_aload_n hx hb dX2_take_7 rfl (lv_at hl 0 rfl) ?_
  refine va_get (D := g.1) (ci := 3) (v := .int (nI nz)) (C := RX2) (T := TX2) (N := 5) hx hb hts hiX2 hown hK.1 hP 0 rfl rfl 3 (by decide) (hts (.fieldLink RX2 24 "StampMaker$Key" "count" "I") (by decide +kernel)) (fun _ h9 => h9) rfl dX2_take_8 ?_
  refine lv_bipush (v := (nI 32)) hx hb dX2_take_11 (by decide) ?_
  refine lv_icmp_lt (tgt := 17) hx hb dX2_take_13 (by decide) (fun _ => ?_) (fun c9 => absurd (nI_lt hz (by omega)) c9)
  refine lv_aload_n hx hb dX2_take_17 rfl (lv_at hl 0 rfl) ?_
  refine va_get (D := g.1) (ci := 3) (v := .ref kb) (C := RX2) (T := TX2) (N := 5) hx hb hts hiX2 hown hK.1 hP 0 rfl rfl 2 (by decide) (hts (.fieldLink RX2 9 "StampMaker$Key" "bytes" "[B") (by decide +kernel)) (fun _ h9 => h9) rfl dX2_take_18 ?_
  refine lv_aload_n hx hb dX2_take_21 rfl (lv_at hl 0 rfl) ?_
  refine va_get (D := g.1) (ci := 3) (v := .int (nI nz)) (C := RX2) (T := TX2) (N := 5) hx hb hts hiX2 hown hK.1 hP 0 rfl rfl 3 (by decide) (hts (.fieldLink RX2 24 "StampMaker$Key" "count" "I") (by decide +kernel)) (fun _ h9 => h9) rfl dX2_take_22 ?_
  refine lv_iload_n hx hb dX2_take_25 rfl (lv_at hl 1 rfl) ?_
  refine va_bast hx hb hK.1 hP hD hS 1 1 rfl rfl (vp_in_nI (by omega) (by omega)) dX2_take_26 (fun H locs hP hD hS => ?_)
  rw [nI_clamp (by omega)] at hP hD
  have hP : va_P g.1 vwCl [(k, .inr (3, [.int fr, .int un, .ref kb, .int (nI nz), .int 0])), (kb, .inl (g.2.1 1, 32, .inl (upd f nz (vp_nar .byte xb))))] H := hP
  have hD : va_D A [(k, .inr (3, [.int fr, .int un, .ref kb, .int (nI nz), .int 0])), (kb, .inl (g.2.1 1, 32, .inl (upd f nz (vp_nar .byte xb))))] := hD
  refine lv_aload_n hx hb dX2_take_27 rfl (lv_at hl 0 rfl) ?_
  refine lv_dup hx hb dX2_take_28 rfl ?_
  refine va_get (D := g.1) (ci := 3) (v := .int (nI nz)) (C := RX2) (T := TX2) (N := 5) hx hb hts hiX2 hown hK.1 hP 0 rfl rfl 3 (by decide) (hts (.fieldLink RX2 24 "StampMaker$Key" "count" "I") (by decide +kernel)) (fun _ h9 => h9) rfl dX2_take_29 ?_
  refine lv_iconst (v := (nI 1)) hx hb dX2_take_32 (by decide) ?_
  refine lv_iadd hx hb dX2_take_33 ?_
  refine lv_rei (x' := (nI (nz + 1))) (nI_1 _) ?_
  refine va_put (D := g.1) (ci := 3) (v := .int (nI (nz + 1))) (ty := .int) (C := RX2) (T := TX2) (N := 5) hx hb hts hiX2 tyX2 tyX2_ok nmX2 hown hK.1 hP hD hS 0 rfl rfl 3 (by decide) (hts (.fieldLink RX2 24 "StampMaker$Key" "count" "I") (by decide +kernel)) (fun _ h9 => h9) rfl (by decide +kernel) rfl rfl (Nat.le_of_ble_eq_true rfl) dX2_take_34 (fun H locs hP hD hS => ?_)
  have hP : va_P g.1 vwCl [(k, .inr (3, [.int fr, .int un, .ref kb, .int (nI (nz + 1)), .int 0])), (kb, .inl (g.2.1 1, 32, .inl (upd f nz (vp_nar .byte xb))))] H := hP
  have hD : va_D A [(k, .inr (3, [.int fr, .int un, .ref kb, .int (nI (nz + 1)), .int 0])), (kb, .inl (g.2.1 1, 32, .inl (upd f nz (vp_nar .byte xb))))] := hD
  exact endWv () hx hb hr hlocks hS dX2_take_37 hP hD (trivial)

set_option maxHeartbeats 4000000 in
set_option maxRecDepth 100000 in
/-- nothing comes of it -/
theorem c_X2_take_no (l : Launch) (g : gE) (k kb : Nat) (fr un cl xb : Int32) (nz : Nat) (hz : nz ≤ 32) (hno : ¬ (cl = 0 ∧ nz < 32)) : Met l yX2_take wsX2_take ({ frames := 0, cells := 0, slots := 0, locals := 0 }) (va_Pc [.ref k, .int xb] (ro g [(k, .inr (3, [.int fr, .int un, .ref kb, .int (nI nz), .int cl]))])) (va_Sv (fun r : Unit => True)) 0 0 nA := by
  refine ofRo (cc := cX2_take) (maxL := 2) (ret := none) (by decide) rfl (Nat.le_of_ble_eq_true rfl) (fun p e s m below meth c hx hb hr hml hts hown hlocks hnm hP hK hZ hS ls hl => ?_)
  have hown : s.vm.findClass RX2 = some m.cls := hown
  have hl : lv_has ls 2 [(0, .ref k), (1, .int xb)] := hl
  have hiX2 : ∀ w ∈ wsX20, w ∈ wsX2_take := by decide +kernel
  refine lv_aload_n hx hb dX2_take_0 rfl (lv_at hl 0 rfl) ?_
  refine va_get (D := g.1) (ci := 3) (v := .int cl) (C := RX2) (T := TX2) (N := 5) hx hb hts hiX2 hown hK.1 hP 0 rfl rfl 4 (by decide) (hts (.fieldLink RX2 20 "StampMaker$Key" "closed" "Z") (by decide +kernel)) (fun _ h9 => h9) rfl dX2_take_1 ?_
  refine lv_if_ne (tgt := 16) hx hb dX2_take_4 (by decide) (fun c_52 => ?_) (fun c_52 => ?_)
  · exact endRv hx hb hr hlocks dX2_take_16 (trivial)
  · have hz2 : nz = 32 := by rcases Nat.lt_or_ge nz 32 with q | q; exact absurd ⟨c_52, q⟩ hno; omega
    refine lv_aload_n hx hb dX2_take_7 rfl (lv_at hl 0 rfl) ?_
    refine va_get (D := g.1) (ci := 3) (v := .int (nI nz)) (C := RX2) (T := TX2) (N := 5) hx hb hts hiX2 hown hK.1 hP 0 rfl rfl 3 (by decide) (hts (.fieldLink RX2 24 "StampMaker$Key" "count" "I") (by decide +kernel)) (fun _ h9 => h9) rfl dX2_take_8 ?_
    refine lv_bipush (v := (nI 32)) hx hb dX2_take_11 (by decide) ?_
    refine lv_icmp_lt (tgt := 17) hx hb dX2_take_13 (by decide) (fun c9 => absurd c9 (nI_nlt (by omega) (by omega))) (fun _ => ?_)
    exact endRv hx hb hr hlocks dX2_take_16 (trivial)

set_option maxHeartbeats 4000000 in
set_option maxRecDepth 100000 in
/-- key i -/
theorem c_X4_kn_in (l : Launch) (g : gE) (s0 ks lt ty lg dg kn mn tn : Nat) (cc sp : Int32) (fk : Nat → Option Nat) (i : Nat) (hi : i < kn) (hkn : kn ≤ 15) : Met l yX4_keyNumbered wsX4_keyNumbered ({ frames := 0, cells := 0, slots := 0, locals := 0 }) (va_Pc [.ref s0, .int (nI i)] (ro g [(s0, .inr (5, [.ref ks, .int (nI kn), .int (nI mn), .ref lt, .ref ty, .int (nI tn), .int cc, .int sp, .ref lg, .ref dg])), (ks, .inl (g.2.1 4, 15, .inr (.inr (.inr (.inr fk)))))])) (va_Sq (fun r : Option Nat => r = fk i)) 0 0 nA := by
  refine ofRo (cc := cX4_keyNumbered) (maxL := 2) (ret := (some (.object "StampMaker$Key"))) (by decide) rfl (Nat.le_of_ble_eq_true rfl) (fun p e s m below meth c hx hb hr hml hts hown hlocks hnm hP hK hZ hS ls hl => ?_)
  have hown : s.vm.findClass RX4 = some m.cls := hown
  have hl : lv_has ls 2 [(0, .ref s0), (1, .int (nI i))] := hl
  have hiX4 : ∀ w ∈ wsX40, w ∈ wsX4_keyNumbered := by decide +kernel
  refine lv_iload_n hx hb dX4_keyNumbered_0 rfl (lv_at hl 1 rfl) ?_
  refine lv_if_lt (tgt := 27) hx hb dX4_keyNumbered_1 (by decide) (fun c9 => absurd c9 (nI_pos (by omega))) (fun _ => ?_)
  refine lv_iload_n hx hb dX4_keyNumbered_4 rfl (lv_at hl 1 rfl) ?_
  refine lv_aload_n hx hb dX4_keyNumbered_5 rfl (lv_at hl 0 rfl) ?_
  refine va_get (D := g.1) (ci := 5) (v := .int (nI kn)) (C := RX4) (T := TX4) (N := 10) hx hb hts hiX4 hown hK.1 hP 0 rfl rfl 1 (by decide) (hts (.fieldLink RX4 44 "StampMaker" "keyCount" "I") (by decide +kernel)) (fun _ h9 => h9) rfl dX4_keyNumbered_6 ?_
  refine lv_icmp_ge (tgt := 27) hx hb dX4_keyNumbered_9 (by decide) (fun c9 => absurd c9 (nI_ge hi (by omega))) (fun _ => ?_)
  refine lv_iload_n hx hb dX4_keyNumbered_12 rfl (lv_at hl 1 rfl) ?_
  refine lv_bipush (v := (nI 15)) hx hb dX4_keyNumbered_13 (by decide) ?_
  refine lv_icmp_ge (tgt := 27) hx hb dX4_keyNumbered_15 (by decide) (fun c9 => absurd c9 (nI_ge (by omega) (by omega))) (fun _ => ?_)
  refine lv_aload_n hx hb dX4_keyNumbered_18 rfl (lv_at hl 0 rfl) ?_
  refine va_get (D := g.1) (ci := 5) (v := .ref ks) (C := RX4) (T := TX4) (N := 10) hx hb hts hiX4 hown hK.1 hP 0 rfl rfl 0 (by decide) (hts (.fieldLink RX4 11 "StampMaker" "keys" "[LStampMaker$Key;") (by decide +kernel)) (fun _ h9 => h9) rfl dX4_keyNumbered_19 ?_
  refine lv_iload_n hx hb dX4_keyNumbered_22 rfl (lv_at hl 1 rfl) ?_
  refine va_aldq hx hb hK.1 hP 1 4 rfl rfl (vp_in_nI (by omega) (by omega)) dX4_keyNumbered_23 ?_
  refine lv_req (r' := fk i) (congrArg fk (nI_clamp (by omega))) ?_
  refine lv_goto (tgt := 28) hx hb dX4_keyNumbered_24 (by decide) ?_
  exact endRq hx hb hr hlocks dX4_keyNumbered_28 (rfl)

set_option maxHeartbeats 4000000 in
set_option maxRecDepth 100000 in
/-- no such key -/
theorem c_X4_kn_out (l : Launch) (g : gE) (s0 ks lt ty lg dg kn mn tn : Nat) (cc sp : Int32) (fk : Nat → Option Nat) (x : Int32) (hx0 : ¬ (0 ≤ x.toInt ∧ x.toInt < kn)) (hkn : kn ≤ 15) : Met l yX4_keyNumbered wsX4_keyNumbered ({ frames := 0, cells := 0, slots := 0, locals := 0 }) (va_Pc [.ref s0, .int x] (ro g [(s0, .inr (5, [.ref ks, .int (nI kn), .int (nI mn), .ref lt, .ref ty, .int (nI tn), .int cc, .int sp, .ref lg, .ref dg])), (ks, .inl (g.2.1 4, 15, .inr (.inr (.inr (.inr fk)))))])) (va_Sq (fun r : Option Nat => r = none)) 0 0 nA := by
  refine ofRo (cc := cX4_keyNumbered) (maxL := 2) (ret := (some (.object "StampMaker$Key"))) (by decide) rfl (Nat.le_of_ble_eq_true rfl) (fun p e s m below meth c hx hb hr hml hts hown hlocks hnm hP hK hZ hS ls hl => ?_)
  have hown : s.vm.findClass RX4 = some m.cls := hown
  have hl : lv_has ls 2 [(0, .ref s0), (1, .int x)] := hl
  have hiX4 : ∀ w ∈ wsX40, w ∈ wsX4_keyNumbered := by decide +kernel
  have tk := ti_n (n := kn) (by omega)
  refine lv_iload_n hx hb dX4_keyNumbered_0 rfl (lv_at hl 1 rfl) ?_
  refine lv_if_lt (tgt := 27) hx hb dX4_keyNumbered_1 (by decide) (fun c_53 => ?_) (fun c_53 => ?_)
  · refine lv_null hx hb dX4_keyNumbered_27 ?_
    exact endRq (v := none) hx hb hr hlocks dX4_keyNumbered_28 (rfl)
  · refine lv_iload_n hx hb dX4_keyNumbered_4 rfl (lv_at hl 1 rfl) ?_
    refine lv_aload_n hx hb dX4_keyNumbered_5 rfl (lv_at hl 0 rfl) ?_
    refine va_get (D := g.1) (ci := 5) (v := .int (nI kn)) (C := RX4) (T := TX4) (N := 10) hx hb hts hiX4 hown hK.1 hP 0 rfl rfl 1 (by decide) (hts (.fieldLink RX4 44 "StampMaker" "keyCount" "I") (by decide +kernel)) (fun _ h9 => h9) rfl dX4_keyNumbered_6 ?_
    refine lv_icmp_ge (tgt := 27) hx hb dX4_keyNumbered_9 (by decide) (fun c_54 => ?_) (fun c_54 => ?_)
    · refine lv_null hx hb dX4_keyNumbered_27 ?_
      exact endRq (v := none) hx hb hr hlocks dX4_keyNumbered_28 (rfl)
    · exact absurd (by simp only [ti_lt, ti_le, ti_0] at c_53 c_54; omega) hx0

set_option maxHeartbeats 4000000 in
set_option maxRecDepth 100000 in
/-- letter i -/
theorem c_X4_letter_in (l : Launch) (g : gE) (s0 ks lt ty lg dg kn mn tn : Nat) (cc sp : Int32) (fl : Nat → Int32) (i : Nat) (hi : i < 16) : Met l yX4_letter wsX4_letter ({ frames := 0, cells := 0, slots := 0, locals := 0 }) (va_Pc [.ref s0, .int (nI i)] (ro g [(s0, .inr (5, [.ref ks, .int (nI kn), .int (nI mn), .ref lt, .ref ty, .int (nI tn), .int cc, .int sp, .ref lg, .ref dg])), (lt, .inl (g.2.1 0, 16, .inl fl))])) (vp_Si (fun r : Int32 => r = fl i)) 0 0 nA := by
  refine ofRo (cc := cX4_letter) (maxL := 2) (ret := (some .int)) (by decide) rfl (Nat.le_of_ble_eq_true rfl) (fun p e s m below meth c hx hb hr hml hts hown hlocks hnm hP hK hZ hS ls hl => ?_)
  have hown : s.vm.findClass RX4 = some m.cls := hown
  have hl : lv_has ls 2 [(0, .ref s0), (1, .int (nI i))] := hl
  have hiX4 : ∀ w ∈ wsX40, w ∈ wsX4_letter := by decide +kernel
  refine lv_iload_n hx hb dX4_letter_0 rfl (lv_at hl 1 rfl) ?_
  refine lv_if_lt (tgt := 19) hx hb dX4_letter_1 (by decide) (fun c9 => absurd c9 (nI_pos (by omega))) (fun _ => ?_)
  refine lv_iload_n hx hb dX4_letter_4 rfl (lv_at hl 1 rfl) ?_
  refine lv_bipush (v := (nI 16)) hx hb dX4_letter_5 (by decide) ?_
  refine lv_icmp_ge (tgt := 19) hx hb dX4_letter_7 (by decide) (fun c9 => absurd c9 (nI_ge hi (by omega))) (fun _ => ?_)
  refine lv_aload_n hx hb dX4_letter_10 rfl (lv_at hl 0 rfl) ?_
  refine va_get (D := g.1) (ci := 5) (v := .ref lt) (C := RX4) (T := TX4) (N := 10) hx hb hts hiX4 hown hK.1 hP 0 rfl rfl 3 (by decide) (hts (.fieldLink RX4 15 "StampMaker" "latestLetters" "[I") (by decide +kernel)) (fun _ h9 => h9) rfl dX4_letter_11 ?_
  refine lv_iload_n hx hb dX4_letter_14 rfl (lv_at hl 1 rfl) ?_
  refine va_iald hx hb hK.1 hP 1 0 rfl rfl (vp_in_nI (by omega) (by omega)) dX4_letter_15 ?_
  refine lv_rei (x' := fl i) (congrArg fl (nI_clamp (by omega))) ?_
  refine lv_goto (tgt := 20) hx hb dX4_letter_16 (by decide) ?_
  exact endRi hx hb hr hlocks dX4_letter_20 (rfl)

set_option maxHeartbeats 4000000 in
set_option maxRecDepth 100000 in
/-- no such letter -/
theorem c_X4_letter_out (l : Launch) (g : gE) (s0 ks lt ty lg dg kn mn tn : Nat) (cc sp : Int32) (x : Int32) (hx0 : ¬ (0 ≤ x.toInt ∧ x.toInt < 16)) : Met l yX4_letter wsX4_letter ({ frames := 0, cells := 0, slots := 0, locals := 0 }) (va_Pc [.ref s0, .int x] (ro g [(s0, .inr (5, [.ref ks, .int (nI kn), .int (nI mn), .ref lt, .ref ty, .int (nI tn), .int cc, .int sp, .ref lg, .ref dg]))])) (vp_Si (fun r : Int32 => r = nI 0)) 0 0 nA := by
  refine ofRo (cc := cX4_letter) (maxL := 2) (ret := (some .int)) (by decide) rfl (Nat.le_of_ble_eq_true rfl) (fun p e s m below meth c hx hb hr hml hts hown hlocks hnm hP hK hZ hS ls hl => ?_)
  have hown : s.vm.findClass RX4 = some m.cls := hown
  have hl : lv_has ls 2 [(0, .ref s0), (1, .int x)] := hl
  have tn0 : (nI 0).toInt = 0 := by decide
  have tn16 : (nI 16).toInt = 16 := by decide
  have hiX4 : ∀ w ∈ wsX40, w ∈ wsX4_letter := by decide +kernel
  refine lv_iload_n hx hb dX4_letter_0 rfl (lv_at hl 1 rfl) ?_
  refine lv_if_lt (tgt := 19) hx hb dX4_letter_1 (by decide) (fun c_55 => ?_) (fun c_55 => ?_)
  · refine lv_iconst (v := (nI 0)) hx hb dX4_letter_19 (by decide) ?_
    exact endRi hx hb hr hlocks dX4_letter_20 (rfl)
  · refine lv_iload_n hx hb dX4_letter_4 rfl (lv_at hl 1 rfl) ?_
    refine lv_bipush (v := (nI 16)) hx hb dX4_letter_5 (by decide) ?_
    refine lv_icmp_ge (tgt := 19) hx hb dX4_letter_7 (by decide) (fun c_56 => ?_) (fun c_56 => ?_)
    · refine lv_iconst (v := (nI 0)) hx hb dX4_letter_19 (by decide) ?_
      exact endRi hx hb hr hlocks dX4_letter_20 (rfl)
    · exact absurd (by simp only [ti_lt, ti_le, ti_0] at c_55 c_56; omega) hx0

set_option maxHeartbeats 4000000 in
set_option maxRecDepth 100000 in
/-- a character typed -/
theorem c_X4_type_yes (l : Launch) (g : gE) (hsz : Nat) (s0 ks lt ty lg dg kn mn tn : Nat) (cc sp : Int32) (ft : Nat → Int32) (x : Int32) (ht : tn < 40) : Met l yX4_type wsX4_type ({ frames := 0, cells := 0, slots := 0, locals := 0 }) (va_Pc [.ref s0, .int x] (wr g [(s0, .inr (5, [.ref ks, .int (nI kn), .int (nI mn), .ref lt, .ref ty, .int (nI tn), .int cc, .int sp, .ref lg, .ref dg])), (ty, .inl (g.2.1 0, 40, .inl ft))] hsz)) (va_Qv (fun (u : Unit) => True) (wB g (va_A [(s0, .inr (5, [.ref ks, .int (nI kn), .int (nI mn), .ref lt, .ref ty, .int (nI tn), .int cc, .int sp, .ref lg, .ref dg])), (ty, .inl (g.2.1 0, 40, .inl ft))] hsz) (fun u : Unit => [(s0, .inr (5, [.ref ks, .int (nI kn), .int (nI mn), .ref lt, .ref ty, .int (nI (tn + 1)), .int cc, .int sp, .ref lg, .ref dg])), (ty, .inl (g.2.1 0, 40, .inl (upd ft tn x)))])) (va_A [(s0, .inr (5, [.ref ks, .int (nI kn), .int (nI mn), .ref lt, .ref ty, .int (nI tn), .int cc, .int sp, .ref lg, .ref dg])), (ty, .inl (g.2.1 0, 40, .inl ft))] hsz)) 0 0 (va_A [(s0, .inr (5, [.ref ks, .int (nI kn), .int (nI mn), .ref lt, .ref ty, .int (nI tn), .int cc, .int sp, .ref lg, .ref dg])), (ty, .inl (g.2.1 0, 40, .inl ft))] hsz) := by
  refine ofWv (cc := cX4_type) (maxL := 2) (ret := none) (by decide) rfl (Nat.le_of_ble_eq_true rfl) (fun p e s m below meth c hx hb hr hml hts hown hlocks hnm A H hH hA hP hD hK hZ hS ls hl => ?_)
  have hown : s.vm.findClass RX4 = some m.cls := hown
  have hl : lv_has ls 2 [(0, .ref s0), (1, .int x)] := hl
  have hiX4 : ∀ w ∈ wsX40, w ∈ wsX4_type := by decide +kernel
  refine lv_aload_n hx hb dX4_type_0 rfl (lv_at hl 0 rfl) ?_
  refine va_get (D := g.1) (ci := 5) (v := .int (nI tn)) (C := RX4) (T := TX4) (N := 10) hx hb hts hiX4 hown hK.1 hP 0 rfl rfl 5 (by decide) (hts (.fieldLink RX4 92 "StampMaker" "typedCount" "I") (by decide +kernel)) (fun _ h9 => h9) rfl dX4_type_1 ?_
  refine lv_bipush (v := (nI 40)) hx hb dX4_type_4 (by decide) ?_
  refine lv_icmp_lt (tgt := 10) hx hb dX4_type_6 (by decide) (fun _ => ?_) (fun c9 => absurd (nI_lt ht (by omega)) c9)
  refine lv_aload_n hx hb dX4_type_10 rfl (lv_at hl 0 rfl) ?_
  refine va_get (D := g.1) (ci := 5) (v := .ref ty) (C := RX4) (T := TX4) (N := 10) hx hb hts hiX4 hown hK.1 hP 0 rfl rfl 4 (by decide) (hts (.fieldLink RX4 19 "StampMaker" "typed" "[I") (by decide +kernel)) (fun _ h9 => h9) rfl dX4_type_11 ?_
  refine lv_aload_n hx hb dX4_type_14 rfl (lv_at hl 0 rfl) ?_
  refine va_get (D := g.1) (ci := 5) (v := .int (nI tn)) (C := RX4) (T := TX4) (N := 10) hx hb hts hiX4 hown hK.1 hP 0 rfl rfl 5 (by decide) (hts (.fieldLink RX4 92 "StampMaker" "typedCount" "I") (by decide +kernel)) (fun _ h9 => h9) rfl dX4_type_15 ?_
  refine lv_iload_n hx hb dX4_type_18 rfl (lv_at hl 1 rfl) ?_
  refine va_iast hx hb hK.1 hP hD hS 1 0 rfl rfl (vp_in_nI (by omega) (by omega)) dX4_type_19 (fun H locs hP hD hS => ?_)
  rw [nI_clamp (by omega)] at hP hD
  have hP : va_P g.1 vwCl [(s0, .inr (5, [.ref ks, .int (nI kn), .int (nI mn), .ref lt, .ref ty, .int (nI tn), .int cc, .int sp, .ref lg, .ref dg])), (ty, .inl (g.2.1 0, 40, .inl (upd ft tn x)))] H := hP
  have hD : va_D A [(s0, .inr (5, [.ref ks, .int (nI kn), .int (nI mn), .ref lt, .ref ty, .int (nI tn), .int cc, .int sp, .ref lg, .ref dg])), (ty, .inl (g.2.1 0, 40, .inl (upd ft tn x)))] := hD
  refine lv_aload_n hx hb dX4_type_20 rfl (lv_at hl 0 rfl) ?_
  refine lv_dup hx hb dX4_type_21 rfl ?_
  refine va_get (D := g.1) (ci := 5) (v := .int (nI tn)) (C := RX4) (T := TX4) (N := 10) hx hb hts hiX4 hown hK.1 hP 0 rfl rfl 5 (by decide) (hts (.fieldLink RX4 92 "StampMaker" "typedCount" "I") (by decide +kernel)) (fun _ h9 => h9) rfl dX4_type_22 ?_
  refine lv_iconst (v := (nI 1)) hx hb dX4_type_25 (by decide) ?_
  refine lv_iadd hx hb dX4_type_26 ?_
  refine lv_rei (x' := (nI (tn + 1))) (nI_1 _) ?_
  refine va_put (D := g.1) (ci := 5) (v := .int (nI (tn + 1))) (ty := .int) (C := RX4) (T := TX4) (N := 10) hx hb hts hiX4 tyX4 tyX4_ok nmX4 hown hK.1 hP hD hS 0 rfl rfl 5 (by decide) (hts (.fieldLink RX4 92 "StampMaker" "typedCount" "I") (by decide +kernel)) (fun _ h9 => h9) rfl (by decide +kernel) rfl rfl (Nat.le_of_ble_eq_true rfl) dX4_type_27 (fun H locs hP hD hS => ?_)
  have hP : va_P g.1 vwCl [(s0, .inr (5, [.ref ks, .int (nI kn), .int (nI mn), .ref lt, .ref ty, .int (nI (tn + 1)), .int cc, .int sp, .ref lg, .ref dg])), (ty, .inl (g.2.1 0, 40, .inl (upd ft tn x)))] H := hP
  have hD : va_D A [(s0, .inr (5, [.ref ks, .int (nI kn), .int (nI mn), .ref lt, .ref ty, .int (nI (tn + 1)), .int cc, .int sp, .ref lg, .ref dg])), (ty, .inl (g.2.1 0, 40, .inl (upd ft tn x)))] := hD
  exact endWv () hx hb hr hlocks hS dX4_type_30 hP hD (trivial)

set_option maxHeartbeats 4000000 in
set_option maxRecDepth 100000 in
/-- 40 are typed -/
theorem c_X4_type_no (l : Launch) (g : gE) (s0 ks lt ty lg dg kn mn tn : Nat) (cc sp : Int32) (x : Int32) (ht : tn = 40) : Met l yX4_type wsX4_type ({ frames := 0, cells := 0, slots := 0, locals := 0 }) (va_Pc [.ref s0, .int x] (ro g [(s0, .inr (5, [.ref ks, .int (nI kn), .int (nI mn), .ref lt, .ref ty, .int (nI tn), .int cc, .int sp, .ref lg, .ref dg]))])) (va_Sv (fun r : Unit => True)) 0 0 nA := by
  refine ofRo (cc := cX4_type) (maxL := 2) (ret := none) (by decide) rfl (Nat.le_of_ble_eq_true rfl) (fun p e s m below meth c hx hb hr hml hts hown hlocks hnm hP hK hZ hS ls hl => ?_)
  have hown : s.vm.findClass RX4 = some m.cls := hown
  have hl : lv_has ls 2 [(0, .ref s0), (1, .int x)] := hl
  have hiX4 : ∀ w ∈ wsX40, w ∈ wsX4_type := by decide +kernel
  subst ht
  refine lv_aload_n hx hb dX4_type_0 rfl (lv_at hl 0 rfl) ?_
  refine va_get (D := g.1) (ci := 5) (v := .int (nI 40)) (C := RX4) (T := TX4) (N := 10) hx hb hts hiX4 hown hK.1 hP 0 rfl rfl 5 (by decide) (hts (.fieldLink RX4 92 "StampMaker" "typedCount" "I") (by decide +kernel)) (fun _ h9 => h9) rfl dX4_type_1 ?_
  refine lv_bipush (v := (nI 40)) hx hb dX4_type_4 (by decide) ?_
  refine lv_icmp_lt (tgt := 10) hx hb dX4_type_6 (by decide) (fun c9 => absurd c9 (nI_nlt (Nat.le_refl _) (by omega))) (fun _ => ?_)
  exact endRv hx hb hr hlocks dX4_type_9 (trivial)

set_option maxHeartbeats 4000000 in
set_option maxRecDepth 100000 in
/-- of the stamp found spent or accepted latest -/
theorem c_X4_first (l : Launch) (g : gE) (s0 ks lt ty lg dg kn mn tn : Nat) (cc sp : Int32) (fa da ch : Nat) (fd fc : Nat → Int32) (x : Int32) (hsp : sp = -1 ∨ ∃ j, j < 16384 ∧ sp = nI j) : Met l yX4_first wsX4_first ({ frames := 2, cells := 0, slots := 0, locals := 42 }) (va_Pc [.ref s0, .int x] (ro g [(s0, .inr (5, [.ref ks, .int (nI kn), .int (nI mn), .ref lt, .ref ty, .int (nI tn), .int cc, .int sp, .ref lg, .ref dg])), (lg, .inr (4, [.ref fa, .ref da, .ref ch])), (da, .inl (g.2.1 0, 16384, .inl fd)), (ch, .inl (g.2.1 0, 16384, .inl fc))])) (vp_Si (fun r : Int32 => r = fi x sp fd fc)) 0 0 nA := by
  refine ofRo (cc := cX4_first) (maxL := 2) (ret := (some .int)) (by decide) rfl (Nat.le_of_ble_eq_true rfl) (fun p e s m below meth c hx hb hr hml hts hown hlocks hnm hP hK hZ hS ls hl => ?_)
  have hown : s.vm.findClass RX4 = some m.cls := hown
  have hl : lv_has ls 2 [(0, .ref s0), (1, .int x)] := hl
  have tn1 : (nI 1).toInt = 1 := by decide
  have tn2 : (nI 2).toInt = 2 := by decide
  have hiX4 : ∀ w ∈ wsX40, w ∈ wsX4_first := by decide +kernel
  refine lv_iload_n hx hb dX4_first_0 rfl (lv_at hl 1 rfl) ?_
  refine lv_if_lt (tgt := 9) hx hb dX4_first_1 (by decide) (fun c_57 => ?_) (fun c_57 => ?_)
  · refine lv_bipush (v := (-22)) hx hb dX4_first_9 (by decide) ?_
    exact endRi hx hb hr hlocks dX4_first_11 (by unfold fi; rw [if_pos (by simp only [ti_lt, ti_le, ti_0] at c_57; omega)])
  · refine lv_iload_n hx hb dX4_first_4 rfl (lv_at hl 1 rfl) ?_
    refine lv_iconst (v := (nI 2)) hx hb dX4_first_5 (by decide) ?_
    refine lv_icmp_le (tgt := 12) hx hb dX4_first_6 (by decide) (fun c_58 => ?_) (fun c_58 => ?_)
    · have hin : ¬ ¬ (0 ≤ x.toInt ∧ x.toInt ≤ 2) := by simp only [ti_lt, ti_le, ti_0] at c_57 c_58; omega
      refine lv_aload_n hx hb dX4_first_12 rfl (lv_at hl 0 rfl) ?_
      refine va_get (D := g.1) (ci := 5) (v := .int sp) (C := RX4) (T := TX4) (N := 10) hx hb hts hiX4 hown hK.1 hP 0 rfl rfl 7 (by decide) (hts (.fieldLink RX4 22 "StampMaker" "latestSpent" "I") (by decide +kernel)) (fun _ h9 => h9) rfl dX4_first_13 ?_
      rcases hsp with hsp | ⟨j, hj, hsp⟩
      · refine lv_if_ge (tgt := 21) hx hb dX4_first_16 (by decide) (fun c9 => absurd c9 (by rw [hsp]; decide)) (fun _ => ?_)
        refine lv_iconst (v := (-1)) hx hb dX4_first_19 (by decide) ?_
        exact endRi hx hb hr hlocks dX4_first_20 (by unfold fi; rw [if_neg hin, if_pos (by rw [hsp]; decide)])
      · have hs0 : ¬ sp < 0 := by rw [hsp]; exact nI_pos (by omega)
        refine lv_if_ge (tgt := 21) hx hb dX4_first_16 (by decide) (fun _ => ?_) (fun c9 => absurd (by rw [hsp]; exact nI_pos' (by omega)) c9)
        refine lv_iload_n hx hb dX4_first_21 rfl (lv_at hl 1 rfl) ?_
        refine lv_if_ne (tgt := 30) hx hb dX4_first_22 (by decide) (fun c_59 => ?_) (fun c_59 => ?_)
        · refine lv_iload_n hx hb dX4_first_30 rfl (lv_at hl 1 rfl) ?_
          refine lv_iconst (v := (nI 1)) hx hb dX4_first_31 (by decide) ?_
          refine lv_icmp_ne (tgt := 49) hx hb dX4_first_32 (by decide) (fun c_60 => ?_) (fun c_60 => ?_)
          · refine lv_aload_n hx hb dX4_first_49 rfl (lv_at hl 0 rfl) ?_
            refine va_get (D := g.1) (ci := 5) (v := .ref lg) (C := RX4) (T := TX4) (N := 10) hx hb hts hiX4 hown hK.1 hP 0 rfl rfl 8 (by decide) (hts (.fieldLink RX4 29 "StampMaker" "ledger" "LStampMaker$Ledger;") (by decide +kernel)) (fun _ h9 => h9) rfl dX4_first_50 ?_
            refine lv_aload_n hx hb dX4_first_53 rfl (lv_at hl 0 rfl) ?_
            refine va_get (D := g.1) (ci := 5) (v := .int sp) (C := RX4) (T := TX4) (N := 10) hx hb hts hiX4 hown hK.1 hP 0 rfl rfl 7 (by decide) (hts (.fieldLink RX4 22 "StampMaker" "latestSpent" "I") (by decide +kernel)) (fun _ h9 => h9) rfl dX4_first_54 ?_
            refine lv_rei (x' := (nI j)) (hsp) ?_
            refine cVi (rest := []) ⟨hx, hb, hml, hown, hts⟩ [.int (nI j)] (c_X3_checkOf l g (lg := lg) (fa := fa) (da := da) (ch := ch) (fc := fc) (j := j) hj) (cwV 1 hts gX4_first_X3_checkOf rfl rfl rfl (by decide +kernel) ⟨Nat.le_of_ble_eq_true rfl, Nat.le_of_ble_eq_true rfl⟩) hK hZ hS (subP hP [1, 3] rfl) (va_recv hK.1 hP (ci := 4) (q0 := 1) rfl rfl) rfl hl.1 rfl (Nat.le_of_ble_eq_true rfl) dX4_first_57 ⟨Nat.zero_le _, Nat.zero_le _⟩ (fun r_62 hr_62 => ?_)
            obtain rfl : r_62 = (fc j) := hr_62
            exact endRi hx hb hr hlocks dX4_first_60 (by unfold fi; rw [if_neg hin, if_neg hs0, if_neg c_59, if_neg c_60, hsp, nI_clamp (by omega)])
          · refine lv_aload_n hx hb dX4_first_35 rfl (lv_at hl 0 rfl) ?_
            refine va_get (D := g.1) (ci := 5) (v := .ref lg) (C := RX4) (T := TX4) (N := 10) hx hb hts hiX4 hown hK.1 hP 0 rfl rfl 8 (by decide) (hts (.fieldLink RX4 29 "StampMaker" "ledger" "LStampMaker$Ledger;") (by decide +kernel)) (fun _ h9 => h9) rfl dX4_first_36 ?_
            refine lv_aload_n hx hb dX4_first_39 rfl (lv_at hl 0 rfl) ?_
            refine va_get (D := g.1) (ci := 5) (v := .int sp) (C := RX4) (T := TX4) (N := 10) hx hb hts hiX4 hown hK.1 hP 0 rfl rfl 7 (by decide) (hts (.fieldLink RX4 22 "StampMaker" "latestSpent" "I") (by decide +kernel)) (fun _ h9 => h9) rfl dX4_first_40 ?_
            refine lv_rei (x' := (nI j)) (hsp) ?_
            refine cVi (rest := []) ⟨hx, hb, hml, hown, hts⟩ [.int (nI j)] (c_X3_dayOf l g (lg := lg) (fa := fa) (da := da) (ch := ch) (fd := fd) (j := j) hj) (cwV 1 hts gX4_first_X3_dayOf rfl rfl rfl (by decide +kernel) ⟨Nat.le_of_ble_eq_true rfl, Nat.le_of_ble_eq_true rfl⟩) hK hZ hS (subP hP [1, 2] rfl) (va_recv hK.1 hP (ci := 4) (q0 := 1) rfl rfl) rfl hl.1 rfl (Nat.le_of_ble_eq_true rfl) dX4_first_43 ⟨Nat.zero_le _, Nat.zero_le _⟩ (fun r_61 hr_61 => ?_)
            obtain rfl : r_61 = (fd j) := hr_61
            refine lv_goto (tgt := 60) hx hb dX4_first_46 (by decide) ?_
            exact endRi hx hb hr hlocks dX4_first_60 (by unfold fi; rw [if_neg hin, if_neg hs0, if_neg c_59, if_pos c_60, hsp, nI_clamp (by omega)])
        · refine lv_aload_n hx hb dX4_first_25 rfl (lv_at hl 0 rfl) ?_
          refine va_get (D := g.1) (ci := 5) (v := .int sp) (C := RX4) (T := TX4) (N := 10) hx hb hts hiX4 hown hK.1 hP 0 rfl rfl 7 (by decide) (hts (.fieldLink RX4 22 "StampMaker" "latestSpent" "I") (by decide +kernel)) (fun _ h9 => h9) rfl dX4_first_26 ?_
          exact endRi hx hb hr hlocks dX4_first_29 (by unfold fi; rw [if_neg hin, if_neg hs0, if_pos c_59])
    · refine lv_bipush (v := (-22)) hx hb dX4_first_9 (by decide) ?_
      exact endRi hx hb hr hlocks dX4_first_11 (by unfold fi; rw [if_pos (by simp only [ti_lt, ti_le, ti_0] at c_58; omega)])

set_option maxHeartbeats 4000000 in
set_option maxRecDepth 100000 in
/-- what became of j -/
theorem c_X4_spent_in (l : Launch) (g : gE) (s0 ks lt ty lg dg kn mn tn : Nat) (cc sp : Int32) (fa da ch : Nat) (ff : Nat → Int32) (j : Nat) (hj : j < 16384) : Met l yX4_spent wsX4_spent ({ frames := 2, cells := 0, slots := 0, locals := 43 }) (va_Pc [.ref s0, .long (lN j)] (ro g [(s0, .inr (5, [.ref ks, .int (nI kn), .int (nI mn), .ref lt, .ref ty, .int (nI tn), .int cc, .int sp, .ref lg, .ref dg])), (lg, .inr (4, [.ref fa, .ref da, .ref ch])), (fa, .inl (g.2.1 1, 16384, .inl ff))])) (vp_Si (fun r : Int32 => r = ff j)) 0 0 nA := by
  refine ofRo (cc := cX4_spent) (maxL := 3) (ret := (some .int)) (by decide) rfl (Nat.le_of_ble_eq_true rfl) (fun p e s m below meth c hx hb hr hml hts hown hlocks hnm hP hK hZ hS ls hl => ?_)
  have hown : s.vm.findClass RX4 = some m.cls := hown
  have hl : lv_has ls 3 [(0, .ref s0), (1, .long (lN j))] := hl
  have hiX4 : ∀ w ∈ wsX40, w ∈ wsX4_spent := by decide +kernel
  refine lv_aload_n hx hb dX4_spent_0 rfl (lv_at hl 0 rfl) ?_
  refine va_get (D := g.1) (ci := 5) (v := .ref lg) (C := RX4) (T := TX4) (N := 10) hx hb hts hiX4 hown hK.1 hP 0 rfl rfl 8 (by decide) (hts (.fieldLink RX4 29 "StampMaker" "ledger" "LStampMaker$Ledger;") (by decide +kernel)) (fun _ h9 => h9) rfl dX4_spent_1 ?_
  refine lv_lload_n hx hb dX4_spent_4 rfl (lv_at hl 1 rfl) ?_
  refine cVi (rest := []) ⟨hx, hb, hml, hown, hts⟩ [.long (lN j)] (c_X3_fateOf_in l g (lg := lg) (fa := fa) (da := da) (ch := ch) (ff := ff) (j := j) hj) (cwV 1 hts gX4_spent_X3_fateOf rfl rfl rfl (by decide +kernel) ⟨Nat.le_of_ble_eq_true rfl, Nat.le_of_ble_eq_true rfl⟩) hK hZ hS (subP hP [1, 2] rfl) (va_recv hK.1 hP (ci := 4) (q0 := 1) rfl rfl) rfl hl.1 rfl (Nat.le_of_ble_eq_true rfl) dX4_spent_5 ⟨Nat.zero_le _, Nat.zero_le _⟩ (fun r_63 hr_63 => ?_)
  obtain rfl : r_63 = (ff j) := hr_63
  exact endRi hx hb hr hlocks dX4_spent_8 (rfl)

set_option maxHeartbeats 4000000 in
set_option maxRecDepth 100000 in
/-- none such -/
theorem c_X4_spent_out (l : Launch) (g : gE) (s0 ks lt ty lg dg kn mn tn : Nat) (cc sp : Int32) (fa da ch : Nat) (ff : Nat → Int32) (x : Int64) (hx0 : ¬ (0 ≤ x.toInt ∧ x.toInt ≤ 16383)) : Met l yX4_spent wsX4_spent ({ frames := 2, cells := 0, slots := 0, locals := 43 }) (va_Pc [.ref s0, .long x] (ro g [(s0, .inr (5, [.ref ks, .int (nI kn), .int (nI mn), .ref lt, .ref ty, .int (nI tn), .int cc, .int sp, .ref lg, .ref dg])), (lg, .inr (4, [.ref fa, .ref da, .ref ch])), (fa, .inl (g.2.1 1, 16384, .inl ff))])) (vp_Si (fun r : Int32 => r = nI 0)) 0 0 nA := by
  refine ofRo (cc := cX4_spent) (maxL := 3) (ret := (some .int)) (by decide) rfl (Nat.le_of_ble_eq_true rfl) (fun p e s m below meth c hx hb hr hml hts hown hlocks hnm hP hK hZ hS ls hl => ?_)
  have hown : s.vm.findClass RX4 = some m.cls := hown
  have hl : lv_has ls 3 [(0, .ref s0), (1, .long x)] := hl
  have hiX4 : ∀ w ∈ wsX40, w ∈ wsX4_spent := by decide +kernel
  refine lv_aload_n hx hb dX4_spent_0 rfl (lv_at hl 0 rfl) ?_
  refine va_get (D := g.1) (ci := 5) (v := .ref lg) (C := RX4) (T := TX4) (N := 10) hx hb hts hiX4 hown hK.1 hP 0 rfl rfl 8 (by decide) (hts (.fieldLink RX4 29 "StampMaker" "ledger" "LStampMaker$Ledger;") (by decide +kernel)) (fun _ h9 => h9) rfl dX4_spent_1 ?_
  refine lv_lload_n hx hb dX4_spent_4 rfl (lv_at hl 1 rfl) ?_
  refine cVi (rest := []) ⟨hx, hb, hml, hown, hts⟩ [.long x] (c_X3_fateOf_out l g (lg := lg) (fa := fa) (da := da) (ch := ch) (ff := ff) (x := x) hx0) (cwV 1 hts gX4_spent_X3_fateOf rfl rfl rfl (by decide +kernel) ⟨Nat.le_of_ble_eq_true rfl, Nat.le_of_ble_eq_true rfl⟩) hK hZ hS (subP hP [1, 2] rfl) (va_recv hK.1 hP (ci := 4) (q0 := 1) rfl rfl) rfl hl.1 rfl (Nat.le_of_ble_eq_true rfl) dX4_spent_5 ⟨Nat.zero_le _, Nat.zero_le _⟩ (fun r_64 hr_64 => ?_)
  obtain rfl : r_64 = (nI 0) := hr_64
  exact endRi hx hb hr hlocks dX4_spent_8 (rfl)

set_option maxHeartbeats 4000000 in
set_option maxRecDepth 100000 in
/-- the next serial number -/
theorem c_X4_serial (l : Launch) (g : gE) (s0 ks lt ty lg dg kn mn tn : Nat) (cc sp : Int32)  : Met l yX4_serial wsX4_serial ({ frames := 0, cells := 0, slots := 0, locals := 0 }) (va_Pc [.ref s0] (ro g [(s0, .inr (5, [.ref ks, .int (nI kn), .int (nI mn), .ref lt, .ref ty, .int (nI tn), .int cc, .int sp, .ref lg, .ref dg]))])) (vp_Sl (fun r : Int64 => r = (nI mn).toInt64)) 0 0 nA := by
  refine ofRo (cc := cX4_serial) (maxL := 1) (ret := (some .long)) (by decide) rfl (Nat.le_of_ble_eq_true rfl) (fun p e s m below meth c hx hb hr hml hts hown hlocks hnm hP hK hZ hS ls hl => ?_)
  have hown : s.vm.findClass RX4 = some m.cls := hown
  have hl : lv_has ls 1 [(0, .ref s0)] := hl
  have hiX4 : ∀ w ∈ wsX40, w ∈ wsX4_serial := by decide +kernel
  refine lv_aload_n hx hb dX4_serial_0 rfl (lv_at hl 0 rfl) ?_
  refine va_get (D := g.1) (ci := 5) (v := .int (nI mn)) (C := RX4) (T := TX4) (N := 10) hx hb hts hiX4 hown hK.1 hP 0 rfl rfl 2 (by decide) (hts (.fieldLink RX4 68 "StampMaker" "made" "I") (by decide +kernel)) (fun _ h9 => h9) rfl dX4_serial_1 ?_
  refine lv_i2l hx hb dX4_serial_4 rfl ?_
  exact endRl hx hb hr hlocks dX4_serial_5 (rfl)

set_option maxHeartbeats 4000000 in
set_option maxRecDepth 100000 in
/-- made by nobody -/
theorem c_X4_refund_out (l : Launch) (g : gE) (s0 ks lt ty lg dg kn mn tn : Nat) (cc sp : Int32) (x : Int64) (hx0 : ¬ (0 ≤ x.toInt ∧ x.toInt < mn)) (hmn : mn < 16384) : Met l yX4_refund wsX4_refund ({ frames := 0, cells := 0, slots := 0, locals := 0 }) (va_Pc [.ref s0, .long x] (ro g [(s0, .inr (5, [.ref ks, .int (nI kn), .int (nI mn), .ref lt, .ref ty, .int (nI tn), .int cc, .int sp, .ref lg, .ref dg]))])) (vp_Si (fun r : Int32 => r = nI 0)) 0 0 nA := by
  refine ofRo (cc := cX4_refund) (maxL := 3) (ret := (some .int)) (by decide) rfl (Nat.le_of_ble_eq_true rfl) (fun p e s m below meth c hx hb hr hml hts hown hlocks hnm hP hK hZ hS ls hl => ?_)
  have hown : s.vm.findClass RX4 = some m.cls := hown
  have hl : lv_has ls 3 [(0, .ref s0), (1, .long x)] := hl
  have tn0 : (nI 0).toInt = 0 := by decide
  have tn1 : (nI 1).toInt = 1 := by decide
  have tl0 : (lN 0).toInt = 0 := by decide
  have hiX4 : ∀ w ∈ wsX40, w ∈ wsX4_refund := by decide +kernel
  have tm := tl_n (n := mn) (by omega)
  refine lv_lload_n hx hb dX4_refund_0 rfl (lv_at hl 1 rfl) ?_
  refine lv_lconst (v := lN 0) hx hb dX4_refund_1 (by decide) ?_
  refine W.lcmp hx hb dX4_refund_2 ?_
  refine lv_if_lt (tgt := 27) hx hb dX4_refund_3 (by decide) (fun c_65 => ?_) (fun c_65 => ?_)
  · refine lv_iconst (v := (nI 0)) hx hb dX4_refund_27 (by decide) ?_
    exact endRi hx hb hr hlocks dX4_refund_28 (rfl)
  · refine lv_lload_n hx hb dX4_refund_6 rfl (lv_at hl 1 rfl) ?_
    refine lv_aload_n hx hb dX4_refund_7 rfl (lv_at hl 0 rfl) ?_
    refine va_get (D := g.1) (ci := 5) (v := .int (nI mn)) (C := RX4) (T := TX4) (N := 10) hx hb hts hiX4 hown hK.1 hP 0 rfl rfl 2 (by decide) (hts (.fieldLink RX4 68 "StampMaker" "made" "I") (by decide +kernel)) (fun _ h9 => h9) rfl dX4_refund_8 ?_
    refine lv_i2l hx hb dX4_refund_11 rfl ?_
    refine lv_rel (x' := (lN mn)) (nI_L (by omega)) ?_
    refine W.lcmp hx hb dX4_refund_12 ?_
    refine lv_if_ge (tgt := 27) hx hb dX4_refund_13 (by decide) (fun c_66 => ?_) (fun c_66 => ?_)
    · refine lv_iconst (v := (nI 0)) hx hb dX4_refund_27 (by decide) ?_
      exact endRi hx hb hr hlocks dX4_refund_28 (rfl)
    · exact absurd (by simp only [lc_lt, lc_ge] at c_65 c_66; omega) hx0

set_option maxHeartbeats 4000000 in
set_option maxRecDepth 100000 in
/-- given back, or not -/
theorem c_X4_refund_used (l : Launch) (g : gE) (s0 ks lt ty lg dg kn mn tn : Nat) (cc sp : Int32) (fa da ch : Nat) (ff : Nat → Int32) (j : Nat) (hj : j < mn) (hmn : mn < 16384) (hu : ff j ≠ 0) : Met l yX4_refund wsX4_refund ({ frames := 2, cells := 0, slots := 0, locals := 43 }) (va_Pc [.ref s0, .long (lN j)] (ro g [(s0, .inr (5, [.ref ks, .int (nI kn), .int (nI mn), .ref lt, .ref ty, .int (nI tn), .int cc, .int sp, .ref lg, .ref dg])), (lg, .inr (4, [.ref fa, .ref da, .ref ch])), (fa, .inl (g.2.1 1, 16384, .inl ff))])) (vp_Si (fun r : Int32 => r = nI 0)) 0 0 nA := by
  refine ofRo (cc := cX4_refund) (maxL := 3) (ret := (some .int)) (by decide) rfl (Nat.le_of_ble_eq_true rfl) (fun p e s m below meth c hx hb hr hml hts hown hlocks hnm hP hK hZ hS ls hl => ?_)
  have hown : s.vm.findClass RX4 = some m.cls := hown
  have hl : lv_has ls 3 [(0, .ref s0), (1, .long (lN j))] := hl
  have tn0 : (nI 0).toInt = 0 := by decide
  have tn1 : (nI 1).toInt = 1 := by decide
  have tl0 : (lN 0).toInt = 0 := by decide
  have hiX4 : ∀ w ∈ wsX40, w ∈ wsX4_refund := by decide +kernel
  have tm := tl_n (n := mn) (by omega)
  have tj := tl_n (n := j) (by omega)
  refine lv_lload_n hx hb dX4_refund_0 rfl (lv_at hl 1 rfl) ?_
  refine lv_lconst (v := lN 0) hx hb dX4_refund_1 (by decide) ?_
  refine W.lcmp hx hb dX4_refund_2 ?_
  refine lv_if_lt (tgt := 27) hx hb dX4_refund_3 (by decide) (fun c9 => absurd c9 (by simp only [lc_lt]; omega)) (fun _ => ?_)
  refine lv_lload_n hx hb dX4_refund_6 rfl (lv_at hl 1 rfl) ?_
  refine lv_aload_n hx hb dX4_refund_7 rfl (lv_at hl 0 rfl) ?_
  refine va_get (D := g.1) (ci := 5) (v := .int (nI mn)) (C := RX4) (T := TX4) (N := 10) hx hb hts hiX4 hown hK.1 hP 0 rfl rfl 2 (by decide) (hts (.fieldLink RX4 68 "StampMaker" "made" "I") (by decide +kernel)) (fun _ h9 => h9) rfl dX4_refund_8 ?_
  refine lv_i2l hx hb dX4_refund_11 rfl ?_
  refine lv_rel (x' := (lN mn)) (nI_L (by omega)) ?_
  refine W.lcmp hx hb dX4_refund_12 ?_
  refine lv_if_ge (tgt := 27) hx hb dX4_refund_13 (by decide) (fun c9 => absurd c9 (by simp only [lc_ge]; omega)) (fun _ => ?_)
  refine lv_aload_n hx hb dX4_refund_16 rfl (lv_at hl 0 rfl) ?_
  refine va_get (D := g.1) (ci := 5) (v := .ref lg) (C := RX4) (T := TX4) (N := 10) hx hb hts hiX4 hown hK.1 hP 0 rfl rfl 8 (by decide) (hts (.fieldLink RX4 29 "StampMaker" "ledger" "LStampMaker$Ledger;") (by decide +kernel)) (fun _ h9 => h9) rfl dX4_refund_17 ?_
  refine lv_lload_n hx hb dX4_refund_20 rfl (lv_at hl 1 rfl) ?_
  refine cVi (rest := []) ⟨hx, hb, hml, hown, hts⟩ [.long (lN j)] (c_X3_fateOf_in l g (lg := lg) (fa := fa) (da := da) (ch := ch) (ff := ff) (j := j) (by omega)) (cwV 1 hts gX4_refund_X3_fateOf rfl rfl rfl (by decide +kernel) ⟨Nat.le_of_ble_eq_true rfl, Nat.le_of_ble_eq_true rfl⟩) hK hZ hS (subP hP [1, 2] rfl) (va_recv hK.1 hP (ci := 4) (q0 := 1) rfl rfl) rfl hl.1 rfl (Nat.le_of_ble_eq_true rfl) dX4_refund_21 ⟨Nat.zero_le _, Nat.zero_le _⟩ (fun r_67 hr_67 => ?_)
  obtain rfl : r_67 = (ff j) := hr_67
  refine lv_if_eq (tgt := 29) hx hb dX4_refund_24 (by decide) (fun c9 => absurd c9 (hu)) (fun _ => ?_)
  refine lv_iconst (v := (nI 0)) hx hb dX4_refund_27 (by decide) ?_
  exact endRi hx hb hr hlocks dX4_refund_28 (rfl)

set_option maxHeartbeats 4000000 in
set_option maxRecDepth 100000 in
/-- given back, or not -/
theorem c_X4_refund_yes (l : Launch) (g : gE) (hsz : Nat) (s0 ks lt ty lg dg kn mn tn : Nat) (cc sp : Int32) (fa da ch : Nat) (ff : Nat → Int32) (j : Nat) (hj : j < mn) (hmn : mn < 16384) (hu : ff j = 0) : Met l yX4_refund wsX4_refund ({ frames := 2, cells := 0, slots := 0, locals := 43 }) (va_Pc [.ref s0, .long (lN j)] (wr g [(s0, .inr (5, [.ref ks, .int (nI kn), .int (nI mn), .ref lt, .ref ty, .int (nI tn), .int cc, .int sp, .ref lg, .ref dg])), (lg, .inr (4, [.ref fa, .ref da, .ref ch])), (fa, .inl (g.2.1 1, 16384, .inl ff))] hsz)) (va_Qi (fun (r : Int32) (u : Unit) => r = nI 1) (wB g (va_A [(s0, .inr (5, [.ref ks, .int (nI kn), .int (nI mn), .ref lt, .ref ty, .int (nI tn), .int cc, .int sp, .ref lg, .ref dg])), (lg, .inr (4, [.ref fa, .ref da, .ref ch])), (fa, .inl (g.2.1 1, 16384, .inl ff))] hsz) (fun u : Unit => [(s0, .inr (5, [.ref ks, .int (nI kn), .int (nI mn), .ref lt, .ref ty, .int (nI tn), .int cc, .int sp, .ref lg, .ref dg])), (lg, .inr (4, [.ref fa, .ref da, .ref ch])), (fa, .inl (g.2.1 1, 16384, .inl (upd ff j (nI 2))))])) (va_A [(s0, .inr (5, [.ref ks, .int (nI kn), .int (nI mn), .ref lt, .ref ty, .int (nI tn), .int cc, .int sp, .ref lg, .ref dg])), (lg, .inr (4, [.ref fa, .ref da, .ref ch])), (fa, .inl (g.2.1 1, 16384, .inl ff))] hsz)) 0 0 (va_A [(s0, .inr (5, [.ref ks, .int (nI kn), .int (nI mn), .ref lt, .ref ty, .int (nI tn), .int cc, .int sp, .ref lg, .ref dg])), (lg, .inr (4, [.ref fa, .ref da, .ref ch])), (fa, .inl (g.2.1 1, 16384, .inl ff))] hsz) := by
  refine ofWi (cc := cX4_refund) (maxL := 3) (ret := (some .int)) (by decide) rfl (Nat.le_of_ble_eq_true rfl) (fun p e s m below meth c hx hb hr hml hts hown hlocks hnm A H hH hA hP hD hK hZ hS ls hl => ?_)
  have hown : s.vm.findClass RX4 = some m.cls := hown
  have hl : lv_has ls 3 [(0, .ref s0), (1, .long (lN j))] := hl
  have tn0 : (nI 0).toInt = 0 := by decide
  have tn1 : (nI 1).toInt = 1 := by decide
  have tl0 : (lN 0).toInt = 0 := by decide
  have hiX4 : ∀ w ∈ wsX40, w ∈ wsX4_refund := by decide +kernel
  have tm := tl_n (n := mn) (by omega)
  have tj := tl_n (n := j) (by omega)
  refine lv_lload_n hx hb dX4_refund_0 rfl (lv_at hl 1 rfl) ?_
  refine lv_lconst (v := lN 0) hx hb dX4_refund_1 (by decide) ?_
  refine W.lcmp hx hb dX4_refund_2 ?_
  refine lv_if_lt (tgt := 27) hx hb dX4_refund_3 (by decide) (fun c9 => absurd c9 (by simp only [lc_lt]; omega)) (fun _ => ?_)
  refine lv_lload_n hx hb dX4_refund_6 rfl (lv_at hl 1 rfl) ?_
  refine lv_aload_n hx hb dX4_refund_7 rfl (lv_at hl 0 rfl) ?_
  refine va_get (D := g.1) (ci := 5) (v := .int (nI mn)) (C := RX4) (T := TX4) (N := 10) hx hb hts hiX4 hown hK.1 hP 0 rfl rfl 2 (by decide) (hts (.fieldLink RX4 68 "StampMaker" "made" "I") (by decide +kernel)) (fun _ h9 => h9) rfl dX4_refund_8 ?_
  refine lv_i2l hx hb dX4_refund_11 rfl ?_
  refine lv_rel (x' := (lN mn)) (nI_L (by omega)) ?_
  refine W.lcmp hx hb dX4_refund_12 ?_
  refine lv_if_ge (tgt := 27) hx hb dX4_refund_13 (by decide) (fun c9 => absurd c9 (by simp only [lc_ge]; omega)) (fun _ => ?_)
  refine lv_aload_n hx hb dX4_refund_16 rfl (lv_at hl 0 rfl) ?_
  refine va_get (D := g.1) (ci := 5) (v := .ref lg) (C := RX4) (T := TX4) (N := 10) hx hb hts hiX4 hown hK.1 hP 0 rfl rfl 8 (by decide) (hts (.fieldLink RX4 29 "StampMaker" "ledger" "LStampMaker$Ledger;") (by decide +kernel)) (fun _ h9 => h9) rfl dX4_refund_17 ?_
  refine lv_lload_n hx hb dX4_refund_20 rfl (lv_at hl 1 rfl) ?_
  refine cVi (rest := []) ⟨hx, hb, hml, hown, hts⟩ [.long (lN j)] (c_X3_fateOf_in l g (lg := lg) (fa := fa) (da := da) (ch := ch) (ff := ff) (j := j) (by omega)) (cwV 1 hts gX4_refund_X3_fateOf rfl rfl rfl (by decide +kernel) ⟨Nat.le_of_ble_eq_true rfl, Nat.le_of_ble_eq_true rfl⟩) hK hZ hS (subP hP [1, 2] rfl) (va_recv hK.1 hP (ci := 4) (q0 := 1) rfl rfl) rfl hl.1 rfl (Nat.le_of_ble_eq_true rfl) dX4_refund_21 ⟨Nat.zero_le _, Nat.zero_le _⟩ (fun r_68 hr_68 => ?_)
  obtain rfl : r_68 = (ff j) := hr_68
  refine lv_if_eq (tgt := 29) hx hb dX4_refund_24 (by decide) (fun _ => ?_) (fun c9 => absurd (hu) c9)
  refine lv_aload_n hx hb dX4_refund_29 rfl (lv_at hl 0 rfl) ?_
  refine va_get (D := g.1) (ci := 5) (v := .ref lg) (C := RX4) (T := TX4) (N := 10) hx hb hts hiX4 hown hK.1 hP 0 rfl rfl 8 (by decide) (hts (.fieldLink RX4 29 "StampMaker" "ledger" "LStampMaker$Ledger;") (by decide +kernel)) (fun _ h9 => h9) rfl dX4_refund_30 ?_
  refine lv_lload_n hx hb dX4_refund_33 rfl (lv_at hl 1 rfl) ?_
  refine lv_l2i hx hb dX4_refund_34 rfl ?_
  refine lv_rei (x' := (nI j)) (lN_i j) ?_
  refine wVv (rest := []) ⟨hx, hb, hml, hown, hts⟩ [.int (nI j)] [1, 2] (c_X3_giveBack l g H.size (lg := lg) (fa := fa) (da := da) (ch := ch) (ff := ff) (j := j) (by omega)) (cwV 1 hts gX4_refund_X3_giveBack rfl rfl rfl (by decide +kernel) ⟨Nat.le_of_ble_eq_true rfl, Nat.le_of_ble_eq_true rfl⟩) hK hZ hS hP hD hA rfl (by decide) (fun _ => Nat.le_of_ble_eq_true rfl) (fun _ => rfl) (va_recv hK.1 hP (ci := 4) (q0 := 1) rfl rfl) rfl hl.1 rfl (Nat.le_of_ble_eq_true rfl) dX4_refund_35 ⟨Nat.le_of_ble_eq_true rfl, Nat.le_of_ble_eq_true rfl⟩ (fun u H locs hr_69 hP hD hS => ?_)
  have hP : va_P g.1 vwCl [(s0, .inr (5, [.ref ks, .int (nI kn), .int (nI mn), .ref lt, .ref ty, .int (nI tn), .int cc, .int sp, .ref lg, .ref dg])), (lg, .inr (4, [.ref fa, .ref da, .ref ch])), (fa, .inl (g.2.1 1, 16384, .inl (upd ff j (nI 2))))] H := hP
  have hD : va_D A [(s0, .inr (5, [.ref ks, .int (nI kn), .int (nI mn), .ref lt, .ref ty, .int (nI tn), .int cc, .int sp, .ref lg, .ref dg])), (lg, .inr (4, [.ref fa, .ref da, .ref ch])), (fa, .inl (g.2.1 1, 16384, .inl (upd ff j (nI 2))))] := hD
  refine lv_iconst (v := (nI 1)) hx hb dX4_refund_38 (by decide) ?_
  exact endWi () hx hb hr hlocks hS dX4_refund_39 hP hD (rfl)

set_option maxHeartbeats 4000000 in
set_option maxRecDepth 100000 in
/-- no such key -/
theorem c_X4_octet_out (l : Launch) (g : gE) (s0 ks lt ty lg dg kn mn tn : Nat) (cc sp : Int32) (fk : Nat → Option Nat) (x xb : Int32) (hx0 : ¬ (0 ≤ x.toInt ∧ x.toInt < kn)) (hkn : kn ≤ 15) : Met l yX4_octet wsX4_octet ({ frames := 1, cells := 0, slots := 0, locals := 21 }) (va_Pc [.ref s0, .int x, .int xb] (ro g [(s0, .inr (5, [.ref ks, .int (nI kn), .int (nI mn), .ref lt, .ref ty, .int (nI tn), .int cc, .int sp, .ref lg, .ref dg])), (ks, .inl (g.2.1 4, 15, .inr (.inr (.inr (.inr fk)))))])) (va_Sv (fun r : Unit => True)) 0 0 nA := by
  refine ofRo (cc := cX4_octet) (maxL := 4) (ret := none) (by decide) rfl (Nat.le_of_ble_eq_true rfl) (fun p e s m below meth c hx hb hr hml hts hown hlocks hnm hP hK hZ hS ls hl => ?_)
  have hown : s.vm.findClass RX4 = some m.cls := hown
  have hl : lv_has ls 4 [(0, .ref s0), (1, .int x), (2, .int xb)] := hl
  refine lv_aload_n hx hb dX4_octet_0 rfl (lv_at hl 0 rfl) ?_
  refine lv_iload_n hx hb dX4_octet_1 rfl (lv_at hl 1 rfl) ?_
  refine cVq (rest := []) ⟨hx, hb, hml, hown, hts⟩ [.int x] (c_X4_kn_out l g (s0 := s0) (ks := ks) (lt := lt) (ty := ty) (lg := lg) (dg := dg) (kn := kn) (mn := mn) (tn := tn) (cc := cc) (sp := sp) (fk := fk) (x := x) hx0 hkn) (cwV 1 hts gX4_octet_X4_keyNumbered rfl rfl rfl (by decide +kernel) ⟨Nat.le_of_ble_eq_true rfl, Nat.le_of_ble_eq_true rfl⟩) hK hZ hS (subP hP [0, 1] rfl) (va_recv hK.1 hP (ci := 5) (q0 := 0) rfl rfl) rfl hl.1 rfl (Nat.le_of_ble_eq_true rfl) dX4_octet_2 ⟨Nat.zero_le _, Nat.zero_le _⟩ (fun r_70 hr_70 => ?_)
  obtain rfl : r_70 = none := hr_70
  refine lv_reN (rfl) ?_
  refine lv_astore_nN (lv' := [(3, .null), (0, .ref s0), (1, .int x), (2, .int xb)]) hx hb dX4_octet_5 rfl hl (by decide) rfl (fun ls hl => ?_)
  refine lv_aload_nN hx hb dX4_octet_6 rfl (lv_at hl 0 rfl) ?_
  refine lv_ifnullN (tgt := 15) hx hb dX4_octet_7 (by decide) ?_
  exact endRv hx hb hr hlocks dX4_octet_15 (trivial)

set_option maxHeartbeats 4000000 in
set_option maxRecDepth 100000 in
/-- a byte more -/
theorem c_X4_octet_yes (l : Launch) (g : gE) (hsz : Nat) (s0 ks lt ty lg dg kn mn tn : Nat) (cc sp : Int32) (fk : Nat → Option Nat) (i k kb : Nat) (fr un xb : Int32) (f : Nat → Int32) (nz : Nat) (hi : i < kn) (hkn : kn ≤ 15) (hk : fk i = some k) (hz : nz < 32) : Met l yX4_octet wsX4_octet ({ frames := 1, cells := 0, slots := 0, locals := 21 }) (va_Pc [.ref s0, .int (nI i), .int xb] (wr g [(s0, .inr (5, [.ref ks, .int (nI kn), .int (nI mn), .ref lt, .ref ty, .int (nI tn), .int cc, .int sp, .ref lg, .ref dg])), (ks, .inl (g.2.1 4, 15, .inr (.inr (.inr (.inr fk))))), (k, .inr (3, [.int fr, .int un, .ref kb, .int (nI nz), .int 0])), (kb, .inl (g.2.1 1, 32, .inl f))] hsz)) (va_Qv (fun (u : Unit) => True) (wB g (va_A [(s0, .inr (5, [.ref ks, .int (nI kn), .int (nI mn), .ref lt, .ref ty, .int (nI tn), .int cc, .int sp, .ref lg, .ref dg])), (ks, .inl (g.2.1 4, 15, .inr (.inr (.inr (.inr fk))))), (k, .inr (3, [.int fr, .int un, .ref kb, .int (nI nz), .int 0])), (kb, .inl (g.2.1 1, 32, .inl f))] hsz) (fun u : Unit => [(s0, .inr (5, [.ref ks, .int (nI kn), .int (nI mn), .ref lt, .ref ty, .int (nI tn), .int cc, .int sp, .ref lg, .ref dg])), (ks, .inl (g.2.1 4, 15, .inr (.inr (.inr (.inr fk))))), (k, .inr (3, [.int fr, .int un, .ref kb, .int (nI (nz + 1)), .int 0])), (kb, .inl (g.2.1 1, 32, .inl (upd f nz (vp_nar .byte xb))))])) (va_A [(s0, .inr (5, [.ref ks, .int (nI kn), .int (nI mn), .ref lt, .ref ty, .int (nI tn), .int cc, .int sp, .ref lg, .ref dg])), (ks, .inl (g.2.1 4, 15, .inr (.inr (.inr (.inr fk))))), (k, .inr (3, [.int fr, .int un, .ref kb, .int (nI nz), .int 0])), (kb, .inl (g.2.1 1, 32, .inl f))] hsz)) 0 0 (va_A [(s0, .inr (5, [.ref ks, .int (nI kn), .int (nI mn), .ref lt, .ref ty, .int (nI tn), .int cc, .int sp, .ref lg, .ref dg])), (ks, .inl (g.2.1 4, 15, .inr (.inr (.inr (.inr fk))))), (k, .inr (3, [.int fr, .int un, .ref kb, .int (nI nz), .int 0])), (kb, .inl (g.2.1 1, 32, .inl f))] hsz) := by
  refine ofWv (cc := cX4_octet) (maxL := 4) (ret := none) (by decide) rfl (Nat.le_of_ble_eq_true rfl) (fun p e s m below meth c hx hb hr hml hts hown hlocks hnm A H hH hA hP hD hK hZ hS ls hl => ?_)
  have hown : s.vm.findClass RX4 = some m.cls := hown
  have hl : lv_has ls 4 [(0, .ref s0), (1, .int (nI i)), (2, .int xb)] := hl
  refine lv_aload_n hx hb dX4_octet_0 rfl (lv_at hl 0 rfl) ?_
  refine lv_iload_n hx hb dX4_octet_1 rfl (lv_at hl 1 rfl) ?_
  refine cVq (rest := []) ⟨hx, hb, hml, hown, hts⟩ [.int (nI i)] (c_X4_kn_in l g (s0 := s0) (ks := ks) (lt := lt) (ty := ty) (lg := lg) (dg := dg) (kn := kn) (mn := mn) (tn := tn) (cc := cc) (sp := sp) (fk := fk) (i := i) hi hkn) (cwV 1 hts gX4_octet_X4_keyNumbered rfl rfl rfl (by decide +kernel) ⟨Nat.le_of_ble_eq_true rfl, Nat.le_of_ble_eq_true rfl⟩) hK hZ hS (subP hP [0, 1] rfl) (va_recv hK.1 hP (ci := 5) (q0 := 0) rfl rfl) rfl hl.1 rfl (Nat.le_of_ble_eq_true rfl) dX4_octet_2 ⟨Nat.zero_le _, Nat.zero_le _⟩ (fun r_71 hr_71 => ?_)
  obtain rfl : r_71 = (fk i) := hr_71
  refine lv_reR (a := k) (hk) ?_
  refine lv_astore_n (lv' := [(3, .ref k), (0, .ref s0), (1, .int (nI i)), (2, .int xb)]) hx hb dX4_octet_5 rfl hl (by decide) rfl (fun ls hl => ?_)
  refine lv_aload_n hx hb dX4_octet_6 rfl (lv_at hl 0 rfl) ?_
  refine lv_ifnull hx hb dX4_octet_7 ?_
  refine lv_aload_n hx hb dX4_octet_10 rfl (lv_at hl 0 rfl) ?_
  refine lv_iload_n hx hb dX4_octet_11 rfl (lv_at hl 3 rfl) ?_
  refine wVv (rest := []) ⟨hx, hb, hml, hown, hts⟩ [.int xb] [2, 3] (c_X2_take_yes l g H.size (k := k) (kb := kb) (fr := fr) (un := un) (xb := xb) (f := f) (nz := nz) hz) (cwV 1 hts gX4_octet_X2_take rfl rfl rfl (by decide +kernel) ⟨Nat.le_of_ble_eq_true rfl, Nat.le_of_ble_eq_true rfl⟩) hK hZ hS hP hD hA rfl (by decide) (fun _ => Nat.le_of_ble_eq_true rfl) (fun _ => rfl) (va_recv hK.1 hP (ci := 3) (q0 := 2) rfl rfl) rfl hl.1 rfl (Nat.le_of_ble_eq_true rfl) dX4_octet_12 ⟨Nat.le_of_ble_eq_true rfl, Nat.le_of_ble_eq_true rfl⟩ (fun u H locs hr_72 hP hD hS => ?_)
  have hP : va_P g.1 vwCl [(s0, .inr (5, [.ref ks, .int (nI kn), .int (nI mn), .ref lt, .ref ty, .int (nI tn), .int cc, .int sp, .ref lg, .ref dg])), (ks, .inl (g.2.1 4, 15, .inr (.inr (.inr (.inr fk))))), (k, .inr (3, [.int fr, .int un, .ref kb, .int (nI (nz + 1)), .int 0])), (kb, .inl (g.2.1 1, 32, .inl (upd f nz (vp_nar .byte xb))))] H := hP
  have hD : va_D A [(s0, .inr (5, [.ref ks, .int (nI kn), .int (nI mn), .ref lt, .ref ty, .int (nI tn), .int cc, .int sp, .ref lg, .ref dg])), (ks, .inl (g.2.1 4, 15, .inr (.inr (.inr (.inr fk))))), (k, .inr (3, [.int fr, .int un, .ref kb, .int (nI (nz + 1)), .int 0])), (kb, .inl (g.2.1 1, 32, .inl (upd f nz (vp_nar .byte xb))))] := hD
  exact endWv () hx hb hr hlocks hS dX4_octet_15 hP hD (trivial)

set_option maxHeartbeats 4000000 in
set_option maxRecDepth 100000 in
/-- nothing comes of it -/
theorem c_X4_octet_no (l : Launch) (g : gE) (s0 ks lt ty lg dg kn mn tn : Nat) (cc sp : Int32) (fk : Nat → Option Nat) (i k kb : Nat) (fr un cl xb : Int32) (nz : Nat) (hi : i < kn) (hkn : kn ≤ 15) (hk : fk i = some k) (hz : nz ≤ 32) (hno : ¬ (cl = 0 ∧ nz < 32)) : Met l yX4_octet wsX4_octet ({ frames := 1, cells := 0, slots := 0, locals := 21 }) (va_Pc [.ref s0, .int (nI i), .int xb] (ro g [(s0, .inr (5, [.ref ks, .int (nI kn), .int (nI mn), .ref lt, .ref ty, .int (nI tn), .int cc, .int sp, .ref lg, .ref dg])), (ks, .inl (g.2.1 4, 15, .inr (.inr (.inr (.inr fk))))), (k, .inr (3, [.int fr, .int un, .ref kb, .int (nI nz), .int cl]))])) (va_Sv (fun r : Unit => True)) 0 0 nA := by
  refine ofRo (cc := cX4_octet) (maxL := 4) (ret := none) (by decide) rfl (Nat.le_of_ble_eq_true rfl) (fun p e s m below meth c hx hb hr hml hts hown hlocks hnm hP hK hZ hS ls hl => ?_)
  have hown : s.vm.findClass RX4 = some m.cls := hown
  have hl : lv_has ls 4 [(0, .ref s0), (1, .int (nI i)), (2, .int xb)] := hl
  refine lv_aload_n hx hb dX4_octet_0 rfl (lv_at hl 0 rfl) ?_
  refine lv_iload_n hx hb dX4_octet_1 rfl (lv_at hl 1 rfl) ?_
  refine cVq (rest := []) ⟨hx, hb, hml, hown, hts⟩ [.int (nI i)] (c_X4_kn_in l g (s0 := s0) (ks := ks) (lt := lt) (ty := ty) (lg := lg) (dg := dg) (kn := kn) (mn := mn) (tn := tn) (cc := cc) (sp := sp) (fk := fk) (i := i) hi hkn) (cwV 1 hts gX4_octet_X4_keyNumbered rfl rfl rfl (by decide +kernel) ⟨Nat.le_of_ble_eq_true rfl, Nat.le_of_ble_eq_true rfl⟩) hK hZ hS (subP hP [0, 1] rfl) (va_recv hK.1 hP (ci := 5) (q0 := 0) rfl rfl) rfl hl.1 rfl (Nat.le_of_ble_eq_true rfl) dX4_octet_2 ⟨Nat.zero_le _, Nat.zero_le _⟩ (fun r_73 hr_73 => ?_)
  obtain rfl : r_73 = (fk i) := hr_73
  refine lv_reR (a := k) (hk) ?_
  refine lv_astore_n (lv' := [(3, .ref k), (0, .ref s0), (1, .int (nI i)), (2, .int xb)]) hx hb dX4_octet_5 rfl hl (by decide) rfl (fun ls hl => ?_)
  refine lv_aload_n hx hb dX4_octet_6 rfl (lv_at hl 0 rfl) ?_
  refine lv_ifnull hx hb dX4_octet_7 ?_
  refine lv_aload_n hx hb dX4_octet_10 rfl (lv_at hl 0 rfl) ?_
  refine lv_iload_n hx hb dX4_octet_11 rfl (lv_at hl 3 rfl) ?_
  refine cVv (rest := []) ⟨hx, hb, hml, hown, hts⟩ [.int xb] (c_X2_take_no l g (k := k) (kb := kb) (fr := fr) (un := un) (cl := cl) (xb := xb) (nz := nz) hz hno) (cwV 1 hts gX4_octet_X2_take rfl rfl rfl (by decide +kernel) ⟨Nat.le_of_ble_eq_true rfl, Nat.le_of_ble_eq_true rfl⟩) hK hZ hS (subP hP [2] rfl) (va_recv hK.1 hP (ci := 3) (q0 := 2) rfl rfl) rfl hl.1 rfl (Nat.le_of_ble_eq_true rfl) dX4_octet_12 ⟨Nat.zero_le _, Nat.zero_le _⟩ (fun hr_74 => ?_)
  exact endRv hx hb hr hlocks dX4_octet_15 (trivial)

set_option maxHeartbeats 4000000 in
set_option maxRecDepth 100000 in
/-- out of range -/
theorem c_X4_key_dom (l : Launch) (g : gE) (s0 ks lt ty lg dg kn mn tn : Nat) (cc sp : Int32) (x y : Int64) (hd : ¬ (0 ≤ x.toInt ∧ x.toInt ≤ y.toInt ∧ y.toInt ≤ 65535)) : Met l yX4_key wsX4_key ({ frames := 1, cells := 0, slots := 0, locals := 21 }) (va_Pc [.ref s0, .long x, .long y] (ro g [(s0, .inr (5, [.ref ks, .int (nI kn), .int (nI mn), .ref lt, .ref ty, .int (nI tn), .int cc, .int sp, .ref lg, .ref dg]))])) (vp_Si (fun r : Int32 => r = -22)) 0 0 nA := by
  refine ofRo (cc := cX4_key) (maxL := 5) (ret := (some .int)) (by decide) rfl (Nat.le_of_ble_eq_true rfl) (fun p e s m below meth c hx hb hr hml hts hown hlocks hnm hP hK hZ hS ls hl => ?_)
  have hown : s.vm.findClass RX4 = some m.cls := hown
  have hl : lv_has ls 5 [(0, .ref s0), (1, .long x), (3, .long y)] := hl
  have tn1 : (nI 1).toInt = 1 := by decide
  have tn15 : (nI 15).toInt = 15 := by decide
  have hiX2 : ∀ w ∈ wsX20, w ∈ wsX4_key := by decide +kernel
  have hiX4 : ∀ w ∈ wsX40, w ∈ wsX4_key := by decide +kernel
  refine lv_lload_n hx hb dX4_key_0 rfl (lv_at hl 1 rfl) ?_
  refine cSi (rest := []) ⟨hx, hb, hml, hown, hts⟩ [.long x] (c_X4_isDay l g (x := x)) (va_cwS 1 hts gX4_key_X4_isDay rfl rfl rfl (by decide +kernel) ⟨Nat.le_of_ble_eq_true rfl, Nat.le_of_ble_eq_true rfl⟩) hK hZ hS (subP hP [] rfl) rfl hl.1 rfl (Nat.le_of_ble_eq_true rfl) dX4_key_1 ⟨Nat.zero_le _, Nat.zero_le _⟩ (fun r_75 hr_75 => ?_)
  obtain rfl : r_75 = (inI x.toInt 0 65535) := hr_75
  refine lv_if_eq (tgt := 20) hx hb dX4_key_4 (by decide) (fun c_76 => ?_) (fun c_76 => ?_)
  · refine lv_bipush (v := (-22)) hx hb dX4_key_20 (by decide) ?_
    exact endRi hx hb hr hlocks dX4_key_22 (rfl)
  · refine lv_lload_n hx hb dX4_key_7 rfl (lv_at hl 2 rfl) ?_
    refine cSi (rest := []) ⟨hx, hb, hml, hown, hts⟩ [.long y] (c_X4_isDay l g (x := y)) (va_cwS 1 hts gX4_key_X4_isDay rfl rfl rfl (by decide +kernel) ⟨Nat.le_of_ble_eq_true rfl, Nat.le_of_ble_eq_true rfl⟩) hK hZ hS (subP hP [] rfl) rfl hl.1 rfl (Nat.le_of_ble_eq_true rfl) dX4_key_8 ⟨Nat.zero_le _, Nat.zero_le _⟩ (fun r_77 hr_77 => ?_)
    obtain rfl : r_77 = (inI y.toInt 0 65535) := hr_77
    refine lv_if_eq (tgt := 20) hx hb dX4_key_11 (by decide) (fun c_78 => ?_) (fun c_78 => ?_)
    · refine lv_bipush (v := (-22)) hx hb dX4_key_20 (by decide) ?_
      exact endRi hx hb hr hlocks dX4_key_22 (rfl)
    · refine lv_lload_n hx hb dX4_key_14 rfl (lv_at hl 1 rfl) ?_
      refine lv_lload_n hx hb dX4_key_15 rfl (lv_at hl 2 rfl) ?_
      refine W.lcmp hx hb dX4_key_16 ?_
      refine lv_if_le (tgt := 23) hx hb dX4_key_17 (by decide) (fun c_79 => ?_) (fun c_79 => ?_)
      · exact absurd (by rw [inI_eq0] at c_76 c_78; simp only [lc_le] at c_79; omega) hd
      · refine lv_bipush (v := (-22)) hx hb dX4_key_20 (by decide) ?_
        exact endRi hx hb hr hlocks dX4_key_22 (rfl)

set_option maxHeartbeats 4000000 in
set_option maxRecDepth 100000 in
/-- no room -/
theorem c_X4_key_room (l : Launch) (g : gE) (s0 ks lt ty lg dg kn mn tn : Nat) (cc sp : Int32) (x y : Int64) (hd : 0 ≤ x.toInt ∧ x.toInt ≤ y.toInt ∧ y.toInt ≤ 65535) (hkn : 15 ≤ kn) (hk2 : kn < 100) : Met l yX4_key wsX4_key ({ frames := 1, cells := 0, slots := 0, locals := 21 }) (va_Pc [.ref s0, .long x, .long y] (ro g [(s0, .inr (5, [.ref ks, .int (nI kn), .int (nI mn), .ref lt, .ref ty, .int (nI tn), .int cc, .int sp, .ref lg, .ref dg]))])) (vp_Si (fun r : Int32 => r = -24)) 0 0 nA := by
  refine ofRo (cc := cX4_key) (maxL := 5) (ret := (some .int)) (by decide) rfl (Nat.le_of_ble_eq_true rfl) (fun p e s m below meth c hx hb hr hml hts hown hlocks hnm hP hK hZ hS ls hl => ?_)
  have hown : s.vm.findClass RX4 = some m.cls := hown
  have hl : lv_has ls 5 [(0, .ref s0), (1, .long x), (3, .long y)] := hl
  have tn1 : (nI 1).toInt = 1 := by decide
  have tn15 : (nI 15).toInt = 15 := by decide
  have hiX2 : ∀ w ∈ wsX20, w ∈ wsX4_key := by decide +kernel
  have hiX4 : ∀ w ∈ wsX40, w ∈ wsX4_key := by decide +kernel
  refine lv_lload_n hx hb dX4_key_0 rfl (lv_at hl 1 rfl) ?_
  refine cSi (rest := []) ⟨hx, hb, hml, hown, hts⟩ [.long x] (c_X4_isDay l g (x := x)) (va_cwS 1 hts gX4_key_X4_isDay rfl rfl rfl (by decide +kernel) ⟨Nat.le_of_ble_eq_true rfl, Nat.le_of_ble_eq_true rfl⟩) hK hZ hS (subP hP [] rfl) rfl hl.1 rfl (Nat.le_of_ble_eq_true rfl) dX4_key_1 ⟨Nat.zero_le _, Nat.zero_le _⟩ (fun r_80 hr_80 => ?_)
  obtain rfl : r_80 = (inI x.toInt 0 65535) := hr_80
  refine lv_if_eq (tgt := 20) hx hb dX4_key_4 (by decide) (fun c9 => absurd c9 (by rw [inI_1 (by omega) (by omega)]; decide)) (fun _ => ?_)
  refine lv_lload_n hx hb dX4_key_7 rfl (lv_at hl 2 rfl) ?_
  refine cSi (rest := []) ⟨hx, hb, hml, hown, hts⟩ [.long y] (c_X4_isDay l g (x := y)) (va_cwS 1 hts gX4_key_X4_isDay rfl rfl rfl (by decide +kernel) ⟨Nat.le_of_ble_eq_true rfl, Nat.le_of_ble_eq_true rfl⟩) hK hZ hS (subP hP [] rfl) rfl hl.1 rfl (Nat.le_of_ble_eq_true rfl) dX4_key_8 ⟨Nat.zero_le _, Nat.zero_le _⟩ (fun r_81 hr_81 => ?_)
  obtain rfl : r_81 = (inI y.toInt 0 65535) := hr_81
  refine lv_if_eq (tgt := 20) hx hb dX4_key_11 (by decide) (fun c9 => absurd c9 (by rw [inI_1 (by omega) (by omega)]; decide)) (fun _ => ?_)
  refine lv_lload_n hx hb dX4_key_14 rfl (lv_at hl 1 rfl) ?_
  refine lv_lload_n hx hb dX4_key_15 rfl (lv_at hl 2 rfl) ?_
  refine W.lcmp hx hb dX4_key_16 ?_
  refine lv_if_le (tgt := 23) hx hb dX4_key_17 (by decide) (fun _ => ?_) (fun c9 => absurd (by simp only [lc_le]; omega) c9)
  refine lv_aload_n hx hb dX4_key_23 rfl (lv_at hl 0 rfl) ?_
  refine va_get (D := g.1) (ci := 5) (v := .int (nI kn)) (C := RX4) (T := TX4) (N := 10) hx hb hts hiX4 hown hK.1 hP 0 rfl rfl 1 (by decide) (hts (.fieldLink RX4 44 "StampMaker" "keyCount" "I") (by decide +kernel)) (fun _ h9 => h9) rfl dX4_key_24 ?_
  refine lv_bipush (v := (nI 15)) hx hb dX4_key_27 (by decide) ?_
  refine lv_icmp_lt (tgt := 35) hx hb dX4_key_29 (by decide) (fun c9 => absurd c9 (nI_nlt hkn (by omega))) (fun _ => ?_)
  refine lv_bipush (v := (-24)) hx hb dX4_key_32 (by decide) ?_
  exact endRi hx hb hr hlocks dX4_key_34 (rfl)

set_option maxHeartbeats 4000000 in
set_option maxRecDepth 100000 in
/-- a key more -/
theorem c_X4_key_yes (l : Launch) (g : gE) (hsz : Nat) (s0 ks lt ty lg dg kn mn tn : Nat) (cc sp : Int32) (fk : Nat → Option Nat) (x y : Int64) (hd : 0 ≤ x.toInt ∧ x.toInt ≤ y.toInt ∧ y.toInt ≤ 65535) (hkn : kn < 15) : Met l yX4_key wsX4_key ({ frames := 2, cells := 2, slots := 37, locals := 34 }) (va_Pc [.ref s0, .long x, .long y] (wr g [(s0, .inr (5, [.ref ks, .int (nI kn), .int (nI mn), .ref lt, .ref ty, .int (nI tn), .int cc, .int sp, .ref lg, .ref dg])), (ks, .inl (g.2.1 4, 15, .inr (.inr (.inr (.inr fk)))))] hsz)) (va_Qi (fun (r : Int32) (u : (Nat × Nat)) => r = nI kn) (wB g (va_A [(s0, .inr (5, [.ref ks, .int (nI kn), .int (nI mn), .ref lt, .ref ty, .int (nI tn), .int cc, .int sp, .ref lg, .ref dg])), (ks, .inl (g.2.1 4, 15, .inr (.inr (.inr (.inr fk)))))] hsz) (fun u : (Nat × Nat) => [(s0, .inr (5, [.ref ks, .int (nI (kn + 1)), .int (nI mn), .ref lt, .ref ty, .int (nI tn), .int cc, .int sp, .ref lg, .ref dg])), (ks, .inl (g.2.1 4, 15, .inr (.inr (.inr (.inr (va_up fk kn (some u.1))))))), (u.1, .inr (3, [.int x.toInt32, .int y.toInt32, .ref u.2, .int 0, .int 0])), (u.2, .inl (g.2.1 1, 32, .inl (fun _ => 0)))])) (va_A [(s0, .inr (5, [.ref ks, .int (nI kn), .int (nI mn), .ref lt, .ref ty, .int (nI tn), .int cc, .int sp, .ref lg, .ref dg])), (ks, .inl (g.2.1 4, 15, .inr (.inr (.inr (.inr fk)))))] hsz)) 2 37 (va_A [(s0, .inr (5, [.ref ks, .int (nI kn), .int (nI mn), .ref lt, .ref ty, .int (nI tn), .int cc, .int sp, .ref lg, .ref dg])), (ks, .inl (g.2.1 4, 15, .inr (.inr (.inr (.inr fk)))))] hsz) := by
  refine ofWi (cc := cX4_key) (maxL := 5) (ret := (some .int)) (by decide) rfl (Nat.le_of_ble_eq_true rfl) (fun p e s m below meth c hx hb hr hml hts hown hlocks hnm A H hH hA hP hD hK hZ hS ls hl => ?_)
  have hown : s.vm.findClass RX4 = some m.cls := hown
  have hl : lv_has ls 5 [(0, .ref s0), (1, .long x), (3, .long y)] := hl
  have tn1 : (nI 1).toInt = 1 := by decide
  have tn15 : (nI 15).toInt = 15 := by decide
  have hiX2 : ∀ w ∈ wsX20, w ∈ wsX4_key := by decide +kernel
  have hiX4 : ∀ w ∈ wsX40, w ∈ wsX4_key := by decide +kernel
  refine lv_lload_n hx hb dX4_key_0 rfl (lv_at hl 1 rfl) ?_
  refine cSi (rest := []) ⟨hx, hb, hml, hown, hts⟩ [.long x] (c_X4_isDay l g (x := x)) (va_cwS 1 hts gX4_key_X4_isDay rfl rfl rfl (by decide +kernel) ⟨Nat.le_of_ble_eq_true rfl, Nat.le_of_ble_eq_true rfl⟩) hK hZ hS (subP hP [] rfl) rfl hl.1 rfl (Nat.le_of_ble_eq_true rfl) dX4_key_1 ⟨Nat.zero_le _, Nat.zero_le _⟩ (fun r_82 hr_82 => ?_)
  obtain rfl : r_82 = (inI x.toInt 0 65535) := hr_82
  refine lv_if_eq (tgt := 20) hx hb dX4_key_4 (by decide) (fun c9 => absurd c9 (by rw [inI_1 (by omega) (by omega)]; decide)) (fun _ => ?_)
  refine lv_lload_n hx hb dX4_key_7 rfl (lv_at hl 2 rfl) ?_
  refine cSi (rest := []) ⟨hx, hb, hml, hown, hts⟩ [.long y] (c_X4_isDay l g (x := y)) (va_cwS 1 hts gX4_key_X4_isDay rfl rfl rfl (by decide +kernel) ⟨Nat.le_of_ble_eq_true rfl, Nat.le_of_ble_eq_true rfl⟩) hK hZ hS (subP hP [] rfl) rfl hl.1 rfl (Nat.le_of_ble_eq_true rfl) dX4_key_8 ⟨Nat.zero_le _, Nat.zero_le _⟩ (fun r_83 hr_83 => ?_)
  obtain rfl : r_83 = (inI y.toInt 0 65535) := hr_83
  refine lv_if_eq (tgt := 20) hx hb dX4_key_11 (by decide) (fun c9 => absurd c9 (by rw [inI_1 (by omega) (by omega)]; decide)) (fun _ => ?_)
  refine lv_lload_n hx hb dX4_key_14 rfl (lv_at hl 1 rfl) ?_
  refine lv_lload_n hx hb dX4_key_15 rfl (lv_at hl 2 rfl) ?_
  refine W.lcmp hx hb dX4_key_16 ?_
  refine lv_if_le (tgt := 23) hx hb dX4_key_17 (by decide) (fun _ => ?_) (fun c9 => absurd (by simp only [lc_le]; omega) c9)
  refine lv_aload_n hx hb dX4_key_23 rfl (lv_at hl 0 rfl) ?_
  refine va_get (D := g.1) (ci := 5) (v := .int (nI kn)) (C := RX4) (T := TX4) (N := 10) hx hb hts hiX4 hown hK.1 hP 0 rfl rfl 1 (by decide) (hts (.fieldLink RX4 44 "StampMaker" "keyCount" "I") (by decide +kernel)) (fun _ h9 => h9) rfl dX4_key_24 ?_
  refine lv_bipush (v := (nI 15)) hx hb dX4_key_27 (by decide) ?_
  refine lv_icmp_lt (tgt := 35) hx hb dX4_key_29 (by decide) (fun _ => ?_) (fun c9 => absurd (nI_lt hkn (by omega)) c9)
  refine lv_aload_n hx hb dX4_key_35 rfl (lv_at hl 0 rfl) ?_
  refine va_get (D := g.1) (ci := 5) (v := .ref ks) (C := RX4) (T := TX4) (N := 10) hx hb hts hiX4 hown hK.1 hP 0 rfl rfl 0 (by decide) (hts (.fieldLink RX4 11 "StampMaker" "keys" "[LStampMaker$Key;") (by decide +kernel)) (fun _ h9 => h9) rfl dX4_key_36 ?_
  refine lv_aload_n hx hb dX4_key_39 rfl (lv_at hl 0 rfl) ?_
  refine va_get (D := g.1) (ci := 5) (v := .int (nI kn)) (C := RX4) (T := TX4) (N := 10) hx hb hts hiX4 hown hK.1 hP 0 rfl rfl 1 (by decide) (hts (.fieldLink RX4 44 "StampMaker" "keyCount" "I") (by decide +kernel)) (fun _ h9 => h9) rfl dX4_key_40 ?_
  refine va_new (ci := 3) (fs := [.int 0, .int 0, .null, .int 0, .int 0]) (C := RX2) (T := TX2) (N := 5) hx hb hts hiX2 tyX2 tyX2_ok hown (hts (.classLink RX4 9 RX2) (by decide +kernel)) (hts (.instantiable RX2 5) (by decide +kernel)) (hts (.initialized RX2) (by decide +kernel)) hK.1 hP hD hS hA rfl (fun j hj => by rcases (show j = 0 ∨ j = 1 ∨ j = 2 ∨ j = 3 ∨ j = 4 by omega) with rfl | rfl | rfl | rfl | rfl <;> rfl) (Nat.le_of_ble_eq_true rfl) (Nat.le_of_ble_eq_true rfl) dX4_key_43 (fun q H hP hD hS => ?_)
  have hP : va_P g.1 vwCl [(s0, .inr (5, [.ref ks, .int (nI kn), .int (nI mn), .ref lt, .ref ty, .int (nI tn), .int cc, .int sp, .ref lg, .ref dg])), (ks, .inl (g.2.1 4, 15, .inr (.inr (.inr (.inr fk))))), (q, .inr (3, [.int 0, .int 0, .null, .int 0, .int 0]))] H := hP
  have hD : va_D A [(s0, .inr (5, [.ref ks, .int (nI kn), .int (nI mn), .ref lt, .ref ty, .int (nI tn), .int cc, .int sp, .ref lg, .ref dg])), (ks, .inl (g.2.1 4, 15, .inr (.inr (.inr (.inr fk))))), (q, .inr (3, [.int 0, .int 0, .null, .int 0, .int 0]))] := hD
  refine lv_dup hx hb dX4_key_46 rfl ?_
  refine lv_lload_n hx hb dX4_key_47 rfl (lv_at hl 1 rfl) ?_
  refine lv_l2i hx hb dX4_key_48 rfl ?_
  refine lv_lload_n hx hb dX4_key_49 rfl (lv_at hl 2 rfl) ?_
  refine lv_l2i hx hb dX4_key_50 rfl ?_
  refine wIv (rest := [.ref q, .int (nI kn), .ref ks]) ⟨hx, hb, hml, hown, hts⟩ [.int x.toInt32, .int y.toInt32] [2] (c_X2_init l g H.size (k := q) (fr := x.toInt32) (un := y.toInt32)) (cwI 2 hts gX4_key_X2_init rfl rfl rfl (hts (.initialized RX2) (by decide +kernel)) (hts (.methodLink RX4 47 yX2_init) (by decide +kernel)) (hts (.instanceMethod yX2_init) (by decide +kernel)) rfl (by decide +kernel) ⟨Nat.le_of_ble_eq_true rfl, Nat.le_of_ble_eq_true rfl⟩) hK hZ hS hP hD hA rfl (by decide) (fun _ => Nat.le_of_ble_eq_true rfl) (fun _ => rfl) rfl hl.1 rfl (Nat.le_of_ble_eq_true rfl) dX4_key_51 ⟨Nat.le_of_ble_eq_true rfl, Nat.le_of_ble_eq_true rfl⟩ (fun u H locs hr_84 hP hD hS => ?_)
  obtain ⟨qb, rfl⟩ : ∃ z, z = u := ⟨_, rfl⟩
  have hP : va_P g.1 vwCl [(s0, .inr (5, [.ref ks, .int (nI kn), .int (nI mn), .ref lt, .ref ty, .int (nI tn), .int cc, .int sp, .ref lg, .ref dg])), (ks, .inl (g.2.1 4, 15, .inr (.inr (.inr (.inr fk))))), (q, .inr (3, [.int x.toInt32, .int y.toInt32, .ref qb, .int 0, .int 0])), (qb, .inl (g.2.1 1, 32, .inl (fun _ => 0)))] H := hP
  have hD : va_D A [(s0, .inr (5, [.ref ks, .int (nI kn), .int (nI mn), .ref lt, .ref ty, .int (nI tn), .int cc, .int sp, .ref lg, .ref dg])), (ks, .inl (g.2.1 4, 15, .inr (.inr (.inr (.inr fk))))), (q, .inr (3, [.int x.toInt32, .int y.toInt32, .ref qb, .int 0, .int 0])), (qb, .inl (g.2.1 1, 32, .inl (fun _ => 0)))] := hD
  refine va_astq (r := (RX2, TX2, 5)) hx hb hK.1 hP hD hS 1 4 2 3 rfl rfl rfl rfl (vp_in_nI (by omega) (by omega)) dX4_key_54 (fun H locs hP hD hS => ?_)
  rw [nI_clamp (by omega)] at hP hD
  have hP : va_P g.1 vwCl [(s0, .inr (5, [.ref ks, .int (nI kn), .int (nI mn), .ref lt, .ref ty, .int (nI tn), .int cc, .int sp, .ref lg, .ref dg])), (ks, .inl (g.2.1 4, 15, .inr (.inr (.inr (.inr (va_up fk kn (some q))))))), (q, .inr (3, [.int x.toInt32, .int y.toInt32, .ref qb, .int 0, .int 0])), (qb, .inl (g.2.1 1, 32, .inl (fun _ => 0)))] H := hP
  have hD : va_D A [(s0, .inr (5, [.ref ks, .int (nI kn), .int (nI mn), .ref lt, .ref ty, .int (nI tn), .int cc, .int sp, .ref lg, .ref dg])), (ks, .inl (g.2.1 4, 15, .inr (.inr (.inr (.inr (va_up fk kn (some q))))))), (q, .inr (3, [.int x.toInt32, .int y.toInt32, .ref qb, .int 0, .int 0])), (qb, .inl (g.2.1 1, 32, .inl (fun _ => 0)))] := hD
  refine lv_aload_n hx hb dX4_key_55 rfl (lv_at hl 0 rfl) ?_
  refine lv_dup hx hb dX4_key_56 rfl ?_
  refine va_get (D := g.1) (ci := 5) (v := .int (nI kn)) (C := RX4) (T := TX4) (N := 10) hx hb hts hiX4 hown hK.1 hP 0 rfl rfl 1 (by decide) (hts (.fieldLink RX4 44 "StampMaker" "keyCount" "I") (by decide +kernel)) (fun _ h9 => h9) rfl dX4_key_57 ?_
  refine lv_dup_x1 hx hb dX4_key_60 rfl rfl ?_
  refine lv_iconst (v := (nI 1)) hx hb dX4_key_61 (by decide) ?_
  refine lv_iadd hx hb dX4_key_62 ?_
  refine lv_rei (x' := (nI (kn + 1))) (nI_1 _) ?_
  refine va_put (D := g.1) (ci := 5) (v := .int (nI (kn + 1))) (ty := .int) (C := RX4) (T := TX4) (N := 10) hx hb hts hiX4 tyX4 tyX4_ok nmX4 hown hK.1 hP hD hS 0 rfl rfl 1 (by decide) (hts (.fieldLink RX4 44 "StampMaker" "keyCount" "I") (by decide +kernel)) (fun _ h9 => h9) rfl (by decide +kernel) rfl rfl (Nat.le_of_ble_eq_true rfl) dX4_key_63 (fun H locs hP hD hS => ?_)
  have hP : va_P g.1 vwCl [(s0, .inr (5, [.ref ks, .int (nI (kn + 1)), .int (nI mn), .ref lt, .ref ty, .int (nI tn), .int cc, .int sp, .ref lg, .ref dg])), (ks, .inl (g.2.1 4, 15, .inr (.inr (.inr (.inr (va_up fk kn (some q))))))), (q, .inr (3, [.int x.toInt32, .int y.toInt32, .ref qb, .int 0, .int 0])), (qb, .inl (g.2.1 1, 32, .inl (fun _ => 0)))] H := hP
  have hD : va_D A [(s0, .inr (5, [.ref ks, .int (nI (kn + 1)), .int (nI mn), .ref lt, .ref ty, .int (nI tn), .int cc, .int sp, .ref lg, .ref dg])), (ks, .inl (g.2.1 4, 15, .inr (.inr (.inr (.inr (va_up fk kn (some q))))))), (q, .inr (3, [.int x.toInt32, .int y.toInt32, .ref qb, .int 0, .int 0])), (qb, .inl (g.2.1 1, 32, .inl (fun _ => 0)))] := hD
  refine W.widen (k := 2) (n := 37) (Nat.le_of_ble_eq_true rfl) (Nat.le_of_ble_eq_true rfl) ?_
  exact endWi (q, qb) hx hb hr hlocks hS dX4_key_66 hP hD (rfl)
