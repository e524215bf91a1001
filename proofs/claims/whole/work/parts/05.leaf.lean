/-- x turned right by n bits, as the bytecode has it -/
def rorE (x n : Int32) : Int32 := ((x.toUInt32 >>> (n.toUInt32 &&& Int32.toUInt32 31)).toInt32 ||| (x <<< ((nI 32 - n) &&& 31)))
/-- the five fields side by side, as the bytecode has it -/
def jnE (a b c d f : Int32) : Int64 := (((((a.toInt64 <<< ((nI 51).toInt64 &&& 63)) ||| (b.toInt64 <<< ((nI 47).toInt64 &&& 63))) ||| (c.toInt64 <<< ((nI 30).toInt64 &&& 63))) ||| (d.toInt64 <<< ((nI 14).toInt64 &&& 63))) ||| f.toInt64)
/-- a field cut out: shifted right, its low bits -/
def cutE (x : Int64) (n m : Int32) : Int32 := ((x.toUInt64 >>> (n.toInt64.toUInt64 &&& Int64.toUInt64 63)).toInt64.toInt32 &&& m)
set_option maxHeartbeats 4000000 in
set_option maxRecDepth 100000 in
/-- x turned right by n -/
theorem c_X0_ror (l : Launch) (g : gE) (x n : Int32)  : Met l yX0_ror wsX0_ror ({ frames := 0, cells := 0, slots := 0, locals := 0 }) (va_Pc [.int x, .int n] (ro g [])) (vp_Si (fun r : Int32 => r = rorE x n)) 0 0 nA := by
  refine ofRo (cc := cX0_ror) (maxL := 2) (ret := (some .int)) (by decide) rfl (Nat.le_of_ble_eq_true rfl) (fun p e s m below meth c hx hb hr hml hts hown hlocks hnm hP hK hZ hS ls hl => ?_)
  have hown : s.vm.findClass RX0 = some m.cls := hown
  have hl : lv_has ls 2 [(0, .int x), (1, .int n)] := hl
  refine lv_iload_n hx hb dX0_ror_0 rfl (lv_at hl 0 rfl) ?_
  refine lv_iload_n hx hb dX0_ror_1 rfl (lv_at hl 1 rfl) ?_
  refine lv_iushr hx hb dX0_ror_2 rfl ?_
  refine lv_iload_n hx hb dX0_ror_3 rfl (lv_at hl 0 rfl) ?_
  refine lv_bipush (v := (nI 32)) hx hb dX0_ror_4 (by decide) ?_
  refine lv_iload_n hx hb dX0_ror_6 rfl (lv_at hl 1 rfl) ?_
  refine lv_isub hx hb dX0_ror_7 ?_
  refine lv_ishl hx hb dX0_ror_8 ?_
  refine lv_ior hx hb dX0_ror_9 ?_
  exact endRi hx hb hr hlocks dX0_ror_10 (rfl)

set_option maxHeartbeats 4000000 in
set_option maxRecDepth 100000 in
/-- x turned right by n -/
theorem c_X5_turn (l : Launch) (g : gE) (x n : Int32)  : Met l yX5_turn wsX5_turn ({ frames := 0, cells := 0, slots := 0, locals := 0 }) (va_Pc [.int x, .int n] (ro g [])) (vp_Si (fun r : Int32 => r = rorE x n)) 0 0 nA := by
  refine ofRo (cc := cX5_turn) (maxL := 2) (ret := (some .int)) (by decide) rfl (Nat.le_of_ble_eq_true rfl) (fun p e s m below meth c hx hb hr hml hts hown hlocks hnm hP hK hZ hS ls hl => ?_)
  have hown : s.vm.findClass RX5 = some m.cls := hown
  have hl : lv_has ls 2 [(0, .int x), (1, .int n)] := hl
  refine lv_iload_n hx hb dX5_turn_0 rfl (lv_at hl 0 rfl) ?_
  refine lv_iload_n hx hb dX5_turn_1 rfl (lv_at hl 1 rfl) ?_
  refine lv_iushr hx hb dX5_turn_2 rfl ?_
  refine lv_iload_n hx hb dX5_turn_3 rfl (lv_at hl 0 rfl) ?_
  refine lv_bipush (v := (nI 32)) hx hb dX5_turn_4 (by decide) ?_
  refine lv_iload_n hx hb dX5_turn_6 rfl (lv_at hl 1 rfl) ?_
  refine lv_isub hx hb dX5_turn_7 ?_
  refine lv_ishl hx hb dX5_turn_8 ?_
  refine lv_ior hx hb dX5_turn_9 ?_
  exact endRi hx hb hr hlocks dX5_turn_10 (rfl)

set_option maxHeartbeats 4000000 in
set_option maxRecDepth 100000 in
/-- the fields side by side -/
theorem c_X1_joined (l : Launch) (g : gE) (fa fb fc fd ff : Int32)  : Met l yX1_joined wsX1_joined ({ frames := 0, cells := 0, slots := 0, locals := 0 }) (va_Pc [.int fa, .int fb, .int fc, .int fd, .int ff] (ro g [])) (vp_Sl (fun r : Int64 => r = jnE fa fb fc fd ff)) 0 0 nA := by
  refine ofRo (cc := cX1_joined) (maxL := 5) (ret := (some .long)) (by decide) rfl (Nat.le_of_ble_eq_true rfl) (fun p e s m below meth c hx hb hr hml hts hown hlocks hnm hP hK hZ hS ls hl => ?_)
  have hown : s.vm.findClass RX1 = some m.cls := hown
  have hl : lv_has ls 5 [(0, .int fa), (1, .int fb), (2, .int fc), (3, .int fd), (4, .int ff)] := hl
  refine lv_iload_n hx hb dX1_joined_0 rfl (lv_at hl 0 rfl) ?_
  refine lv_i2l hx hb dX1_joined_1 rfl ?_
  refine lv_bipush (v := (nI 51)) hx hb dX1_joined_2 (by decide) ?_
  refine lv_lshl hx hb dX1_joined_4 rfl ?_
  refine lv_iload_n hx hb dX1_joined_5 rfl (lv_at hl 1 rfl) ?_
  refine lv_i2l hx hb dX1_joined_6 rfl ?_
  refine lv_bipush (v := (nI 47)) hx hb dX1_joined_7 (by decide) ?_
  refine lv_lshl hx hb dX1_joined_9 rfl ?_
  refine lv_lor hx hb dX1_joined_10 ?_
  refine lv_iload_n hx hb dX1_joined_11 rfl (lv_at hl 2 rfl) ?_
  refine lv_i2l hx hb dX1_joined_12 rfl ?_
  refine lv_bipush (v := (nI 30)) hx hb dX1_joined_13 (by decide) ?_
  refine lv_lshl hx hb dX1_joined_15 rfl ?_
  refine lv_lor hx hb dX1_joined_16 ?_
  refine lv_iload_n hx hb dX1_joined_17 rfl (lv_at hl 3 rfl) ?_
  refine lv_i2l hx hb dX1_joined_18 rfl ?_
  refine lv_bipush (v := (nI 14)) hx hb dX1_joined_19 (by decide) ?_
  refine lv_lshl hx hb dX1_joined_21 rfl ?_
  refine lv_lor hx hb dX1_joined_22 ?_
  refine lv_iload hx hb dX1_joined_23 (lv_at hl 4 rfl) ?_
  refine lv_i2l hx hb dX1_joined_25 rfl ?_
  refine lv_lor hx hb dX1_joined_26 ?_
  exact endRl hx hb hr hlocks dX1_joined_27 (rfl)

set_option maxHeartbeats 4000000 in
set_option maxRecDepth 100000 in
/-- a field -/
theorem c_X1_keyOf (l : Launch) (g : gE) (x : Int64)  : Met l yX1_keyOf wsX1_keyOf ({ frames := 0, cells := 0, slots := 0, locals := 0 }) (va_Pc [.long x] (ro g [])) (vp_Si (fun r : Int32 => r = cutE x (nI 51) (nI 15))) 0 0 nA := by
  refine ofRo (cc := cX1_keyOf) (maxL := 2) (ret := (some .int)) (by decide) rfl (Nat.le_of_ble_eq_true rfl) (fun p e s m below meth c hx hb hr hml hts hown hlocks hnm hP hK hZ hS ls hl => ?_)
  have hown : s.vm.findClass RX1 = some m.cls := hown
  have hl : lv_has ls 2 [(0, .long x)] := hl
  refine lv_lload_n hx hb dX1_keyOf_0 rfl (lv_at hl 0 rfl) ?_
  refine lv_bipush (v := (nI 51)) hx hb dX1_keyOf_1 (by decide) ?_
  refine lv_lushr hx hb dX1_keyOf_3 rfl ?_
  refine lv_l2i hx hb dX1_keyOf_4 rfl ?_
  refine lv_bipush (v := (nI 15)) hx hb dX1_keyOf_5 (by decide) ?_
  refine lv_iand hx hb dX1_keyOf_7 ?_
  exact endRi hx hb hr hlocks dX1_keyOf_8 (rfl)

set_option maxHeartbeats 4000000 in
set_option maxRecDepth 100000 in
/-- a field -/
theorem c_X1_kindOf (l : Launch) (g : gE) (x : Int64)  : Met l yX1_kindOf wsX1_kindOf ({ frames := 0, cells := 0, slots := 0, locals := 0 }) (va_Pc [.long x] (ro g [])) (vp_Si (fun r : Int32 => r = cutE x (nI 47) (nI 15))) 0 0 nA := by
  refine ofRo (cc := cX1_kindOf) (maxL := 2) (ret := (some .int)) (by decide) rfl (Nat.le_of_ble_eq_true rfl) (fun p e s m below meth c hx hb hr hml hts hown hlocks hnm hP hK hZ hS ls hl => ?_)
  have hown : s.vm.findClass RX1 = some m.cls := hown
  have hl : lv_has ls 2 [(0, .long x)] := hl
  refine lv_lload_n hx hb dX1_kindOf_0 rfl (lv_at hl 0 rfl) ?_
  refine lv_bipush (v := (nI 47)) hx hb dX1_kindOf_1 (by decide) ?_
  refine lv_lushr hx hb dX1_kindOf_3 rfl ?_
  refine lv_l2i hx hb dX1_kindOf_4 rfl ?_
  refine lv_bipush (v := (nI 15)) hx hb dX1_kindOf_5 (by decide) ?_
  refine lv_iand hx hb dX1_kindOf_7 ?_
  exact endRi hx hb hr hlocks dX1_kindOf_8 (rfl)

set_option maxHeartbeats 4000000 in
set_option maxRecDepth 100000 in
/-- a field -/
theorem c_X1_valueOf (l : Launch) (g : gE) (x : Int64)  : Met l yX1_valueOf wsX1_valueOf ({ frames := 0, cells := 0, slots := 0, locals := 0 }) (va_Pc [.long x] (ro g [])) (vp_Si (fun r : Int32 => r = cutE x (nI 30) (nI 131071))) 0 0 nA := by
  refine ofRo (cc := cX1_valueOf) (maxL := 2) (ret := (some .int)) (by decide) rfl (Nat.le_of_ble_eq_true rfl) (fun p e s m below meth c hx hb hr hml hts hown hlocks hnm hP hK hZ hS ls hl => ?_)
  have hown : s.vm.findClass RX1 = some m.cls := hown
  have hl : lv_has ls 2 [(0, .long x)] := hl
  refine lv_lload_n hx hb dX1_valueOf_0 rfl (lv_at hl 0 rfl) ?_
  refine lv_bipush (v := (nI 30)) hx hb dX1_valueOf_1 (by decide) ?_
  refine lv_lushr hx hb dX1_valueOf_3 rfl ?_
  refine lv_l2i hx hb dX1_valueOf_4 rfl ?_
  refine lv_ldc (v := (nI 131071)) hx hb hown (hts (.constant RX1 7 (nI 131071)) (by decide +kernel)) dX1_valueOf_5 ?_
  refine lv_iand hx hb dX1_valueOf_7 ?_
  exact endRi hx hb hr hlocks dX1_valueOf_8 (rfl)

set_option maxHeartbeats 4000000 in
set_option maxRecDepth 100000 in
/-- a field -/
theorem c_X1_dayOf (l : Launch) (g : gE) (x : Int64)  : Met l yX1_dayOf wsX1_dayOf ({ frames := 0, cells := 0, slots := 0, locals := 0 }) (va_Pc [.long x] (ro g [])) (vp_Si (fun r : Int32 => r = cutE x (nI 14) (nI 65535))) 0 0 nA := by
  refine ofRo (cc := cX1_dayOf) (maxL := 2) (ret := (some .int)) (by decide) rfl (Nat.le_of_ble_eq_true rfl) (fun p e s m below meth c hx hb hr hml hts hown hlocks hnm hP hK hZ hS ls hl => ?_)
  have hown : s.vm.findClass RX1 = some m.cls := hown
  have hl : lv_has ls 2 [(0, .long x)] := hl
  refine lv_lload_n hx hb dX1_dayOf_0 rfl (lv_at hl 0 rfl) ?_
  refine lv_bipush (v := (nI 14)) hx hb dX1_dayOf_1 (by decide) ?_
  refine lv_lushr hx hb dX1_dayOf_3 rfl ?_
  refine lv_l2i hx hb dX1_dayOf_4 rfl ?_
  refine lv_ldc (v := (nI 65535)) hx hb hown (hts (.constant RX1 8 (nI 65535)) (by decide +kernel)) dX1_dayOf_5 ?_
  refine lv_iand hx hb dX1_dayOf_7 ?_
  exact endRi hx hb hr hlocks dX1_dayOf_8 (rfl)

set_option maxHeartbeats 4000000 in
set_option maxRecDepth 100000 in
/-- the serial number -/
theorem c_X1_serialOf (l : Launch) (g : gE) (x : Int64)  : Met l yX1_serialOf wsX1_serialOf ({ frames := 0, cells := 0, slots := 0, locals := 0 }) (va_Pc [.long x] (ro g [])) (vp_Si (fun r : Int32 => r = (x.toInt32 &&& nI 16383))) 0 0 nA := by
  refine ofRo (cc := cX1_serialOf) (maxL := 2) (ret := (some .int)) (by decide) rfl (Nat.le_of_ble_eq_true rfl) (fun p e s m below meth c hx hb hr hml hts hown hlocks hnm hP hK hZ hS ls hl => ?_)
  have hown : s.vm.findClass RX1 = some m.cls := hown
  have hl : lv_has ls 2 [(0, .long x)] := hl
  refine lv_lload_n hx hb dX1_serialOf_0 rfl (lv_at hl 0 rfl) ?_
  refine lv_l2i hx hb dX1_serialOf_1 rfl ?_
  refine lv_sipush (v := (nI 16383)) hx hb dX1_serialOf_2 (by decide) ?_
  refine lv_iand hx hb dX1_serialOf_5 ?_
  exact endRi hx hb hr hlocks dX1_serialOf_6 (rfl)

set_option maxHeartbeats 4000000 in
set_option maxRecDepth 100000 in
/-- is it in its range -/
theorem c_X4_isDay (l : Launch) (g : gE) (x : Int64)  : Met l yX4_isDay wsX4_isDay ({ frames := 0, cells := 0, slots := 0, locals := 0 }) (va_Pc [.long x] (ro g [])) (vp_Si (fun r : Int32 => r = inI x.toInt 0 65535)) 0 0 nA := by
  refine ofRo (cc := cX4_isDay) (maxL := 2) (ret := (some .boolean)) (by decide) rfl (Nat.le_of_ble_eq_true rfl) (fun p e s m below meth c hx hb hr hml hts hown hlocks hnm hP hK hZ hS ls hl => ?_)
  have hown : s.vm.findClass RX4 = some m.cls := hown
  have hl : lv_has ls 2 [(0, .long x)] := hl
  have tn0 : (nI 0).toInt = 0 := by decide
  have tn1 : (nI 1).toInt = 1 := by decide
  have tl0 : (lN 0).toInt = 0 := by decide
  have tl65535 : (lN 65535).toInt = 65535 := by decide
  refine lv_lload_n hx hb dX4_isDay_0 rfl (lv_at hl 0 rfl) ?_
  refine lv_lconst (v := lN 0) hx hb dX4_isDay_1 (by decide) ?_
  refine W.lcmp hx hb dX4_isDay_2 ?_
  refine lv_if_lt (tgt := 18) hx hb dX4_isDay_3 (by decide) (fun c_1 => ?_) (fun c_1 => ?_)
  · refine lv_iconst (v := (nI 0)) hx hb dX4_isDay_18 (by decide) ?_
    exact endRz hx hb hr hlocks dX4_isDay_19 (by decide) (by (try simp only [lc_lt, lc_gt, lc_le, lc_ge, lc_eq] at c_1); (try simp only [ti_lt, ti_le, ti_eq, ti_0] at c_1); first | exact (inI_1 (by omega) (by omega)).symm | exact (inI_0 (by omega)).symm)
  · refine lv_lload_n hx hb dX4_isDay_6 rfl (lv_at hl 0 rfl) ?_
    refine lv_ldc2 (v := (lN 65535)) hx hb hown (hts (.constantLong RX4 142 (lN 65535)) (by decide +kernel)) dX4_isDay_7 ?_
    refine W.lcmp hx hb dX4_isDay_10 ?_
    refine lv_if_gt (tgt := 18) hx hb dX4_isDay_11 (by decide) (fun c_2 => ?_) (fun c_2 => ?_)
    · refine lv_iconst (v := (nI 0)) hx hb dX4_isDay_18 (by decide) ?_
      exact endRz hx hb hr hlocks dX4_isDay_19 (by decide) (by (try simp only [lc_lt, lc_gt, lc_le, lc_ge, lc_eq] at c_1); (try simp only [lc_lt, lc_gt, lc_le, lc_ge, lc_eq] at c_2); (try simp only [ti_lt, ti_le, ti_eq, ti_0] at c_1); (try simp only [ti_lt, ti_le, ti_eq, ti_0] at c_2); first | exact (inI_1 (by omega) (by omega)).symm | exact (inI_0 (by omega)).symm)
    · refine lv_iconst (v := (nI 1)) hx hb dX4_isDay_14 (by decide) ?_
      refine lv_goto (tgt := 19) hx hb dX4_isDay_15 (by decide) ?_
      exact endRz hx hb hr hlocks dX4_isDay_19 (by decide) (by (try simp only [lc_lt, lc_gt, lc_le, lc_ge, lc_eq] at c_1); (try simp only [lc_lt, lc_gt, lc_le, lc_ge, lc_eq] at c_2); (try simp only [ti_lt, ti_le, ti_eq, ti_0] at c_1); (try simp only [ti_lt, ti_le, ti_eq, ti_0] at c_2); first | exact (inI_1 (by omega) (by omega)).symm | exact (inI_0 (by omega)).symm)

set_option maxHeartbeats 4000000 in
set_option maxRecDepth 100000 in
/-- is it in its range -/
theorem c_X3_isSerial (l : Launch) (g : gE) (x : Int64)  : Met l yX3_isSerial wsX3_isSerial ({ frames := 0, cells := 0, slots := 0, locals := 0 }) (va_Pc [.long x] (ro g [])) (vp_Si (fun r : Int32 => r = inI x.toInt 0 16383)) 0 0 nA := by
  refine ofRo (cc := cX3_isSerial) (maxL := 2) (ret := (some .boolean)) (by decide) rfl (Nat.le_of_ble_eq_true rfl) (fun p e s m below meth c hx hb hr hml hts hown hlocks hnm hP hK hZ hS ls hl => ?_)
  have hown : s.vm.findClass RX3 = some m.cls := hown
  have hl : lv_has ls 2 [(0, .long x)] := hl
  have tn0 : (nI 0).toInt = 0 := by decide
  have tn1 : (nI 1).toInt = 1 := by decide
  have tl0 : (lN 0).toInt = 0 := by decide
  have tl16384 : (lN 16384).toInt = 16384 := by decide
  refine lv_lload_n hx hb dX3_isSerial_0 rfl (lv_at hl 0 rfl) ?_
  refine lv_lconst (v := lN 0) hx hb dX3_isSerial_1 (by decide) ?_
  refine W.lcmp hx hb dX3_isSerial_2 ?_
  refine lv_if_lt (tgt := 18) hx hb dX3_isSerial_3 (by decide) (fun c_3 => ?_) (fun c_3 => ?_)
  · refine lv_iconst (v := (nI 0)) hx hb dX3_isSerial_18 (by decide) ?_
    exact endRz hx hb hr hlocks dX3_isSerial_19 (by decide) (by (try simp only [lc_lt, lc_gt, lc_le, lc_ge, lc_eq] at c_3); (try simp only [ti_lt, ti_le, ti_eq, ti_0] at c_3); first | exact (inI_1 (by omega) (by omega)).symm | exact (inI_0 (by omega)).symm)
  · refine lv_lload_n hx hb dX3_isSerial_6 rfl (lv_at hl 0 rfl) ?_
    refine lv_ldc2 (v := (lN 16384)) hx hb hown (hts (.constantLong RX3 22 (lN 16384)) (by decide +kernel)) dX3_isSerial_7 ?_
    refine W.lcmp hx hb dX3_isSerial_10 ?_
    refine lv_if_ge (tgt := 18) hx hb dX3_isSerial_11 (by decide) (fun c_4 => ?_) (fun c_4 => ?_)
    · refine lv_iconst (v := (nI 0)) hx hb dX3_isSerial_18 (by decide) ?_
      exact endRz hx hb hr hlocks dX3_isSerial_19 (by decide) (by (try simp only [lc_lt, lc_gt, lc_le, lc_ge, lc_eq] at c_3); (try simp only [lc_lt, lc_gt, lc_le, lc_ge, lc_eq] at c_4); (try simp only [ti_lt, ti_le, ti_eq, ti_0] at c_3); (try simp only [ti_lt, ti_le, ti_eq, ti_0] at c_4); first | exact (inI_1 (by omega) (by omega)).symm | exact (inI_0 (by omega)).symm)
    · refine lv_iconst (v := (nI 1)) hx hb dX3_isSerial_14 (by decide) ?_
      refine lv_goto (tgt := 19) hx hb dX3_isSerial_15 (by decide) ?_
      exact endRz hx hb hr hlocks dX3_isSerial_19 (by decide) (by (try simp only [lc_lt, lc_gt, lc_le, lc_ge, lc_eq] at c_3); (try simp only [lc_lt, lc_gt, lc_le, lc_ge, lc_eq] at c_4); (try simp only [ti_lt, ti_le, ti_eq, ti_0] at c_3); (try simp only [ti_lt, ti_le, ti_eq, ti_0] at c_4); first | exact (inI_1 (by omega) (by omega)).symm | exact (inI_0 (by omega)).symm)

set_option maxHeartbeats 4000000 in
set_option maxRecDepth 100000 in
/-- is it in its range -/
theorem c_X4_isValue (l : Launch) (g : gE) (x : Int32)  : Met l yX4_isValue wsX4_isValue ({ frames := 0, cells := 0, slots := 0, locals := 0 }) (va_Pc [.int x] (ro g [])) (vp_Si (fun r : Int32 => r = inI x.toInt 1 99999)) 0 0 nA := by
  refine ofRo (cc := cX4_isValue) (maxL := 1) (ret := (some .boolean)) (by decide) rfl (Nat.le_of_ble_eq_true rfl) (fun p e s m below meth c hx hb hr hml hts hown hlocks hnm hP hK hZ hS ls hl => ?_)
  have hown : s.vm.findClass RX4 = some m.cls := hown
  have hl : lv_has ls 1 [(0, .int x)] := hl
  have tn0 : (nI 0).toInt = 0 := by decide
  have tn1 : (nI 1).toInt = 1 := by decide
  have tn99999 : (nI 99999).toInt = 99999 := by decide
  refine lv_iload_n hx hb dX4_isValue_0 rfl (lv_at hl 0 rfl) ?_
  refine lv_iconst (v := (nI 1)) hx hb dX4_isValue_1 (by decide) ?_
  refine lv_icmp_lt (tgt := 15) hx hb dX4_isValue_2 (by decide) (fun c_5 => ?_) (fun c_5 => ?_)
  · refine lv_iconst (v := (nI 0)) hx hb dX4_isValue_15 (by decide) ?_
    exact endRz hx hb hr hlocks dX4_isValue_16 (by decide) (by (try simp only [lc_lt, lc_gt, lc_le, lc_ge, lc_eq] at c_5); (try simp only [ti_lt, ti_le, ti_eq, ti_0] at c_5); first | exact (inI_1 (by omega) (by omega)).symm | exact (inI_0 (by omega)).symm)
  · refine lv_iload_n hx hb dX4_isValue_5 rfl (lv_at hl 0 rfl) ?_
    refine lv_ldc (v := (nI 99999)) hx hb hown (hts (.constant RX4 144 (nI 99999)) (by decide +kernel)) dX4_isValue_6 ?_
    refine lv_icmp_gt (tgt := 15) hx hb dX4_isValue_8 (by decide) (fun c_6 => ?_) (fun c_6 => ?_)
    · refine lv_iconst (v := (nI 0)) hx hb dX4_isValue_15 (by decide) ?_
      exact endRz hx hb hr hlocks dX4_isValue_16 (by decide) (by (try simp only [lc_lt, lc_gt, lc_le, lc_ge, lc_eq] at c_5); (try simp only [lc_lt, lc_gt, lc_le, lc_ge, lc_eq] at c_6); (try simp only [ti_lt, ti_le, ti_eq, ti_0] at c_5); (try simp only [ti_lt, ti_le, ti_eq, ti_0] at c_6); first | exact (inI_1 (by omega) (by omega)).symm | exact (inI_0 (by omega)).symm)
    · refine lv_iconst (v := (nI 1)) hx hb dX4_isValue_11 (by decide) ?_
      refine lv_goto (tgt := 16) hx hb dX4_isValue_12 (by decide) ?_
      exact endRz hx hb hr hlocks dX4_isValue_16 (by decide) (by (try simp only [lc_lt, lc_gt, lc_le, lc_ge, lc_eq] at c_5); (try simp only [lc_lt, lc_gt, lc_le, lc_ge, lc_eq] at c_6); (try simp only [ti_lt, ti_le, ti_eq, ti_0] at c_5); (try simp only [ti_lt, ti_le, ti_eq, ti_0] at c_6); first | exact (inI_1 (by omega) (by omega)).symm | exact (inI_0 (by omega)).symm)

set_option maxHeartbeats 4000000 in
set_option maxRecDepth 100000 in
/-- is it in its range -/
theorem c_X4_isKind (l : Launch) (g : gE) (x : Int32)  : Met l yX4_isKind wsX4_isKind ({ frames := 0, cells := 0, slots := 0, locals := 0 }) (va_Pc [.int x] (ro g [])) (vp_Si (fun r : Int32 => r = inI x.toInt 0 9)) 0 0 nA := by
  refine ofRo (cc := cX4_isKind) (maxL := 1) (ret := (some .boolean)) (by decide) rfl (Nat.le_of_ble_eq_true rfl) (fun p e s m below meth c hx hb hr hml hts hown hlocks hnm hP hK hZ hS ls hl => ?_)
  have hown : s.vm.findClass RX4 = some m.cls := hown
  have hl : lv_has ls 1 [(0, .int x)] := hl
  have tn0 : (nI 0).toInt = 0 := by decide
  have tn1 : (nI 1).toInt = 1 := by decide
  have tn9 : (nI 9).toInt = 9 := by decide
  refine lv_iload_n hx hb dX4_isKind_0 rfl (lv_at hl 0 rfl) ?_
  refine lv_if_lt (tgt := 14) hx hb dX4_isKind_1 (by decide) (fun c_7 => ?_) (fun c_7 => ?_)
  · refine lv_iconst (v := (nI 0)) hx hb dX4_isKind_14 (by decide) ?_
    exact endRz hx hb hr hlocks dX4_isKind_15 (by decide) (by (try simp only [lc_lt, lc_gt, lc_le, lc_ge, lc_eq] at c_7); (try simp only [ti_lt, ti_le, ti_eq, ti_0] at c_7); first | exact (inI_1 (by omega) (by omega)).symm | exact (inI_0 (by omega)).symm)
  · refine lv_iload_n hx hb dX4_isKind_4 rfl (lv_at hl 0 rfl) ?_
    refine lv_bipush (v := (nI 9)) hx hb dX4_isKind_5 (by decide) ?_
    refine lv_icmp_gt (tgt := 14) hx hb dX4_isKind_7 (by decide) (fun c_8 => ?_) (fun c_8 => ?_)
    · refine lv_iconst (v := (nI 0)) hx hb dX4_isKind_14 (by decide) ?_
      exact endRz hx hb hr hlocks dX4_isKind_15 (by decide) (by (try simp only [lc_lt, lc_gt, lc_le, lc_ge, lc_eq] at c_7); (try simp only [lc_lt, lc_gt, lc_le, lc_ge, lc_eq] at c_8); (try simp only [ti_lt, ti_le, ti_eq, ti_0] at c_7); (try simp only [ti_lt, ti_le, ti_eq, ti_0] at c_8); first | exact (inI_1 (by omega) (by omega)).symm | exact (inI_0 (by omega)).symm)
    · refine lv_iconst (v := (nI 1)) hx hb dX4_isKind_10 (by decide) ?_
      refine lv_goto (tgt := 15) hx hb dX4_isKind_11 (by decide) ?_
      exact endRz hx hb hr hlocks dX4_isKind_15 (by decide) (by (try simp only [lc_lt, lc_gt, lc_le, lc_ge, lc_eq] at c_7); (try simp only [lc_lt, lc_gt, lc_le, lc_ge, lc_eq] at c_8); (try simp only [ti_lt, ti_le, ti_eq, ti_0] at c_7); (try simp only [ti_lt, ti_le, ti_eq, ti_0] at c_8); first | exact (inI_1 (by omega) (by omega)).symm | exact (inI_0 (by omega)).symm)

set_option maxHeartbeats 4000000 in
set_option maxRecDepth 100000 in
/-- -1 less the reason -/
theorem c_X4_refusedFor (l : Launch) (g : gE) (x : Int32)  : Met l yX4_refusedFor wsX4_refusedFor ({ frames := 0, cells := 0, slots := 0, locals := 0 }) (va_Pc [.int x] (ro g [])) (vp_Si (fun r : Int32 => r = (-1) - x)) 0 0 nA := by
  refine ofRo (cc := cX4_refusedFor) (maxL := 1) (ret := (some .int)) (by decide) rfl (Nat.le_of_ble_eq_true rfl) (fun p e s m below meth c hx hb hr hml hts hown hlocks hnm hP hK hZ hS ls hl => ?_)
  have hown : s.vm.findClass RX4 = some m.cls := hown
  have hl : lv_has ls 1 [(0, .int x)] := hl
  refine lv_iconst (v := (-1)) hx hb dX4_refusedFor_0 (by decide) ?_
  refine lv_iload_n hx hb dX4_refusedFor_1 rfl (lv_at hl 0 rfl) ?_
  refine lv_isub hx hb dX4_refusedFor_2 ?_
  exact endRi hx hb hr hlocks dX4_refusedFor_3 (rfl)

set_option maxHeartbeats 4000000 in
set_option maxRecDepth 100000 in
/-- is v between -/
theorem c_X5_within (l : Launch) (g : gE) (v lo hi : Int64)  : Met l yX5_within wsX5_within ({ frames := 0, cells := 0, slots := 0, locals := 0 }) (va_Pc [.long v, .long lo, .long hi] (ro g [])) (vp_Si (fun r : Int32 => r = inI v.toInt lo.toInt hi.toInt)) 0 0 nA := by
  refine ofRo (cc := cX5_within) (maxL := 6) (ret := (some .boolean)) (by decide) rfl (Nat.le_of_ble_eq_true rfl) (fun p e s m below meth c hx hb hr hml hts hown hlocks hnm hP hK hZ hS ls hl => ?_)
  have hown : s.vm.findClass RX5 = some m.cls := hown
  have hl : lv_has ls 6 [(0, .long v), (2, .long lo), (4, .long hi)] := hl
  have tn0 : (nI 0).toInt = 0 := by decide
  have tn1 : (nI 1).toInt = 1 := by decide
  refine lv_lload_n hx hb dX5_within_0 rfl (lv_at hl 0 rfl) ?_
  refine lv_lload_n hx hb dX5_within_1 rfl (lv_at hl 1 rfl) ?_
  refine W.lcmp hx hb dX5_within_2 ?_
  refine lv_if_lt (tgt := 17) hx hb dX5_within_3 (by decide) (fun c_9 => ?_) (fun c_9 => ?_)
  · refine lv_iconst (v := (nI 0)) hx hb dX5_within_17 (by decide) ?_
    exact endRz hx hb hr hlocks dX5_within_18 (by decide) (by (try simp only [lc_lt, lc_gt, lc_le, lc_ge, lc_eq] at c_9); (try simp only [ti_lt, ti_le, ti_eq, ti_0] at c_9); first | exact (inI_1 (by omega) (by omega)).symm | exact (inI_0 (by omega)).symm)
  · refine lv_lload_n hx hb dX5_within_6 rfl (lv_at hl 0 rfl) ?_
    refine lv_lload hx hb dX5_within_7 (lv_at hl 2 rfl) ?_
    refine W.lcmp hx hb dX5_within_9 ?_
    refine lv_if_gt (tgt := 17) hx hb dX5_within_10 (by decide) (fun c_10 => ?_) (fun c_10 => ?_)
    · refine lv_iconst (v := (nI 0)) hx hb dX5_within_17 (by decide) ?_
      exact endRz hx hb hr hlocks dX5_within_18 (by decide) (by (try simp only [lc_lt, lc_gt, lc_le, lc_ge, lc_eq] at c_9); (try simp only [lc_lt, lc_gt, lc_le, lc_ge, lc_eq] at c_10); (try simp only [ti_lt, ti_le, ti_eq, ti_0] at c_9); (try simp only [ti_lt, ti_le, ti_eq, ti_0] at c_10); first | exact (inI_1 (by omega) (by omega)).symm | exact (inI_0 (by omega)).symm)
    · refine lv_iconst (v := (nI 1)) hx hb dX5_within_13 (by decide) ?_
      refine lv_goto (tgt := 18) hx hb dX5_within_14 (by decide) ?_
      exact endRz hx hb hr hlocks dX5_within_18 (by decide) (by (try simp only [lc_lt, lc_gt, lc_le, lc_ge, lc_eq] at c_9); (try simp only [lc_lt, lc_gt, lc_le, lc_ge, lc_eq] at c_10); (try simp only [ti_lt, ti_le, ti_eq, ti_0] at c_9); (try simp only [ti_lt, ti_le, ti_eq, ti_0] at c_10); first | exact (inI_1 (by omega) (by omega)).symm | exact (inI_0 (by omega)).symm)

set_option maxHeartbeats 4000000 in
set_option maxRecDepth 100000 in
/-- does it hold on day x -/
theorem c_X2_holdsOn (l : Launch) (g : gE) (k kb : Nat) (fr un cn cl : Int32) (x : Int64)  : Met l yX2_holdsOn wsX2_holdsOn ({ frames := 0, cells := 0, slots := 0, locals := 0 }) (va_Pc [.ref k, .long x] (ro g [(k, .inr (3, [.int fr, .int un, .ref kb, .int cn, .int cl]))])) (vp_Si (fun r : Int32 => r = inI x.toInt fr.toInt un.toInt)) 0 0 nA := by
  refine ofRo (cc := cX2_holdsOn) (maxL := 3) (ret := (some .boolean)) (by decide) rfl (Nat.le_of_ble_eq_true rfl) (fun p e s m below meth c hx hb hr hml hts hown hlocks hnm hP hK hZ hS ls hl => ?_)
  have hown : s.vm.findClass RX2 = some m.cls := hown
  have hl : lv_has ls 3 [(0, .ref k), (1, .long x)] := hl
  have tn0 : (nI 0).toInt = 0 := by decide
  have tn1 : (nI 1).toInt = 1 := by decide
  have hiX2 : ∀ w ∈ wsX20, w ∈ wsX2_holdsOn := by decide +kernel
  refine lv_aload_n hx hb dX2_holdsOn_0 rfl (lv_at hl 0 rfl) ?_
  refine va_get (D := g.1) (ci := 3) (v := .int fr) (C := RX2) (T := TX2) (N := 5) hx hb hts hiX2 hown hK.1 hP 0 rfl rfl 0 (by decide) (hts (.fieldLink RX2 13 "StampMaker$Key" "from" "I") (by decide +kernel)) (fun _ h9 => h9) rfl dX2_holdsOn_1 ?_
  refine lv_i2l hx hb dX2_holdsOn_4 rfl ?_
  refine lv_lload_n hx hb dX2_holdsOn_5 rfl (lv_at hl 1 rfl) ?_
  refine W.lcmp hx hb dX2_holdsOn_6 ?_
  refine lv_if_gt (tgt := 24) hx hb dX2_holdsOn_7 (by decide) (fun c_11 => ?_) (fun c_11 => ?_)
  · refine lv_iconst (v := (nI 0)) hx hb dX2_holdsOn_24 (by decide) ?_
    exact endRz hx hb hr hlocks dX2_holdsOn_25 (by decide) (by (try simp only [lc_lt, lc_gt, lc_le, lc_ge, lc_eq] at c_11); (try simp only [ti_lt, ti_le, ti_eq, ti_0] at c_11); (try simp only [Int32.toInt_toInt64] at c_11); first | exact (inI_1 (by omega) (by omega)).symm | exact (inI_0 (by omega)).symm)
  · refine lv_lload_n hx hb dX2_holdsOn_10 rfl (lv_at hl 1 rfl) ?_
    refine lv_aload_n hx hb dX2_holdsOn_11 rfl (lv_at hl 0 rfl) ?_
    refine va_get (D := g.1) (ci := 3) (v := .int un) (C := RX2) (T := TX2) (N := 5) hx hb hts hiX2 hown hK.1 hP 0 rfl rfl 1 (by decide) (hts (.fieldLink RX2 17 "StampMaker$Key" "until" "I") (by decide +kernel)) (fun _ h9 => h9) rfl dX2_holdsOn_12 ?_
    refine lv_i2l hx hb dX2_holdsOn_15 rfl ?_
    refine W.lcmp hx hb dX2_holdsOn_16 ?_
    refine lv_if_gt (tgt := 24) hx hb dX2_holdsOn_17 (by decide) (fun c_12 => ?_) (fun c_12 => ?_)
    · refine lv_iconst (v := (nI 0)) hx hb dX2_holdsOn_24 (by decide) ?_
      exact endRz hx hb hr hlocks dX2_holdsOn_25 (by decide) (by (try simp only [lc_lt, lc_gt, lc_le, lc_ge, lc_eq] at c_11); (try simp only [lc_lt, lc_gt, lc_le, lc_ge, lc_eq] at c_12); (try simp only [ti_lt, ti_le, ti_eq, ti_0] at c_11); (try simp only [ti_lt, ti_le, ti_eq, ti_0] at c_12); (try simp only [Int32.toInt_toInt64] at c_11); (try simp only [Int32.toInt_toInt64] at c_12); first | exact (inI_1 (by omega) (by omega)).symm | exact (inI_0 (by omega)).symm)
    · refine lv_iconst (v := (nI 1)) hx hb dX2_holdsOn_20 (by decide) ?_
      refine lv_goto (tgt := 25) hx hb dX2_holdsOn_21 (by decide) ?_
      exact endRz hx hb hr hlocks dX2_holdsOn_25 (by decide) (by (try simp only [lc_lt, lc_gt, lc_le, lc_ge, lc_eq] at c_11); (try simp only [lc_lt, lc_gt, lc_le, lc_ge, lc_eq] at c_12); (try simp only [ti_lt, ti_le, ti_eq, ti_0] at c_11); (try simp only [ti_lt, ti_le, ti_eq, ti_0] at c_12); (try simp only [Int32.toInt_toInt64] at c_11); (try simp only [Int32.toInt_toInt64] at c_12); first | exact (inI_1 (by omega) (by omega)).symm | exact (inI_0 (by omega)).symm)

set_option maxHeartbeats 4000000 in
set_option maxRecDepth 100000 in
/-- its size -/
theorem c_X2_size (l : Launch) (g : gE) (k kb : Nat) (fr un cn cl : Int32)  : Met l yX2_size wsX2_size ({ frames := 0, cells := 0, slots := 0, locals := 0 }) (va_Pc [.ref k] (ro g [(k, .inr (3, [.int fr, .int un, .ref kb, .int cn, .int cl]))])) (vp_Si (fun r : Int32 => r = cn)) 0 0 nA := by
  refine ofRo (cc := cX2_size) (maxL := 1) (ret := (some .int)) (by decide) rfl (Nat.le_of_ble_eq_true rfl) (fun p e s m below meth c hx hb hr hml hts hown hlocks hnm hP hK hZ hS ls hl => ?_)
  have hown : s.vm.findClass RX2 = some m.cls := hown
  have hl : lv_has ls 1 [(0, .ref k)] := hl
  have hiX2 : ∀ w ∈ wsX20, w ∈ wsX2_size := by decide +kernel
  refine lv_aload_n hx hb dX2_size_0 rfl (lv_at hl 0 rfl) ?_
  refine va_get (D := g.1) (ci := 3) (v := .int cn) (C := RX2) (T := TX2) (N := 5) hx hb hts hiX2 hown hK.1 hP 0 rfl rfl 3 (by decide) (hts (.fieldLink RX2 24 "StampMaker$Key" "count" "I") (by decide +kernel)) (fun _ h9 => h9) rfl dX2_size_1 ?_
  exact endRi hx hb hr hlocks dX2_size_4 (rfl)

set_option maxHeartbeats 4000000 in
set_option maxRecDepth 100000 in
/-- byte i, as 0 .. 255 -/
theorem c_X2_octetAt (l : Launch) (g : gE) (k kb : Nat) (fr un cn cl : Int32) (f : Nat → Int32) (i : Nat) (hi : i < 32) : Met l yX2_octetAt wsX2_octetAt ({ frames := 0, cells := 0, slots := 0, locals := 0 }) (va_Pc [.ref k, .int (nI i)] (ro g [(k, .inr (3, [.int fr, .int un, .ref kb, .int cn, .int cl])), (kb, .inl (g.2.1 1, 32, .inl f))])) (vp_Si (fun r : Int32 => r = (f i &&& nI 255))) 0 0 nA := by
  refine ofRo (cc := cX2_octetAt) (maxL := 2) (ret := (some .int)) (by decide) rfl (Nat.le_of_ble_eq_true rfl) (fun p e s m below meth c hx hb hr hml hts hown hlocks hnm hP hK hZ hS ls hl => ?_)
  have hown : s.vm.findClass RX2 = some m.cls := hown
  have hl : lv_has ls 2 [(0, .ref k), (1, .int (nI i))] := hl
  have tn0 : (nI 0).toInt = 0 := by decide
  have tn32 : (nI 32).toInt = 32 := by decide
  have tn255 : (nI 255).toInt = 255 := by decide
  have hiX2 : ∀ w ∈ wsX20, w ∈ wsX2_octetAt := by decide +kernel
  refine lv_iload_n hx hb dX2_octetAt_0 rfl (lv_at hl 1 rfl) ?_
  refine lv_if_lt (tgt := 23) hx hb dX2_octetAt_1 (by decide) (fun c9 => absurd c9 (nI_pos (by omega))) (fun _ => ?_)
  refine lv_iload_n hx hb dX2_octetAt_4 rfl (lv_at hl 1 rfl) ?_
  refine lv_bipush (v := (nI 32)) hx hb dX2_octetAt_5 (by decide) ?_
  refine lv_icmp_ge (tgt := 23) hx hb dX2_octetAt_7 (by decide) (fun c9 => absurd c9 (nI_ge (by omega) (by omega))) (fun _ => ?_)
  refine lv_aload_n hx hb dX2_octetAt_10 rfl (lv_at hl 0 rfl) ?_
  refine va_get (D := g.1) (ci := 3) (v := .ref kb) (C := RX2) (T := TX2) (N := 5) hx hb hts hiX2 hown hK.1 hP 0 rfl rfl 2 (by decide) (hts (.fieldLink RX2 9 "StampMaker$Key" "bytes" "[B") (by decide +kernel)) (fun _ h9 => h9) rfl dX2_octetAt_11 ?_
  refine lv_iload_n hx hb dX2_octetAt_14 rfl (lv_at hl 1 rfl) ?_
  refine va_bald hx hb hK.1 hP 1 1 rfl rfl (vp_in_nI (by omega) (by omega)) dX2_octetAt_15 ?_
  refine lv_rei (x' := f i) (congrArg f (nI_clamp (by omega))) ?_
  refine lv_sipush (v := (nI 255)) hx hb dX2_octetAt_16 (by decide) ?_
  refine lv_iand hx hb dX2_octetAt_19 ?_
  refine lv_goto (tgt := 24) hx hb dX2_octetAt_20 (by decide) ?_
  exact endRi hx hb hr hlocks dX2_octetAt_24 (rfl)

set_option maxHeartbeats 4000000 in
set_option maxRecDepth 100000 in
/-- closed -/
theorem c_X2_close (l : Launch) (g : gE) (hsz : Nat) (k kb : Nat) (fr un cn cl : Int32)  : Met l yX2_close wsX2_close ({ frames := 0, cells := 0, slots := 0, locals := 0 }) (va_Pc [.ref k] (wr g [(k, .inr (3, [.int fr, .int un, .ref kb, .int cn, .int cl]))] hsz)) (va_Qv (fun (u : Unit) => True) (wB g (va_A [(k, .inr (3, [.int fr, .int un, .ref kb, .int cn, .int cl]))] hsz) (fun u : Unit => [(k, .inr (3, [.int fr, .int un, .ref kb, .int cn, .int (nI 1)]))])) (va_A [(k, .inr (3, [.int fr, .int un, .ref kb, .int cn, .int cl]))] hsz)) 0 0 (va_A [(k, .inr (3, [.int fr, .int un, .ref kb, .int cn, .int cl]))] hsz) := by
  refine ofWv (cc := cX2_close) (maxL := 1) (ret := none) (by decide) rfl (Nat.le_of_ble_eq_true rfl) (fun p e s m below meth c hx hb hr hml hts hown hlocks hnm A H hH hA hP hD hK hZ hS ls hl => ?_)
  have hown : s.vm.findClass RX2 = some m.cls := hown
  have hl : lv_has ls 1 [(0, .ref k)] := hl
  have hiX2 : ∀ w ∈ wsX20, w ∈ wsX2_close := by decide +kernel
  refine lv_aload_n hx hb dX2_close_0 rfl (lv_at hl 0 rfl) ?_
  refine lv_iconst (v := (nI 1)) hx hb dX2_close_1 (by decide) ?_
  refine va_put (D := g.1) (ci := 3) (v := .int (nI 1)) (ty := .boolean) (C := RX2) (T := TX2) (N := 5) hx hb hts hiX2 tyX2 tyX2_ok nmX2 hown hK.1 hP hD hS 0 rfl rfl 4 (by decide) (hts (.fieldLink RX2 20 "StampMaker$Key" "closed" "Z") (by decide +kernel)) (fun _ h9 => h9) rfl (by decide +kernel) (by decide) (by decide) (Nat.le_of_ble_eq_true rfl) dX2_close_2 (fun H locs hP hD hS => ?_)
  have hP : va_P g.1 vwCl [(k, .inr (3, [.int fr, .int un, .ref kb, .int cn, .int (nI 1)]))] H := hP
  have hD : va_D A [(k, .inr (3, [.int fr, .int un, .ref kb, .int cn, .int (nI 1)]))] := hD
  exact endWv () hx hb hr hlocks hS dX2_close_5 hP hD (trivial)
