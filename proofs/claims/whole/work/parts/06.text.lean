/-- the first letter that is c, from place i on -/
def woG (c : Int32) : Nat → Nat → Nat
  | 0, i => i
  | k + 1, i => if aL i = c then i else woG c k (i + 1)
/-- which letter c is; 32: none -/
def wo (c : Int32) : Nat := woG c 32 0
/-- the same, -1 for none -/
def rW (c : Int32) : Int32 := if wo c < 32 then nI (wo c) else -1
theorem aL_char : ∀ a, a < 32 → ((aL a &&& nI 255).toUInt32 % 65536).toInt32 = aL a := by decide
theorem aL_nar : ∀ a, a < 32 → narrow .char (.int (aL a)) = .int (aL a) := by decide
set_option maxHeartbeats 4000000 in
set_option maxRecDepth 100000 in
/-- an index in its range -/
theorem c_J3_ci0 (l : Launch) (g : gE) (a b : Nat) (hab : a < b) (hb2 : b < 2147483648) : Met l yJ3_checkIndex_8e157 wsJ3_checkIndex_8e157 ({ frames := 0, cells := 0, slots := 0, locals := 0 }) (va_Pc [.int (nI a), .int (nI b), .null] (ro g [])) (vp_Si (fun r : Int32 => r = nI a)) 0 0 nA := by
  refine ofRo (cc := cJ3_checkIndex_8e157) (maxL := 3) (ret := (some .int)) (by decide) rfl (Nat.le_of_ble_eq_true rfl) (fun p e s m below meth c hx hb hr hml hts hown hlocks hnm hP hK hZ hS ls hl => ?_)
  have hown : s.vm.findClass RJ3 = some m.cls := hown
  have hl : lv_has ls 3 [(0, .int (nI a)), (1, .int (nI b)), (2, .null)] := hl
  refine lv_iload_n hx hb dJ3_checkIndex_8e157_0 rfl (lv_at hl 0 rfl) ?_
  refine lv_if_lt (tgt := 9) hx hb dJ3_checkIndex_8e157_1 (by decide) (fun c9 => absurd c9 (nI_pos (by omega))) (fun _ => ?_)
  refine lv_iload_n hx hb dJ3_checkIndex_8e157_4 rfl (lv_at hl 0 rfl) ?_
  refine lv_iload_n hx hb dJ3_checkIndex_8e157_5 rfl (lv_at hl 1 rfl) ?_
  refine lv_icmp_lt (tgt := 16) hx hb dJ3_checkIndex_8e157_6 (by decide) (fun _ => ?_) (fun c9 => absurd (nI_lt (by omega) (by omega)) c9)
  refine lv_iload_n hx hb dJ3_checkIndex_8e157_16 rfl (lv_at hl 0 rfl) ?_
  exact endRi hx hb hr hlocks dJ3_checkIndex_8e157_17 (rfl)

set_option maxHeartbeats 4000000 in
set_option maxRecDepth 100000 in
/-- an index in its range -/
theorem c_J3_ciR (l : Launch) (g : gE) (a b : Nat) (tq : Nat) (hab : a < b) (hb2 : b < 2147483648) : Met l yJ3_checkIndex_8e157 wsJ3_checkIndex_8e157 ({ frames := 0, cells := 0, slots := 0, locals := 0 }) (va_Pc [.int (nI a), .int (nI b), .ref tq] (ro g [])) (vp_Si (fun r : Int32 => r = nI a)) 0 0 nA := by
  refine ofRo (cc := cJ3_checkIndex_8e157) (maxL := 3) (ret := (some .int)) (by decide) rfl (Nat.le_of_ble_eq_true rfl) (fun p e s m below meth c hx hb hr hml hts hown hlocks hnm hP hK hZ hS ls hl => ?_)
  have hown : s.vm.findClass RJ3 = some m.cls := hown
  have hl : lv_has ls 3 [(0, .int (nI a)), (1, .int (nI b)), (2, .ref tq)] := hl
  refine lv_iload_n hx hb dJ3_checkIndex_8e157_0 rfl (lv_at hl 0 rfl) ?_
  refine lv_if_lt (tgt := 9) hx hb dJ3_checkIndex_8e157_1 (by decide) (fun c9 => absurd c9 (nI_pos (by omega))) (fun _ => ?_)
  refine lv_iload_n hx hb dJ3_checkIndex_8e157_4 rfl (lv_at hl 0 rfl) ?_
  refine lv_iload_n hx hb dJ3_checkIndex_8e157_5 rfl (lv_at hl 1 rfl) ?_
  refine lv_icmp_lt (tgt := 16) hx hb dJ3_checkIndex_8e157_6 (by decide) (fun _ => ?_) (fun c9 => absurd (nI_lt (by omega) (by omega)) c9)
  refine lv_iload_n hx hb dJ3_checkIndex_8e157_16 rfl (lv_at hl 0 rfl) ?_
  exact endRi hx hb hr hlocks dJ3_checkIndex_8e157_17 (rfl)

set_option maxHeartbeats 4000000 in
set_option maxRecDepth 100000 in
/-- an index in its range -/
theorem c_J0_checkIndex (l : Launch) (g : gE) (a b : Nat) (hab : a < b) (hb2 : b < 2147483648) : Met l yJ0_checkIndex_df160 wsJ0_checkIndex_df160 ({ frames := 1, cells := 0, slots := 0, locals := 22 }) (va_Pc [.int (nI a), .int (nI b)] (ro g [])) (va_Sv (fun r : Unit => True)) 0 0 nA := by
  refine ofRo (cc := cJ0_checkIndex_df160) (maxL := 2) (ret := none) (by decide) rfl (Nat.le_of_ble_eq_true rfl) (fun p e s m below meth c hx hb hr hml hts hown hlocks hnm hP hK hZ hS ls hl => ?_)
  have hown : s.vm.findClass RJ0 = some m.cls := hown
  have hl : lv_has ls 2 [(0, .int (nI a)), (1, .int (nI b))] := hl
  refine lv_iload_n hx hb dJ0_checkIndex_df160_0 rfl (lv_at hl 0 rfl) ?_
  refine lv_iload_n hx hb dJ0_checkIndex_df160_1 rfl (lv_at hl 1 rfl) ?_
  rcases hZ.2.2.2.2.2.1 with hq | ⟨tq, hq⟩
  · refine va_gets hx hb hq hS hown (hts (.fieldLink RJ0 1053 "jdk/internal/util/Preconditions" "SIOOBE_FORMATTER" "Ljava/util/function/BiFunction;") (by decide +kernel)) (fun _ h9 => h9) dJ0_checkIndex_df160_2 ?_
    refine cSi (rest := []) ⟨hx, hb, hml, hown, hts⟩ [.int (nI a), .int (nI b), .null] (c_J3_ci0 l g (a := a) (b := b) hab hb2) (va_cwS 3 hts gJ0_checkIndex_df160_J3_checkIndex_8e157 rfl rfl rfl (by decide +kernel) ⟨Nat.le_of_ble_eq_true rfl, Nat.le_of_ble_eq_true rfl⟩) hK hZ hS (subP hP [] rfl) rfl hl.1 rfl (Nat.le_of_ble_eq_true rfl) dJ0_checkIndex_df160_5 ⟨Nat.zero_le _, Nat.zero_le _⟩ (fun r_13 hr_13 => ?_)
    obtain rfl : r_13 = nI a := hr_13
    refine lv_pop hx hb dJ0_checkIndex_df160_8 rfl ?_
    exact endRv hx hb hr hlocks dJ0_checkIndex_df160_9 (trivial)
  · refine va_gets hx hb hq hS hown (hts (.fieldLink RJ0 1053 "jdk/internal/util/Preconditions" "SIOOBE_FORMATTER" "Ljava/util/function/BiFunction;") (by decide +kernel)) (fun _ h9 => h9) dJ0_checkIndex_df160_2 ?_
    refine cSi (rest := []) ⟨hx, hb, hml, hown, hts⟩ [.int (nI a), .int (nI b), .ref tq] (c_J3_ciR l g (a := a) (b := b) (tq := tq) hab hb2) (va_cwS 3 hts gJ0_checkIndex_df160_J3_checkIndex_8e157 rfl rfl rfl (by decide +kernel) ⟨Nat.le_of_ble_eq_true rfl, Nat.le_of_ble_eq_true rfl⟩) hK hZ hS (subP hP [] rfl) rfl hl.1 rfl (Nat.le_of_ble_eq_true rfl) dJ0_checkIndex_df160_5 ⟨Nat.zero_le _, Nat.zero_le _⟩ (fun r_14 hr_14 => ?_)
    obtain rfl : r_14 = nI a := hr_14
    refine lv_pop hx hb dJ0_checkIndex_df160_8 rfl ?_
    exact endRv hx hb hr hlocks dJ0_checkIndex_df160_9 (trivial)

set_option maxHeartbeats 4000000 in
set_option maxRecDepth 100000 in
/-- the letter at a -/
theorem c_J1_charAt (l : Launch) (g : gE) (a : Nat) (ha : a < 32) : Met l yJ1_charAt_3b067 wsJ1_charAt_3b067 ({ frames := 2, cells := 0, slots := 0, locals := 43 }) (va_Pc [.ref (g.2.2 3), .int (nI a)] (ro g [])) (vp_Si (fun r : Int32 => r = aL a)) 0 0 nA := by
  refine ofRo (cc := cJ1_charAt_3b067) (maxL := 2) (ret := (some .char)) (by decide) rfl (Nat.le_of_ble_eq_true rfl) (fun p e s m below meth c hx hb hr hml hts hown hlocks hnm hP hK hZ hS ls hl => ?_)
  have hown : s.vm.findClass RJ1 = some m.cls := hown
  have hl : lv_has ls 2 [(0, .ref (g.2.2 3)), (1, .int (nI a))] := hl
  refine lv_iload_n hx hb dJ1_charAt_3b067_0 rfl (lv_at hl 1 rfl) ?_
  refine lv_aload_n hx hb dJ1_charAt_3b067_1 rfl (lv_at hl 0 rfl) ?_
  refine va_tlen (v := nI 32) hx hb (hZ.2.2.2.2.2.2.1.1 0 (by decide)).2.2.2 hS rfl dJ1_charAt_3b067_2 ?_
  refine cSv (rest := []) ⟨hx, hb, hml, hown, hts⟩ [.int (nI a), .int (nI 32)] (c_J0_checkIndex l g (a := a) (b := 32) ha (by decide)) (va_cwS 2 hts gJ1_charAt_3b067_J0_checkIndex_df160 rfl rfl rfl (by decide +kernel) ⟨Nat.le_of_ble_eq_true rfl, Nat.le_of_ble_eq_true rfl⟩) hK hZ hS (subP hP [] rfl) rfl hl.1 rfl (Nat.le_of_ble_eq_true rfl) dJ1_charAt_3b067_3 ⟨Nat.zero_le _, Nat.zero_le _⟩ (fun hr_15 => ?_)
  refine lv_aload_n hx hb dJ1_charAt_3b067_6 rfl (lv_at hl 0 rfl) ?_
  refine lv_iload_n hx hb dJ1_charAt_3b067_7 rfl (lv_at hl 1 rfl) ?_
  refine va_tb (v := .int (aL a)) hx hb (hZ.2.2.2.2.2.2.1.1 0 (by decide)).2.2.2 hS (vp_in_nI (show a < 32 by omega) (by decide)) (by rw [nI_clamp (by omega)]; rfl) dJ1_charAt_3b067_8 ?_
  refine lv_sipush (v := (nI 255)) hx hb dJ1_charAt_3b067_9 (by decide) ?_
  refine lv_iand hx hb dJ1_charAt_3b067_12 ?_
  refine lv_i2c hx hb dJ1_charAt_3b067_13 rfl ?_
  refine lv_rei (x' := aL a) (aL_char a ha) ?_
  exact endRz hx hb hr hlocks dJ1_charAt_3b067_14 (aL_nar a ha) (rfl)

set_option maxHeartbeats 4000000 in
set_option maxRecDepth 100000 in
/-- the constant is latin -/
theorem c_J0_isLatin1 (l : Launch) (g : gE)   : Met l yJ0_isLatin1_aae02 wsJ0_isLatin1_aae02 ({ frames := 0, cells := 0, slots := 0, locals := 0 }) (va_Pc [.ref (g.2.2 2)] (ro g [])) (vp_Si (fun r : Int32 => r = 1)) 0 0 nA := by
  refine ofRo (cc := cJ0_isLatin1_aae02) (maxL := 1) (ret := (some .boolean)) (by decide) rfl (Nat.le_of_ble_eq_true rfl) (fun p e s m below meth c hx hb hr hml hts hown hlocks hnm hP hK hZ hS ls hl => ?_)
  have hown : s.vm.findClass RJ0 = some m.cls := hown
  have hl : lv_has ls 1 [(0, .ref (g.2.2 2))] := hl
  have hiJ0 : ∀ w ∈ wsJ00, w ∈ wsJ0_isLatin1_aae02 := by decide +kernel
  refine va_gets hx hb hZ.2.2.2.2.1 hS hown (hts (.fieldLink RJ0 38 "java/lang/String" "COMPACT_STRINGS" "Z") (by decide +kernel)) (fun _ h9 => h9) dJ0_isLatin1_aae02_0 ?_
  refine lv_if_eq (tgt := 17) hx hb dJ0_isLatin1_aae02_3 (by decide) (fun c9 => absurd c9 (by decide)) (fun _ => ?_)
  refine lv_aload_n hx hb dJ0_isLatin1_aae02_6 rfl (lv_at hl 0 rfl) ?_
  refine vk_getf hx hb (hZ.2.2.2.2.2.2.1.1 0 (by decide)).2.1 hS hown (hts (.fieldLink RJ0 15 "java/lang/String" "coder" "B") (by decide +kernel)) (fun _ h9 => h9) dJ0_isLatin1_aae02_7 ?_
  refine lv_if_ne (tgt := 17) hx hb dJ0_isLatin1_aae02_10 (by decide) (fun c9 => absurd ((rfl : (0 : Int32) = 0)) c9) (fun _ => ?_)
  refine lv_iconst (v := (nI 1)) hx hb dJ0_isLatin1_aae02_13 (by decide) ?_
  refine lv_goto (tgt := 18) hx hb dJ0_isLatin1_aae02_14 (by decide) ?_
  exact endRz hx hb hr hlocks dJ0_isLatin1_aae02_18 (by decide) (rfl)

set_option maxHeartbeats 4000000 in
set_option maxRecDepth 100000 in
/-- its coder -/
theorem c_J0_coder (l : Launch) (g : gE)   : Met l yJ0_coder_7d493 wsJ0_coder_7d493 ({ frames := 0, cells := 0, slots := 0, locals := 0 }) (va_Pc [.ref (g.2.2 2)] (ro g [])) (vp_Si (fun r : Int32 => r = 0)) 0 0 nA := by
  refine ofRo (cc := cJ0_coder_7d493) (maxL := 1) (ret := (some .byte)) (by decide) rfl (Nat.le_of_ble_eq_true rfl) (fun p e s m below meth c hx hb hr hml hts hown hlocks hnm hP hK hZ hS ls hl => ?_)
  have hown : s.vm.findClass RJ0 = some m.cls := hown
  have hl : lv_has ls 1 [(0, .ref (g.2.2 2))] := hl
  have hiJ0 : ∀ w ∈ wsJ00, w ∈ wsJ0_coder_7d493 := by decide +kernel
  refine va_gets hx hb hZ.2.2.2.2.1 hS hown (hts (.fieldLink RJ0 38 "java/lang/String" "COMPACT_STRINGS" "Z") (by decide +kernel)) (fun _ h9 => h9) dJ0_coder_7d493_0 ?_
  refine lv_if_eq (tgt := 13) hx hb dJ0_coder_7d493_3 (by decide) (fun c9 => absurd c9 (by decide)) (fun _ => ?_)
  refine lv_aload_n hx hb dJ0_coder_7d493_6 rfl (lv_at hl 0 rfl) ?_
  refine vk_getf hx hb (hZ.2.2.2.2.2.2.1.1 0 (by decide)).2.1 hS hown (hts (.fieldLink RJ0 15 "java/lang/String" "coder" "B") (by decide +kernel)) (fun _ h9 => h9) dJ0_coder_7d493_7 ?_
  refine lv_goto (tgt := 14) hx hb dJ0_coder_7d493_10 (by decide) ?_
  exact endRz hx hb hr hlocks dJ0_coder_7d493_14 (by decide) (rfl)

set_option maxHeartbeats 4000000 in
set_option maxRecDepth 100000 in
/-- its length -/
theorem c_J0_length (l : Launch) (g : gE)   : Met l yJ0_length_8abf5 wsJ0_length_8abf5 ({ frames := 1, cells := 0, slots := 0, locals := 20 }) (va_Pc [.ref (g.2.2 2)] (ro g [])) (vp_Si (fun r : Int32 => r = nI 32)) 0 0 nA := by
  refine ofRo (cc := cJ0_length_8abf5) (maxL := 1) (ret := (some .int)) (by decide) rfl (Nat.le_of_ble_eq_true rfl) (fun p e s m below meth c hx hb hr hml hts hown hlocks hnm hP hK hZ hS ls hl => ?_)
  have hown : s.vm.findClass RJ0 = some m.cls := hown
  have hl : lv_has ls 1 [(0, .ref (g.2.2 2))] := hl
  have hiJ0 : ∀ w ∈ wsJ00, w ∈ wsJ0_length_8abf5 := by decide +kernel
  refine lv_aload_n hx hb dJ0_length_8abf5_0 rfl (lv_at hl 0 rfl) ?_
  refine vk_getf hx hb (hZ.2.2.2.2.2.2.1.1 0 (by decide)).2.2.1 hS hown (hts (.fieldLink RJ0 9 "java/lang/String" "value" "[B") (by decide +kernel)) (fun _ h9 => h9) dJ0_length_8abf5_1 ?_
  refine va_tlen (v := nI 32) hx hb (hZ.2.2.2.2.2.2.1.1 0 (by decide)).2.2.2 hS rfl dJ0_length_8abf5_4 ?_
  refine lv_aload_n hx hb dJ0_length_8abf5_5 rfl (lv_at hl 0 rfl) ?_
  refine cVi (rest := [.int (nI 32)]) ⟨hx, hb, hml, hown, hts⟩ [] (c_J0_coder l g ) (cwV 0 hts gJ0_length_8abf5_J0_coder_7d493 rfl rfl rfl (by decide +kernel) ⟨Nat.le_of_ble_eq_true rfl, Nat.le_of_ble_eq_true rfl⟩) hK hZ hS (subP hP [] rfl) (vk_recv (i := 0) hZ.2.2.2.2.2.2.1 (by decide) hS) rfl hl.1 rfl (Nat.le_of_ble_eq_true rfl) dJ0_length_8abf5_6 ⟨Nat.zero_le _, Nat.zero_le _⟩ (fun r_16 hr_16 => ?_)
  obtain rfl : r_16 = 0 := hr_16
  refine lv_ishr hx hb dJ0_length_8abf5_9 ?_
  exact endRi hx hb hr hlocks dJ0_length_8abf5_10 (by decide)

set_option maxHeartbeats 4000000 in
set_option maxRecDepth 100000 in
/-- its letter at a -/
theorem c_J0_charAt (l : Launch) (g : gE) (a : Nat) (ha : a < 32) : Met l yJ0_charAt_5068e wsJ0_charAt_5068e ({ frames := 3, cells := 0, slots := 0, locals := 64 }) (va_Pc [.ref (g.2.2 2), .int (nI a)] (ro g [])) (vp_Si (fun r : Int32 => r = aL a)) 0 0 nA := by
  refine ofRo (cc := cJ0_charAt_5068e) (maxL := 2) (ret := (some .char)) (by decide) rfl (Nat.le_of_ble_eq_true rfl) (fun p e s m below meth c hx hb hr hml hts hown hlocks hnm hP hK hZ hS ls hl => ?_)
  have hown : s.vm.findClass RJ0 = some m.cls := hown
  have hl : lv_has ls 2 [(0, .ref (g.2.2 2)), (1, .int (nI a))] := hl
  have hiJ0 : ∀ w ∈ wsJ00, w ∈ wsJ0_charAt_5068e := by decide +kernel
  refine lv_aload_n hx hb dJ0_charAt_5068e_0 rfl (lv_at hl 0 rfl) ?_
  refine cVi (rest := []) ⟨hx, hb, hml, hown, hts⟩ [] (c_J0_isLatin1 l g ) (cwV 0 hts gJ0_charAt_5068e_J0_isLatin1_aae02 rfl rfl rfl (by decide +kernel) ⟨Nat.le_of_ble_eq_true rfl, Nat.le_of_ble_eq_true rfl⟩) hK hZ hS (subP hP [] rfl) (vk_recv (i := 0) hZ.2.2.2.2.2.2.1 (by decide) hS) rfl hl.1 rfl (Nat.le_of_ble_eq_true rfl) dJ0_charAt_5068e_1 ⟨Nat.zero_le _, Nat.zero_le _⟩ (fun r_17 hr_17 => ?_)
  obtain rfl : r_17 = 1 := hr_17
  refine lv_if_eq (tgt := 16) hx hb dJ0_charAt_5068e_4 (by decide) (fun c9 => absurd c9 (by decide)) (fun _ => ?_)
  refine lv_aload_n hx hb dJ0_charAt_5068e_7 rfl (lv_at hl 0 rfl) ?_
  refine vk_getf hx hb (hZ.2.2.2.2.2.2.1.1 0 (by decide)).2.2.1 hS hown (hts (.fieldLink RJ0 9 "java/lang/String" "value" "[B") (by decide +kernel)) (fun _ h9 => h9) dJ0_charAt_5068e_8 ?_
  refine lv_iload_n hx hb dJ0_charAt_5068e_11 rfl (lv_at hl 1 rfl) ?_
  refine cSi (rest := []) ⟨hx, hb, hml, hown, hts⟩ [.ref (g.2.2 3), .int (nI a)] (c_J1_charAt l g (a := a) ha) (va_cwS 2 hts gJ0_charAt_5068e_J1_charAt_3b067 rfl rfl rfl (by decide +kernel) ⟨Nat.le_of_ble_eq_true rfl, Nat.le_of_ble_eq_true rfl⟩) hK hZ hS (subP hP [] rfl) rfl hl.1 rfl (Nat.le_of_ble_eq_true rfl) dJ0_charAt_5068e_12 ⟨Nat.zero_le _, Nat.zero_le _⟩ (fun r_18 hr_18 => ?_)
  obtain rfl : r_18 = aL a := hr_18
  exact endRz hx hb hr hlocks dJ0_charAt_5068e_15 (aL_nar a ha) (rfl)

set_option maxHeartbeats 4000000 in
set_option maxRecDepth 100000 in
/-- the letter of the low five bits -/
theorem c_X4_letterFor (l : Launch) (g : gE) (x : Int32)  : Met l yX4_letterFor wsX4_letterFor ({ frames := 4, cells := 0, slots := 0, locals := 85 }) (va_Pc [.int x] (ro g [])) (vp_Si (fun r : Int32 => r = aL (x.toBitVec.toNat % 32))) 0 0 nA := by
  refine ofRo (cc := cX4_letterFor) (maxL := 1) (ret := (some .int)) (by decide) rfl (Nat.le_of_ble_eq_true rfl) (fun p e s m below meth c hx hb hr hml hts hown hlocks hnm hP hK hZ hS ls hl => ?_)
  have hown : s.vm.findClass RX4 = some m.cls := hown
  have hl : lv_has ls 1 [(0, .int x)] := hl
  refine va_ldcS hx hb hown hK.2.2.2.2.1 dX4_letterFor_0 ?_
  refine lv_iload_n hx hb dX4_letterFor_2 rfl (lv_at hl 0 rfl) ?_
  refine lv_bipush (v := (nI 31)) hx hb dX4_letterFor_3 (by decide) ?_
  refine lv_iand hx hb dX4_letterFor_5 ?_
  refine lv_rei (x' := (nI (x.toBitVec.toNat % 32))) (pk_and x 5 (by decide)) ?_
  refine cVi (rest := []) ⟨hx, hb, hml, hown, hts⟩ [.int (nI (x.toBitVec.toNat % 32))] (c_J0_charAt l g (a := (x.toBitVec.toNat % 32)) (Nat.mod_lt _ (by decide))) (cwV 1 hts gX4_letterFor_J0_charAt_5068e rfl rfl rfl (by decide +kernel) ⟨Nat.le_of_ble_eq_true rfl, Nat.le_of_ble_eq_true rfl⟩) hK hZ hS (subP hP [] rfl) (vk_recv (i := 0) hZ.2.2.2.2.2.2.1 (by decide) hS) rfl hl.1 rfl (Nat.le_of_ble_eq_true rfl) dX4_letterFor_6 ⟨Nat.zero_le _, Nat.zero_le _⟩ (fun r_19 hr_19 => ?_)
  obtain rfl : r_19 = aL (x.toBitVec.toNat % 32) := hr_19
  exact endRi hx hb hr hlocks dX4_letterFor_9 (rfl)

set_option maxHeartbeats 4000000 in
set_option maxRecDepth 100000 in
/-- letter a -/
theorem c_X5_sign (l : Launch) (g : gE) (a : Nat) (ha : a < 32) : Met l yX5_sign wsX5_sign ({ frames := 4, cells := 0, slots := 0, locals := 85 }) (va_Pc [.int (nI a)] (ro g [])) (vp_Si (fun r : Int32 => r = aL a)) 0 0 nA := by
  refine ofRo (cc := cX5_sign) (maxL := 1) (ret := (some .int)) (by decide) rfl (Nat.le_of_ble_eq_true rfl) (fun p e s m below meth c hx hb hr hml hts hown hlocks hnm hP hK hZ hS ls hl => ?_)
  have hown : s.vm.findClass RX5 = some m.cls := hown
  have hl : lv_has ls 1 [(0, .int (nI a))] := hl
  refine va_ldcS hx hb hown hK.2.2.2.2.2 dX5_sign_0 ?_
  refine lv_iload_n hx hb dX5_sign_2 rfl (lv_at hl 0 rfl) ?_
  refine cVi (rest := []) ⟨hx, hb, hml, hown, hts⟩ [.int (nI a)] (c_J0_charAt l g (a := a) ha) (cwV 1 hts gX5_sign_J0_charAt_5068e rfl rfl rfl (by decide +kernel) ⟨Nat.le_of_ble_eq_true rfl, Nat.le_of_ble_eq_true rfl⟩) hK hZ hS (subP hP [] rfl) (vk_recv (i := 0) hZ.2.2.2.2.2.2.1 (by decide) hS) rfl hl.1 rfl (Nat.le_of_ble_eq_true rfl) dX5_sign_3 ⟨Nat.zero_le _, Nat.zero_le _⟩ (fun r_20 hr_20 => ?_)
  obtain rfl : r_20 = aL a := hr_20
  exact endRi hx hb hr hlocks dX5_sign_6 (rfl)

set_option maxHeartbeats 4000000 in
set_option maxRecDepth 100000 in
/-- which letter x is -/
theorem c_X4_worthOf (l : Launch) (g : gE) (x : Int32)  : Met l yX4_worthOf wsX4_worthOf ({ frames := 4, cells := 0, slots := 0, locals := 85 }) (va_Pc [.int x] (ro g [])) (vp_Si (fun r : Int32 => r = rW x)) 0 0 nA := by
  refine ofRo (cc := cX4_worthOf) (maxL := 2) (ret := (some .int)) (by decide) rfl (Nat.le_of_ble_eq_true rfl) (fun p e s m below meth c hx hb hr hml hts hown hlocks hnm hP hK hZ hS ls hl => ?_)
  have hown : s.vm.findClass RX4 = some m.cls := hown
  have hl : lv_has ls 2 [(0, .int x)] := hl
  refine lv_iconst (v := (nI 0)) hx hb dX4_worthOf_0 (by decide) ?_
  refine lv_istore_n (lv' := [(1, .int (nI 0)), (0, .int x)]) hx hb dX4_worthOf_1 rfl hl (by decide) rfl (fun ls hl => ?_)
  have L1 : ∀ (fu : Nat) (i : Nat), (33 ≤ i + fu) → (i ≤ 32) → (woG x (32 - i) i = wo x) → ∀ ls : Array Slot, lv_has ls 2 [(0, .int x), (1, .int (nI i))] → W p l e (headSpec wsX4_worthOf ({ frames := 4, cells := 0, slots := 0, locals := 85 } : Room)).room s m ([.int x] : List Value).toArray below meth c s.heap [] 0 0 (MQ below (vp_Si (fun r : Int32 => r = rW x)) ([.int x] : List Value).toArray s 0 0 nA) (F0 m 2 ls []) := by
    intro fu
    induction fu with
    | zero => intro i h1 h2 h3 ls hl; exact absurd h1 (by omega)
    | succ fu ihL1 =>
      intro i h1 h2 h3 ls hl
      refine lv_iload_n hx hb dX4_worthOf_2 rfl (lv_at hl 1 rfl) ?_
      refine va_ldcS hx hb hown hK.2.2.2.2.1 dX4_worthOf_3 ?_
      refine cVi (rest := [.int (nI i)]) ⟨hx, hb, hml, hown, hts⟩ [] (c_J0_length l g ) (cwV 0 hts gX4_worthOf_J0_length_8abf5 rfl rfl rfl (by decide +kernel) ⟨Nat.le_of_ble_eq_true rfl, Nat.le_of_ble_eq_true rfl⟩) hK hZ hS (subP hP [] rfl) (vk_recv (i := 0) hZ.2.2.2.2.2.2.1 (by decide) hS) rfl hl.1 rfl (Nat.le_of_ble_eq_true rfl) dX4_worthOf_5 ⟨Nat.zero_le _, Nat.zero_le _⟩ (fun r_21 hr_21 => ?_)
      obtain rfl : r_21 = nI 32 := hr_21
      refine lv_icmp_ge (tgt := 29) hx hb dX4_worthOf_8 (by decide) (fun c_22 => ?_) (fun c_22 => ?_)
      · refine lv_iconst (v := (-1)) hx hb dX4_worthOf_29 (by decide) ?_
        exact endRi hx hb hr hlocks dX4_worthOf_30 (by
                    have e : i = 32 := by rcases Nat.lt_or_ge i 32 with q | q; exact absurd c_22 (nI_ge q (by omega)); omega
                    subst e
                    have h4 : wo x = 32 := h3.symm
                    show (-1 : Int32) = rW x
                    unfold rW
                    rw [if_neg (by omega)])
      · have hi : i < 32 := by rcases Nat.lt_or_ge i 32 with q | q; exact q; exact absurd (nI_le q (by omega)) c_22
        refine va_ldcS hx hb hown hK.2.2.2.2.1 dX4_worthOf_11 ?_
        refine lv_iload_n hx hb dX4_worthOf_13 rfl (lv_at hl 1 rfl) ?_
        refine cVi (rest := []) ⟨hx, hb, hml, hown, hts⟩ [.int (nI i)] (c_J0_charAt l g (a := i) hi) (cwV 1 hts gX4_worthOf_J0_charAt_5068e rfl rfl rfl (by decide +kernel) ⟨Nat.le_of_ble_eq_true rfl, Nat.le_of_ble_eq_true rfl⟩) hK hZ hS (subP hP [] rfl) (vk_recv (i := 0) hZ.2.2.2.2.2.2.1 (by decide) hS) rfl hl.1 rfl (Nat.le_of_ble_eq_true rfl) dX4_worthOf_14 ⟨Nat.zero_le _, Nat.zero_le _⟩ (fun r_23 hr_23 => ?_)
        obtain rfl : r_23 = aL i := hr_23
        refine lv_iload_n hx hb dX4_worthOf_17 rfl (lv_at hl 0 rfl) ?_
        have h5 : woG x (32 - i) i = if aL i = x then i else woG x (32 - (i + 1)) (i + 1) := by rw [show 32 - i = (32 - (i + 1)) + 1 by omega]; rfl
        refine lv_icmp_ne (tgt := 23) hx hb dX4_worthOf_18 (by decide) (fun c_24 => ?_) (fun c_24 => ?_)
        · refine lv_iinc (v := (nI (i + 1))) (lv' := [(1, .int (nI (i + 1))), (0, .int x)]) hx hb dX4_worthOf_23 hl (k := 1) rfl (nI_1 _) (by decide) rfl (fun ls hl => ?_)
          refine lv_goto (tgt := 2) hx hb dX4_worthOf_26 (by decide) ?_
          exact ihL1 (i + 1) (by omega) (by omega) (by rw [← h3, h5, if_neg c_24]) ls (lv_sub hl [1, 0] rfl)
        · refine lv_iload_n hx hb dX4_worthOf_21 rfl (lv_at hl 1 rfl) ?_
          exact endRi hx hb hr hlocks dX4_worthOf_22 (by
                        rw [if_pos c_24] at h5
                        have h4 : wo x = i := by rw [← h3, h5]
                        show nI i = rW x
                        unfold rW
                        rw [h4, if_pos hi])
  exact L1 33 0 (by omega) (by omega) (rfl) ls (lv_sub hl [1, 0] rfl)

set_option maxHeartbeats 4000000 in
set_option maxRecDepth 100000 in
/-- which letter x is -/
theorem c_X5_valueOf (l : Launch) (g : gE) (x : Int32)  : Met l yX5_valueOf wsX5_valueOf ({ frames := 5, cells := 0, slots := 0, locals := 105 }) (va_Pc [.int x] (ro g [])) (vp_Si (fun r : Int32 => r = rW x)) 0 0 nA := by
  refine ofRo (cc := cX5_valueOf) (maxL := 2) (ret := (some .int)) (by decide) rfl (Nat.le_of_ble_eq_true rfl) (fun p e s m below meth c hx hb hr hml hts hown hlocks hnm hP hK hZ hS ls hl => ?_)
  have hown : s.vm.findClass RX5 = some m.cls := hown
  have hl : lv_has ls 2 [(0, .int x)] := hl
  refine lv_iconst (v := (nI 0)) hx hb dX5_valueOf_0 (by decide) ?_
  refine lv_istore_n (lv' := [(1, .int (nI 0)), (0, .int x)]) hx hb dX5_valueOf_1 rfl hl (by decide) rfl (fun ls hl => ?_)
  have L1 : ∀ (fu : Nat) (i : Nat), (33 ≤ i + fu) → (i ≤ 32) → (woG x (32 - i) i = wo x) → ∀ ls : Array Slot, lv_has ls 2 [(0, .int x), (1, .int (nI i))] → W p l e (headSpec wsX5_valueOf ({ frames := 5, cells := 0, slots := 0, locals := 105 } : Room)).room s m ([.int x] : List Value).toArray below meth c s.heap [] 0 0 (MQ below (vp_Si (fun r : Int32 => r = rW x)) ([.int x] : List Value).toArray s 0 0 nA) (F0 m 2 ls []) := by
    intro fu
    induction fu with
    | zero => intro i h1 h2 h3 ls hl; exact absurd h1 (by omega)
    | succ fu ihL1 =>
      intro i h1 h2 h3 ls hl
      refine lv_iload_n hx hb dX5_valueOf_2 rfl (lv_at hl 1 rfl) ?_
      refine lv_bipush (v := (nI 32)) hx hb dX5_valueOf_3 (by decide) ?_
      refine lv_icmp_ge (tgt := 24) hx hb dX5_valueOf_5 (by decide) (fun c_25 => ?_) (fun c_25 => ?_)
      · refine lv_iconst (v := (-1)) hx hb dX5_valueOf_24 (by decide) ?_
        exact endRi hx hb hr hlocks dX5_valueOf_25 (by
                    have e : i = 32 := by rcases Nat.lt_or_ge i 32 with q | q; exact absurd c_25 (nI_ge q (by omega)); omega
                    subst e
                    have h4 : wo x = 32 := h3.symm
                    show (-1 : Int32) = rW x
                    unfold rW
                    rw [if_neg (by omega)])
      · have hi : i < 32 := by rcases Nat.lt_or_ge i 32 with q | q; exact q; exact absurd (nI_le q (by omega)) c_25
        refine lv_iload_n hx hb dX5_valueOf_8 rfl (lv_at hl 1 rfl) ?_
        refine cSi (rest := []) ⟨hx, hb, hml, hown, hts⟩ [.int (nI i)] (c_X5_sign l g (a := i) hi) (va_cwS 1 hts gX5_valueOf_X5_sign rfl rfl rfl (by decide +kernel) ⟨Nat.le_of_ble_eq_true rfl, Nat.le_of_ble_eq_true rfl⟩) hK hZ hS (subP hP [] rfl) rfl hl.1 rfl (Nat.le_of_ble_eq_true rfl) dX5_valueOf_9 ⟨Nat.zero_le _, Nat.zero_le _⟩ (fun r_26 hr_26 => ?_)
        obtain rfl : r_26 = aL i := hr_26
        refine lv_iload_n hx hb dX5_valueOf_12 rfl (lv_at hl 0 rfl) ?_
        have h5 : woG x (32 - i) i = if aL i = x then i else woG x (32 - (i + 1)) (i + 1) := by rw [show 32 - i = (32 - (i + 1)) + 1 by omega]; rfl
        refine lv_icmp_ne (tgt := 18) hx hb dX5_valueOf_13 (by decide) (fun c_27 => ?_) (fun c_27 => ?_)
        · refine lv_iinc (v := (nI (i + 1))) (lv' := [(1, .int (nI (i + 1))), (0, .int x)]) hx hb dX5_valueOf_18 hl (k := 1) rfl (nI_1 _) (by decide) rfl (fun ls hl => ?_)
          refine lv_goto (tgt := 2) hx hb dX5_valueOf_21 (by decide) ?_
          exact ihL1 (i + 1) (by omega) (by omega) (by rw [← h3, h5, if_neg c_27]) ls (lv_sub hl [1, 0] rfl)
        · refine lv_iload_n hx hb dX5_valueOf_16 rfl (lv_at hl 1 rfl) ?_
          exact endRi hx hb hr hlocks dX5_valueOf_17 (by
                        rw [if_pos c_27] at h5
                        have h4 : wo x = i := by rw [← h3, h5]
                        show nI i = rW x
                        unfold rW
                        rw [h4, if_pos hi])
  exact L1 33 0 (by omega) (by omega) (rfl) ls (lv_sub hl [1, 0] rfl)
